section SITES
variable {d : Nat} {Q : zQ} {st : List zV} {G : zG} {h : zM} {k : zK} {x y i : Int} {r r1 r2 q : Nat} {w9 : Option Nat ⊕ Nat} {q9 : Option Nat} {v0 v1 v2 v3 v4 : zV} {l0 l1 l2 l3 l4 l5 l6 l7 l8 l9 l10 l11 l12 l13 l14 l15 : Option zV}
theorem e0_0 : zE 0 d Q 0 [some (.inr (.inr w9))] st G h k ↔ zE 0 d Q 1 [some (.inr (.inr w9))] (.inr (.inr w9) :: st) G h k := E_aload_n (by rfl) rfl
theorem e0_1 : zE 0 d Q 1 [l0] (zR (some r) :: []) G h k ↔ zE 0 d Q 4 [l0] [] G h k := E_objInit (by rfl) rfl (by decide)
theorem e0_4 : zE 0 d Q 4 [some (.inr (.inr w9))] st G h k ↔ zE 0 d Q 5 [some (.inr (.inr w9))] (.inr (.inr w9) :: st) G h k := E_aload_n (by rfl) rfl
theorem e0_5 : zE 0 d Q 5 [l0] st G h k ↔ zE 0 d Q 6 [l0] (zI 0 :: st) G h k := E_iconst (by rfl)
theorem e0_6 : zE 0 d Q 6 [l0] (zI x :: zR (some r) :: st) G h k ↔ (G.2.1 r = 0 ∧ zE 0 d Q 9 [l0] st G (zu h r 0 x) k) := E_putI (by rfl) rfl
theorem e0_9 : zE 0 d Q 9 [some (.inr (.inr w9))] st G h k ↔ zE 0 d Q 10 [some (.inr (.inr w9))] (.inr (.inr w9) :: st) G h k := E_aload_n (by rfl) rfl
theorem e0_10 : zE 0 d Q 10 [l0] st G h k ↔ zE 0 d Q 13 [l0] (zI 492 :: st) G h k := E_sipush (by rfl)
theorem e0_13 : zE 0 d Q 13 [l0] (zI i :: st) G h k ↔ (0 ≤ i ∧ i ≤ 1000000 ∧ k.1 + 1 ≤ 6 ∧ k.2 + i.toNat ≤ 939 ∧ zE 0 d Q 15 [l0] (zR (some G.1) :: st) (zgn G 10 i.toNat) (zhn h G.1) (k.1 + 1, k.2 + i.toNat)) := E_newarray (by rfl)
theorem e0_15 : zE 0 d Q 15 [l0] (zR q9 :: zR (some r) :: st) G h k ↔ (G.2.1 r = 0 ∧ zE 0 d Q 18 [l0] st (zgu G r 1 q9) h k) := E_putR (by rfl) rfl
theorem e0_18 : zE 0 d Q 18 [some (.inr (.inr w9))] st G h k ↔ zE 0 d Q 19 [some (.inr (.inr w9))] (.inr (.inr w9) :: st) G h k := E_aload_n (by rfl) rfl
theorem e0_19 : zE 0 d Q 19 [l0] st G h k ↔ zE 0 d Q 21 [l0] (zI 123 :: st) G h k := E_bipush (by rfl)
theorem e0_21 : zE 0 d Q 21 [l0] (zI i :: st) G h k ↔ (0 ≤ i ∧ i ≤ 1000000 ∧ k.1 + 1 ≤ 6 ∧ k.2 + i.toNat ≤ 939 ∧ zE 0 d Q 23 [l0] (zR (some G.1) :: st) (zgn G 10 i.toNat) (zhn h G.1) (k.1 + 1, k.2 + i.toNat)) := E_newarray (by rfl)
theorem e0_23 : zE 0 d Q 23 [l0] (zR q9 :: zR (some r) :: st) G h k ↔ (G.2.1 r = 0 ∧ zE 0 d Q 26 [l0] st (zgu G r 2 q9) h k) := E_putR (by rfl) rfl
theorem e0_26 : zE 0 d Q 26 [some (.inr (.inr w9))] st G h k ↔ zE 0 d Q 27 [some (.inr (.inr w9))] (.inr (.inr w9) :: st) G h k := E_aload_n (by rfl) rfl
theorem e0_27 : zE 0 d Q 27 [l0] st G h k ↔ zE 0 d Q 29 [l0] (zI 123 :: st) G h k := E_bipush (by rfl)
theorem e0_29 : zE 0 d Q 29 [l0] (zI i :: st) G h k ↔ (0 ≤ i ∧ i ≤ 1000000 ∧ k.1 + 1 ≤ 6 ∧ k.2 + i.toNat ≤ 939 ∧ zE 0 d Q 31 [l0] (zR (some G.1) :: st) (zgn G 10 i.toNat) (zhn h G.1) (k.1 + 1, k.2 + i.toNat)) := E_newarray (by rfl)
theorem e0_31 : zE 0 d Q 31 [l0] (zR q9 :: zR (some r) :: st) G h k ↔ (G.2.1 r = 0 ∧ zE 0 d Q 34 [l0] st (zgu G r 3 q9) h k) := E_putR (by rfl) rfl
theorem e0_34 : zE 0 d Q 34 [some (.inr (.inr w9))] st G h k ↔ zE 0 d Q 35 [some (.inr (.inr w9))] (.inr (.inr w9) :: st) G h k := E_aload_n (by rfl) rfl
theorem e0_35 : zE 0 d Q 35 [l0] st G h k ↔ zE 0 d Q 37 [l0] (zI 41 :: st) G h k := E_bipush (by rfl)
theorem e0_37 : zE 0 d Q 37 [l0] (zI i :: st) G h k ↔ (0 ≤ i ∧ i ≤ 1000000 ∧ k.1 + 1 ≤ 6 ∧ k.2 + i.toNat ≤ 939 ∧ zE 0 d Q 39 [l0] (zR (some G.1) :: st) (zgn G 10 i.toNat) (zhn h G.1) (k.1 + 1, k.2 + i.toNat)) := E_newarray (by rfl)
theorem e0_39 : zE 0 d Q 39 [l0] (zR q9 :: zR (some r) :: st) G h k ↔ (G.2.1 r = 0 ∧ zE 0 d Q 42 [l0] st (zgu G r 4 q9) h k) := E_putR (by rfl) rfl
theorem e0_42 : zE 0 d Q 42 [some (.inr (.inr w9))] st G h k ↔ zE 0 d Q 43 [some (.inr (.inr w9))] (.inr (.inr w9) :: st) G h k := E_aload_n (by rfl) rfl
theorem e0_43 : zE 0 d Q 43 [l0] st G h k ↔ zE 0 d Q 45 [l0] (zI 120 :: st) G h k := E_bipush (by rfl)
theorem e0_45 : zE 0 d Q 45 [l0] (zI i :: st) G h k ↔ (0 ≤ i ∧ i ≤ 1000000 ∧ k.1 + 1 ≤ 6 ∧ k.2 + i.toNat ≤ 939 ∧ zE 0 d Q 47 [l0] (zR (some G.1) :: st) (zgn G 11 i.toNat) (zhn h G.1) (k.1 + 1, k.2 + i.toNat)) := E_newarray (by rfl)
theorem e0_47 : zE 0 d Q 47 [l0] (zR q9 :: zR (some r) :: st) G h k ↔ (G.2.1 r = 0 ∧ zE 0 d Q 50 [l0] st (zgu G r 5 q9) h k) := E_putR (by rfl) rfl
theorem e0_50 : zE 0 d Q 50 [some (.inr (.inr w9))] st G h k ↔ zE 0 d Q 51 [some (.inr (.inr w9))] (.inr (.inr w9) :: st) G h k := E_aload_n (by rfl) rfl
theorem e0_51 : zE 0 d Q 51 [l0] st G h k ↔ zE 0 d Q 53 [l0] (zI 40 :: st) G h k := E_bipush (by rfl)
theorem e0_53 : zE 0 d Q 53 [l0] (zI i :: st) G h k ↔ (0 ≤ i ∧ i ≤ 1000000 ∧ k.1 + 1 ≤ 6 ∧ k.2 + i.toNat ≤ 939 ∧ zE 0 d Q 55 [l0] (zR (some G.1) :: st) (zgn G 10 i.toNat) (zhn h G.1) (k.1 + 1, k.2 + i.toNat)) := E_newarray (by rfl)
theorem e0_55 : zE 0 d Q 55 [l0] (zR q9 :: zR (some r) :: st) G h k ↔ (G.2.1 r = 0 ∧ zE 0 d Q 58 [l0] st (zgu G r 6 q9) h k) := E_putR (by rfl) rfl
theorem e0_58 : zE 0 d Q 58 [l0] [] G h k ↔ Q none G h := E_vret (by rfl) rfl
theorem e1_0 : zE 1 d Q 0 [some (.inr (.inr w9))] st G h k ↔ zE 1 d Q 1 [some (.inr (.inr w9))] (.inr (.inr w9) :: st) G h k := E_aload_n (by rfl) rfl
theorem e1_1 : zE 1 d Q 1 [l0] st G h k ↔ zE 1 d Q 2 [l0] (zI 0 :: st) G h k := E_iconst (by rfl)
theorem e1_2 : zE 1 d Q 2 [l0] (zI x :: zR (some r) :: st) G h k ↔ (G.2.1 r = 0 ∧ zE 1 d Q 5 [l0] st G (zu h r 0 x) k) := E_putI (by rfl) rfl
theorem e1_5 : zE 1 d Q 5 [some (.inr (.inr w9))] st G h k ↔ zE 1 d Q 6 [some (.inr (.inr w9))] (.inr (.inr w9) :: st) G h k := E_aload_n (by rfl) rfl
theorem e1_6 : zE 1 d Q 6 [l0] (zR (some r) :: st) G h k ↔ (G.2.1 r = 0 ∧ zE 1 d Q 9 [l0] (zR (G.2.2.2 r 4) :: st) G h k) := E_getR (by rfl) rfl
theorem e1_9 : zE 1 d Q 9 [l0] st G h k ↔ zE 1 d Q 10 [l0] (zI 0 :: st) G h k := E_iconst (by rfl)
theorem e1_10 : zE 1 d Q 10 [l0] st G h k ↔ zE 1 d Q 11 [l0] (zI 0 :: st) G h k := E_iconst (by rfl)
theorem e1_11 : zE 1 d Q 11 [l0] (zI x :: zI i :: zR (some r) :: st) G h k ↔ (G.2.1 r = 10 ∧ (0 ≤ i ∧ i < G.2.2.1 r) ∧ zE 1 d Q 12 [l0] st G (zu h r i.toNat x) k) := E_iastore (by rfl)
theorem e1_12 : zE 1 d Q 12 [some (.inr (.inr w9))] st G h k ↔ zE 1 d Q 13 [some (.inr (.inr w9))] (.inr (.inr w9) :: st) G h k := E_aload_n (by rfl) rfl
theorem e1_13 : zE 1 d Q 13 [l0] (zR (some r) :: st) G h k ↔ (G.2.1 r = 0 ∧ zE 1 d Q 16 [l0] (zR (G.2.2.2 r 1) :: st) G h k) := E_getR (by rfl) rfl
theorem e1_16 : zE 1 d Q 16 [l0] st G h k ↔ zE 1 d Q 17 [l0] (zI 0 :: st) G h k := E_iconst (by rfl)
theorem e1_17 : zE 1 d Q 17 [l0] (v1 :: v0 :: st) G h k ↔ (zsum st ≤ 8 ∧ zRunD ztb zmt' d 219 [v0, v1] G h (fun v G' h' => zE 1 d Q 20 [l0] (v.toList ++ st) G' h' k)) := E_invS2z (by rfl) (by decide) rfl
theorem e1_20 : zE 1 d Q 20 [some (.inr (.inr w9))] st G h k ↔ zE 1 d Q 21 [some (.inr (.inr w9))] (.inr (.inr w9) :: st) G h k := E_aload_n (by rfl) rfl
theorem e1_21 : zE 1 d Q 21 [l0] (zR (some r) :: st) G h k ↔ (G.2.1 r = 0 ∧ zE 1 d Q 24 [l0] (zR (G.2.2.2 r 2) :: st) G h k) := E_getR (by rfl) rfl
theorem e1_24 : zE 1 d Q 24 [l0] st G h k ↔ zE 1 d Q 25 [l0] (zI 0 :: st) G h k := E_iconst (by rfl)
theorem e1_25 : zE 1 d Q 25 [l0] (v1 :: v0 :: st) G h k ↔ (zsum st ≤ 8 ∧ zRunD ztb zmt' d 219 [v0, v1] G h (fun v G' h' => zE 1 d Q 28 [l0] (v.toList ++ st) G' h' k)) := E_invS2z (by rfl) (by decide) rfl
theorem e1_28 : zE 1 d Q 28 [some (.inr (.inr w9))] st G h k ↔ zE 1 d Q 29 [some (.inr (.inr w9))] (.inr (.inr w9) :: st) G h k := E_aload_n (by rfl) rfl
theorem e1_29 : zE 1 d Q 29 [l0] (zR (some r) :: st) G h k ↔ (G.2.1 r = 0 ∧ zE 1 d Q 32 [l0] (zR (G.2.2.2 r 3) :: st) G h k) := E_getR (by rfl) rfl
theorem e1_32 : zE 1 d Q 32 [l0] st G h k ↔ zE 1 d Q 33 [l0] (zI 0 :: st) G h k := E_iconst (by rfl)
theorem e1_33 : zE 1 d Q 33 [l0] (v1 :: v0 :: st) G h k ↔ (zsum st ≤ 8 ∧ zRunD ztb zmt' d 219 [v0, v1] G h (fun v G' h' => zE 1 d Q 36 [l0] (v.toList ++ st) G' h' k)) := E_invS2z (by rfl) (by decide) rfl
theorem e1_36 : zE 1 d Q 36 [l0] [] G h k ↔ Q none G h := E_vret (by rfl) rfl
theorem e2_0 : zE 2 d Q 0 [some (.inr (.inr w9)), l1, l2] st G h k ↔ zE 2 d Q 1 [some (.inr (.inr w9)), l1, l2] (.inr (.inr w9) :: st) G h k := E_aload_n (by rfl) rfl
theorem e2_1 : zE 2 d Q 1 [l0, l1, l2] (zR (some r) :: st) G h k ↔ (G.2.1 r = 0 ∧ zE 2 d Q 4 [l0, l1, l2] (zI (h r 0) :: st) G h k) := E_getI (by rfl) (by decide)
theorem e2_4 : zE 2 d Q 4 [l0, l1, l2] st G h k ↔ zE 2 d Q 6 [l0, l1, l2] (zI 12 :: st) G h k := E_bipush (by rfl)
theorem e2_6 : zE 2 d Q 6 [l0, l1, l2] (zI y :: zI x :: st) G h k ↔ zE 2 d Q 7 [l0, l1, l2] (zI (wr (x * y)) :: st) G h k := E_imul (by rfl)
theorem e2_7 : zE 2 d Q 7 [l0, some (zI x), l2] st G h k ↔ zE 2 d Q 8 [l0, some (zI x), l2] (zI x :: st) G h k := E_iload_n (by rfl) rfl
theorem e2_8 : zE 2 d Q 8 [l0, l1, l2] st G h k ↔ zE 2 d Q 9 [l0, l1, l2] (zI 4 :: st) G h k := E_iconst (by rfl)
theorem e2_9 : zE 2 d Q 9 [l0, l1, l2] (zI y :: zI x :: st) G h k ↔ zE 2 d Q 10 [l0, l1, l2] (zI (wr (x * y)) :: st) G h k := E_imul (by rfl)
theorem e2_10 : zE 2 d Q 10 [l0, l1, l2] (zI y :: zI x :: st) G h k ↔ zE 2 d Q 11 [l0, l1, l2] (zI (wr (x + y)) :: st) G h k := E_iadd (by rfl)
theorem e2_11 : zE 2 d Q 11 [l0, l1, some (zI x)] st G h k ↔ zE 2 d Q 12 [l0, l1, some (zI x)] (zI x :: st) G h k := E_iload_n (by rfl) rfl
theorem e2_12 : zE 2 d Q 12 [l0, l1, l2] (zI y :: zI x :: st) G h k ↔ zE 2 d Q 13 [l0, l1, l2] (zI (wr (x + y)) :: st) G h k := E_iadd (by rfl)
theorem e2_13 : zE 2 d Q 13 [l0, l1, l2] [zI x] G h k ↔ Q (some (zI x)) G h := E_iret (by rfl) rfl
theorem e3_0 : zE 3 d Q 0 [some (.inr (.inr w9)), l1] st G h k ↔ zE 3 d Q 1 [some (.inr (.inr w9)), l1] (.inr (.inr w9) :: st) G h k := E_aload_n (by rfl) rfl
theorem e3_1 : zE 3 d Q 1 [l0, l1] (zR (some r) :: st) G h k ↔ (G.2.1 r = 0 ∧ zE 3 d Q 4 [l0, l1] (zI (h r 0) :: st) G h k) := E_getI (by rfl) (by decide)
theorem e3_4 : zE 3 d Q 4 [l0, l1] st G h k ↔ zE 3 d Q 5 [l0, l1] (zI 3 :: st) G h k := E_iconst (by rfl)
theorem e3_5 : zE 3 d Q 5 [l0, l1] (zI y :: zI x :: st) G h k ↔ zE 3 d Q 6 [l0, l1] (zI (wr (x * y)) :: st) G h k := E_imul (by rfl)
theorem e3_6 : zE 3 d Q 6 [l0, some (zI x)] st G h k ↔ zE 3 d Q 7 [l0, some (zI x)] (zI x :: st) G h k := E_iload_n (by rfl) rfl
theorem e3_7 : zE 3 d Q 7 [l0, l1] (zI y :: zI x :: st) G h k ↔ zE 3 d Q 8 [l0, l1] (zI (wr (x + y)) :: st) G h k := E_iadd (by rfl)
theorem e3_8 : zE 3 d Q 8 [l0, l1] [zI x] G h k ↔ Q (some (zI x)) G h := E_iret (by rfl) rfl
theorem e4_0 : zE 4 d Q 0 [some (.inr (.inr w9)), l1, l2, l3, l4] st G h k ↔ zE 4 d Q 1 [some (.inr (.inr w9)), l1, l2, l3, l4] (.inr (.inr w9) :: st) G h k := E_aload_n (by rfl) rfl
theorem e4_1 : zE 4 d Q 1 [l0, l1, l2, l3, l4] (zR (some r) :: st) G h k ↔ (G.2.1 r = 0 ∧ zE 4 d Q 4 [l0, l1, l2, l3, l4] (zI (h r 0) :: st) G h k) := E_getI (by rfl) (by decide)
theorem e4_4 : zE 4 d Q 4 [l0, l1, l2, l3, l4] st G h k ↔ zE 4 d Q 6 [l0, l1, l2, l3, l4] (zI 40 :: st) G h k := E_bipush (by rfl)
theorem e4_6 : zE 4 d Q 6 [l0, l1, l2, l3, l4] (zI y :: zI x :: st) G h k ↔ ((x < y → zE 4 d Q 11 [l0, l1, l2, l3, l4] st G h k) ∧ (¬ (x < y) → zE 4 d Q 9 [l0, l1, l2, l3, l4] st G h k)) := E_icmp_lt (by rfl)
theorem e4_9 : zE 4 d Q 9 [l0, l1, l2, l3, l4] st G h k ↔ zE 4 d Q 10 [l0, l1, l2, l3, l4] (zI 0 :: st) G h k := E_iconst (by rfl)
theorem e4_10 : zE 4 d Q 10 [l0, l1, l2, l3, l4] [zI x] G h k ↔ Q (some (zI x)) G h := E_iret (by rfl) rfl
theorem e4_11 : zE 4 d Q 11 [l0, l1, l2, l3, l4] st G h k ↔ zE 4 d Q 12 [l0, l1, l2, l3, l4] (zI 0 :: st) G h k := E_iconst (by rfl)
theorem e4_12 : zE 4 d Q 12 [l0, l1, l2, l3, l4] (zI x :: st) G h k ↔ zE 4 d Q 13 [l0, l1, (zclr l2), some (zI x), l4] st G h k := E_istore_n (by rfl) (by decide)
theorem e4_13 : zE 4 d Q 13 [l0, l1, l2, l3, l4] st G h k ↔ zE 4 d Q 14 [l0, l1, l2, l3, l4] (zI 0 :: st) G h k := E_iconst (by rfl)
theorem e4_14 : zE 4 d Q 14 [l0, l1, l2, l3, l4] (zI x :: st) G h k ↔ zE 4 d Q 16 [l0, l1, l2, (zclr l3), some (zI x)] st G h k := E_istore (by rfl) (by decide)
theorem e4_16 : zE 4 d Q 16 [l0, l1, l2, l3, some (zI x)] st G h k ↔ zE 4 d Q 18 [l0, l1, l2, l3, some (zI x)] (zI x :: st) G h k := E_iload (by rfl) rfl
theorem e4_18 : zE 4 d Q 18 [l0, some (.inr (.inr w9)), l2, l3, l4] st G h k ↔ zE 4 d Q 19 [l0, some (.inr (.inr w9)), l2, l3, l4] (.inr (.inr w9) :: st) G h k := E_aload_n (by rfl) rfl
theorem e4_19 : zE 4 d Q 19 [l0, l1, l2, l3, l4] (zR (some r) :: st) G h k ↔ (G.2.1 r = 6 ∧ zE 4 d Q 22 [l0, l1, l2, l3, l4] (zR (G.2.2.2 r 1) :: st) G h k) := E_getR (by rfl) rfl
theorem e4_22 : zE 4 d Q 22 [l0, l1, l2, l3, l4] (zR (some r) :: st) G h k ↔ (G.2.1 r = 5 ∧ zE 4 d Q 25 [l0, l1, l2, l3, l4] (zI (h r 10) :: st) G h k) := E_getI (by rfl) (by decide)
theorem e4_25 : zE 4 d Q 25 [l0, l1, l2, l3, l4] (zI y :: zI x :: st) G h k ↔ ((y ≤ x → zE 4 d Q 44 [l0, l1, l2, l3, l4] st G h k) ∧ (¬ (y ≤ x) → zE 4 d Q 28 [l0, l1, l2, l3, l4] st G h k)) := E_icmp_ge (by rfl)
theorem e4_28 : zE 4 d Q 28 [l0, l1, l2, some (zI x), l4] st G h k ↔ zE 4 d Q 29 [l0, l1, l2, some (zI x), l4] (zI x :: st) G h k := E_iload_n (by rfl) rfl
theorem e4_29 : zE 4 d Q 29 [l0, some (.inr (.inr w9)), l2, l3, l4] st G h k ↔ zE 4 d Q 30 [l0, some (.inr (.inr w9)), l2, l3, l4] (.inr (.inr w9) :: st) G h k := E_aload_n (by rfl) rfl
theorem e4_30 : zE 4 d Q 30 [l0, l1, l2, l3, l4] (zR (some r) :: st) G h k ↔ (G.2.1 r = 6 ∧ zE 4 d Q 33 [l0, l1, l2, l3, l4] (zR (G.2.2.2 r 7) :: st) G h k) := E_getR (by rfl) rfl
theorem e4_33 : zE 4 d Q 33 [l0, l1, l2, l3, some (zI x)] st G h k ↔ zE 4 d Q 35 [l0, l1, l2, l3, some (zI x)] (zI x :: st) G h k := E_iload (by rfl) rfl
theorem e4_35 : zE 4 d Q 35 [l0, l1, l2, l3, l4] (zI i :: zR (some r) :: st) G h k ↔ (G.2.1 r = 10 ∧ (0 ≤ i ∧ i < G.2.2.1 r) ∧ zE 4 d Q 36 [l0, l1, l2, l3, l4] (zI (h r i.toNat) :: st) G h k) := E_iaload (by rfl)
theorem e4_36 : zE 4 d Q 36 [l0, l1, l2, l3, l4] (zI y :: zI x :: st) G h k ↔ zE 4 d Q 37 [l0, l1, l2, l3, l4] (zI (wr (x + y)) :: st) G h k := E_iadd (by rfl)
theorem e4_37 : zE 4 d Q 37 [l0, l1, l2, l3, l4] (zI x :: st) G h k ↔ zE 4 d Q 38 [l0, l1, (zclr l2), some (zI x), l4] st G h k := E_istore_n (by rfl) (by decide)
theorem e4_38 : zE 4 d Q 38 [l0, l1, l2, l3, some (zI x)] st G h k ↔ zE 4 d Q 41 [l0, l1, l2, (zclr l3), some (zI (wr (x + 1)))] st G h k := E_iinc (by rfl) rfl
theorem e4_41 : zE 4 d Q 41 [l0, l1, l2, l3, l4] st G h k ↔ zE 4 d Q 16 [l0, l1, l2, l3, l4] st G h k := E_goto (by rfl)
theorem e4_44 : zE 4 d Q 44 [some (.inr (.inr w9)), l1, l2, l3, l4] st G h k ↔ zE 4 d Q 45 [some (.inr (.inr w9)), l1, l2, l3, l4] (.inr (.inr w9) :: st) G h k := E_aload_n (by rfl) rfl
theorem e4_45 : zE 4 d Q 45 [l0, l1, l2, l3, l4] (zR (some r) :: st) G h k ↔ (G.2.1 r = 0 ∧ zE 4 d Q 48 [l0, l1, l2, l3, l4] (zR (G.2.2.2 r 6) :: st) G h k) := E_getR (by rfl) rfl
theorem e4_48 : zE 4 d Q 48 [some (.inr (.inr w9)), l1, l2, l3, l4] st G h k ↔ zE 4 d Q 49 [some (.inr (.inr w9)), l1, l2, l3, l4] (.inr (.inr w9) :: st) G h k := E_aload_n (by rfl) rfl
theorem e4_49 : zE 4 d Q 49 [l0, l1, l2, l3, l4] (zR (some r) :: st) G h k ↔ (G.2.1 r = 0 ∧ zE 4 d Q 52 [l0, l1, l2, l3, l4] (zI (h r 0) :: st) G h k) := E_getI (by rfl) (by decide)
theorem e4_52 : zE 4 d Q 52 [l0, l1, l2, some (zI x), l4] st G h k ↔ zE 4 d Q 53 [l0, l1, l2, some (zI x), l4] (zI x :: st) G h k := E_iload_n (by rfl) rfl
theorem e4_53 : zE 4 d Q 53 [l0, l1, l2, l3, l4] (zI x :: zI i :: zR (some r) :: st) G h k ↔ (G.2.1 r = 10 ∧ (0 ≤ i ∧ i < G.2.2.1 r) ∧ zE 4 d Q 54 [l0, l1, l2, l3, l4] st G (zu h r i.toNat x) k) := E_iastore (by rfl)
theorem e4_54 : zE 4 d Q 54 [l0, some (.inr (.inr w9)), l2, l3, l4] st G h k ↔ zE 4 d Q 55 [l0, some (.inr (.inr w9)), l2, l3, l4] (.inr (.inr w9) :: st) G h k := E_aload_n (by rfl) rfl
theorem e4_55 : zE 4 d Q 55 [l0, l1, l2, l3, l4] (zR (some r) :: st) G h k ↔ (G.2.1 r = 6 ∧ zE 4 d Q 58 [l0, l1, l2, l3, l4] (zR (G.2.2.2 r 5) :: st) G h k) := E_getR (by rfl) rfl
theorem e4_58 : zE 4 d Q 58 [l0, l1, l2, l3, l4] st G h k ↔ zE 4 d Q 59 [l0, l1, l2, l3, l4] (zI 0 :: st) G h k := E_iconst (by rfl)
theorem e4_59 : zE 4 d Q 59 [some (.inr (.inr w9)), l1, l2, l3, l4] st G h k ↔ zE 4 d Q 60 [some (.inr (.inr w9)), l1, l2, l3, l4] (.inr (.inr w9) :: st) G h k := E_aload_n (by rfl) rfl
theorem e4_60 : zE 4 d Q 60 [l0, l1, l2, l3, l4] (zR (some r) :: st) G h k ↔ (G.2.1 r = 0 ∧ zE 4 d Q 63 [l0, l1, l2, l3, l4] (zR (G.2.2.2 r 5) :: st) G h k) := E_getR (by rfl) rfl
theorem e4_63 : zE 4 d Q 63 [some (.inr (.inr w9)), l1, l2, l3, l4] st G h k ↔ zE 4 d Q 64 [some (.inr (.inr w9)), l1, l2, l3, l4] (.inr (.inr w9) :: st) G h k := E_aload_n (by rfl) rfl
theorem e4_64 : zE 4 d Q 64 [l0, l1, l2, l3, l4] (zR (some r) :: st) G h k ↔ (G.2.1 r = 0 ∧ zE 4 d Q 67 [l0, l1, l2, l3, l4] (zI (h r 0) :: st) G h k) := E_getI (by rfl) (by decide)
theorem e4_67 : zE 4 d Q 67 [l0, l1, l2, l3, l4] st G h k ↔ zE 4 d Q 68 [l0, l1, l2, l3, l4] (zI 3 :: st) G h k := E_iconst (by rfl)
theorem e4_68 : zE 4 d Q 68 [l0, l1, l2, l3, l4] (zI y :: zI x :: st) G h k ↔ zE 4 d Q 69 [l0, l1, l2, l3, l4] (zI (wr (x * y)) :: st) G h k := E_imul (by rfl)
theorem e4_69 : zE 4 d Q 69 [l0, l1, l2, l3, l4] st G h k ↔ zE 4 d Q 70 [l0, l1, l2, l3, l4] (zI 3 :: st) G h k := E_iconst (by rfl)
theorem e4_70 : zE 4 d Q 70 [l0, l1, l2, l3, l4] (zI i :: zI y :: zR (some r2) :: zI x :: zR (some r1) :: st) G h k ↔ (zsum st ≤ 8 ∧ G.2.1 r1 = 11 ∧ G.2.1 r2 = 11 ∧ 0 ≤ x ∧ 0 ≤ y ∧ 0 ≤ i ∧ x + i ≤ G.2.2.1 r1 ∧ y + i ≤ G.2.2.1 r2 ∧ zE 4 d Q 73 [l0, l1, l2, l3, l4] st G (zcp h r1 x.toNat r2 y.toNat i.toNat) k) := E_copy2 (by rfl) rfl (by decide)
theorem e4_73 : zE 4 d Q 73 [some (.inr (.inr w9)), l1, l2, l3, l4] st G h k ↔ zE 4 d Q 74 [some (.inr (.inr w9)), l1, l2, l3, l4] (.inr (.inr w9) :: st) G h k := E_aload_n (by rfl) rfl
theorem e4_74 : zE 4 d Q 74 [l0, l1, l2, l3, l4] (zR (some r) :: st) G h k ↔ (G.2.1 r = 0 ∧ zE 4 d Q 77 [l0, l1, l2, l3, l4] (zR (G.2.2.2 r 2) :: st) G h k) := E_getR (by rfl) rfl
theorem e4_77 : zE 4 d Q 77 [some (.inr (.inr w9)), l1, l2, l3, l4] st G h k ↔ zE 4 d Q 78 [some (.inr (.inr w9)), l1, l2, l3, l4] (.inr (.inr w9) :: st) G h k := E_aload_n (by rfl) rfl
theorem e4_78 : zE 4 d Q 78 [l0, l1, l2, l3, l4] (zR (some r) :: st) G h k ↔ (G.2.1 r = 0 ∧ zE 4 d Q 81 [l0, l1, l2, l3, l4] (zI (h r 0) :: st) G h k) := E_getI (by rfl) (by decide)
theorem e4_81 : zE 4 d Q 81 [l0, l1, l2, l3, l4] st G h k ↔ zE 4 d Q 82 [l0, l1, l2, l3, l4] (zI 3 :: st) G h k := E_iconst (by rfl)
theorem e4_82 : zE 4 d Q 82 [l0, l1, l2, l3, l4] (zI y :: zI x :: st) G h k ↔ zE 4 d Q 83 [l0, l1, l2, l3, l4] (zI (wr (x * y)) :: st) G h k := E_imul (by rfl)
theorem e4_83 : zE 4 d Q 83 [some (.inr (.inr w9)), l1, l2, l3, l4] st G h k ↔ zE 4 d Q 84 [some (.inr (.inr w9)), l1, l2, l3, l4] (.inr (.inr w9) :: st) G h k := E_aload_n (by rfl) rfl
theorem e4_84 : zE 4 d Q 84 [l0, l1, l2, l3, l4] (zR (some r) :: st) G h k ↔ (G.2.1 r = 0 ∧ zE 4 d Q 87 [l0, l1, l2, l3, l4] (zR (G.2.2.2 r 2) :: st) G h k) := E_getR (by rfl) rfl
theorem e4_87 : zE 4 d Q 87 [some (.inr (.inr w9)), l1, l2, l3, l4] st G h k ↔ zE 4 d Q 88 [some (.inr (.inr w9)), l1, l2, l3, l4] (.inr (.inr w9) :: st) G h k := E_aload_n (by rfl) rfl
theorem e4_88 : zE 4 d Q 88 [l0, l1, l2, l3, l4] (zR (some r) :: st) G h k ↔ (G.2.1 r = 0 ∧ zE 4 d Q 91 [l0, l1, l2, l3, l4] (zI (h r 0) :: st) G h k) := E_getI (by rfl) (by decide)
theorem e4_91 : zE 4 d Q 91 [l0, l1, l2, l3, l4] st G h k ↔ zE 4 d Q 92 [l0, l1, l2, l3, l4] (zI 1 :: st) G h k := E_iconst (by rfl)
theorem e4_92 : zE 4 d Q 92 [l0, l1, l2, l3, l4] (zI y :: zI x :: st) G h k ↔ zE 4 d Q 93 [l0, l1, l2, l3, l4] (zI (wr (x + y)) :: st) G h k := E_iadd (by rfl)
theorem e4_93 : zE 4 d Q 93 [l0, l1, l2, l3, l4] st G h k ↔ zE 4 d Q 94 [l0, l1, l2, l3, l4] (zI 3 :: st) G h k := E_iconst (by rfl)
theorem e4_94 : zE 4 d Q 94 [l0, l1, l2, l3, l4] (zI y :: zI x :: st) G h k ↔ zE 4 d Q 95 [l0, l1, l2, l3, l4] (zI (wr (x * y)) :: st) G h k := E_imul (by rfl)
theorem e4_95 : zE 4 d Q 95 [l0, l1, l2, l3, l4] st G h k ↔ zE 4 d Q 96 [l0, l1, l2, l3, l4] (zI 3 :: st) G h k := E_iconst (by rfl)
theorem e4_96 : zE 4 d Q 96 [l0, l1, l2, l3, l4] (zI i :: zI y :: zR (some r2) :: zI x :: zR (some r1) :: st) G h k ↔ (zsum st ≤ 8 ∧ G.2.1 r1 = 10 ∧ G.2.1 r2 = 10 ∧ 0 ≤ x ∧ 0 ≤ y ∧ 0 ≤ i ∧ x + i ≤ G.2.2.1 r1 ∧ y + i ≤ G.2.2.1 r2 ∧ zE 4 d Q 99 [l0, l1, l2, l3, l4] st G (zcp h r1 x.toNat r2 y.toNat i.toNat) k) := E_copy2 (by rfl) rfl (by decide)
theorem e4_99 : zE 4 d Q 99 [some (.inr (.inr w9)), l1, l2, l3, l4] st G h k ↔ zE 4 d Q 100 [some (.inr (.inr w9)), l1, l2, l3, l4] (.inr (.inr w9) :: st) G h k := E_aload_n (by rfl) rfl
theorem e4_100 : zE 4 d Q 100 [l0, l1, l2, l3, l4] (zR (some r) :: st) G h k ↔ (G.2.1 r = 0 ∧ zE 4 d Q 103 [l0, l1, l2, l3, l4] (zR (G.2.2.2 r 3) :: st) G h k) := E_getR (by rfl) rfl
theorem e4_103 : zE 4 d Q 103 [some (.inr (.inr w9)), l1, l2, l3, l4] st G h k ↔ zE 4 d Q 104 [some (.inr (.inr w9)), l1, l2, l3, l4] (.inr (.inr w9) :: st) G h k := E_aload_n (by rfl) rfl
theorem e4_104 : zE 4 d Q 104 [l0, l1, l2, l3, l4] (zR (some r) :: st) G h k ↔ (G.2.1 r = 0 ∧ zE 4 d Q 107 [l0, l1, l2, l3, l4] (zI (h r 0) :: st) G h k) := E_getI (by rfl) (by decide)
theorem e4_107 : zE 4 d Q 107 [l0, l1, l2, l3, l4] st G h k ↔ zE 4 d Q 108 [l0, l1, l2, l3, l4] (zI 3 :: st) G h k := E_iconst (by rfl)
theorem e4_108 : zE 4 d Q 108 [l0, l1, l2, l3, l4] (zI y :: zI x :: st) G h k ↔ zE 4 d Q 109 [l0, l1, l2, l3, l4] (zI (wr (x * y)) :: st) G h k := E_imul (by rfl)
theorem e4_109 : zE 4 d Q 109 [some (.inr (.inr w9)), l1, l2, l3, l4] st G h k ↔ zE 4 d Q 110 [some (.inr (.inr w9)), l1, l2, l3, l4] (.inr (.inr w9) :: st) G h k := E_aload_n (by rfl) rfl
theorem e4_110 : zE 4 d Q 110 [l0, l1, l2, l3, l4] (zR (some r) :: st) G h k ↔ (G.2.1 r = 0 ∧ zE 4 d Q 113 [l0, l1, l2, l3, l4] (zR (G.2.2.2 r 3) :: st) G h k) := E_getR (by rfl) rfl
theorem e4_113 : zE 4 d Q 113 [some (.inr (.inr w9)), l1, l2, l3, l4] st G h k ↔ zE 4 d Q 114 [some (.inr (.inr w9)), l1, l2, l3, l4] (.inr (.inr w9) :: st) G h k := E_aload_n (by rfl) rfl
theorem e4_114 : zE 4 d Q 114 [l0, l1, l2, l3, l4] (zR (some r) :: st) G h k ↔ (G.2.1 r = 0 ∧ zE 4 d Q 117 [l0, l1, l2, l3, l4] (zI (h r 0) :: st) G h k) := E_getI (by rfl) (by decide)
theorem e4_117 : zE 4 d Q 117 [l0, l1, l2, l3, l4] st G h k ↔ zE 4 d Q 118 [l0, l1, l2, l3, l4] (zI 1 :: st) G h k := E_iconst (by rfl)
theorem e4_118 : zE 4 d Q 118 [l0, l1, l2, l3, l4] (zI y :: zI x :: st) G h k ↔ zE 4 d Q 119 [l0, l1, l2, l3, l4] (zI (wr (x + y)) :: st) G h k := E_iadd (by rfl)
theorem e4_119 : zE 4 d Q 119 [l0, l1, l2, l3, l4] st G h k ↔ zE 4 d Q 120 [l0, l1, l2, l3, l4] (zI 3 :: st) G h k := E_iconst (by rfl)
theorem e4_120 : zE 4 d Q 120 [l0, l1, l2, l3, l4] (zI y :: zI x :: st) G h k ↔ zE 4 d Q 121 [l0, l1, l2, l3, l4] (zI (wr (x * y)) :: st) G h k := E_imul (by rfl)
theorem e4_121 : zE 4 d Q 121 [l0, l1, l2, l3, l4] st G h k ↔ zE 4 d Q 122 [l0, l1, l2, l3, l4] (zI 3 :: st) G h k := E_iconst (by rfl)
theorem e4_122 : zE 4 d Q 122 [l0, l1, l2, l3, l4] (zI i :: zI y :: zR (some r2) :: zI x :: zR (some r1) :: st) G h k ↔ (zsum st ≤ 8 ∧ G.2.1 r1 = 10 ∧ G.2.1 r2 = 10 ∧ 0 ≤ x ∧ 0 ≤ y ∧ 0 ≤ i ∧ x + i ≤ G.2.2.1 r1 ∧ y + i ≤ G.2.2.1 r2 ∧ zE 4 d Q 125 [l0, l1, l2, l3, l4] st G (zcp h r1 x.toNat r2 y.toNat i.toNat) k) := E_copy2 (by rfl) rfl (by decide)
theorem e4_125 : zE 4 d Q 125 [some (.inr (.inr w9)), l1, l2, l3, l4] st G h k ↔ zE 4 d Q 126 [some (.inr (.inr w9)), l1, l2, l3, l4] (.inr (.inr w9) :: st) G h k := E_aload_n (by rfl) rfl
theorem e4_126 : zE 4 d Q 126 [l0, l1, l2, l3, l4] (.inr (.inr w9) :: st) G h k ↔ zE 4 d Q 127 [l0, l1, l2, l3, l4] (.inr (.inr w9) :: .inr (.inr w9) :: st) G h k := E_dup (by rfl) rfl
theorem e4_127 : zE 4 d Q 127 [l0, l1, l2, l3, l4] (zR (some r) :: st) G h k ↔ (G.2.1 r = 0 ∧ zE 4 d Q 130 [l0, l1, l2, l3, l4] (zI (h r 0) :: st) G h k) := E_getI (by rfl) (by decide)
theorem e4_130 : zE 4 d Q 130 [l0, l1, l2, l3, l4] st G h k ↔ zE 4 d Q 131 [l0, l1, l2, l3, l4] (zI 1 :: st) G h k := E_iconst (by rfl)
theorem e4_131 : zE 4 d Q 131 [l0, l1, l2, l3, l4] (zI y :: zI x :: st) G h k ↔ zE 4 d Q 132 [l0, l1, l2, l3, l4] (zI (wr (x + y)) :: st) G h k := E_iadd (by rfl)
theorem e4_132 : zE 4 d Q 132 [l0, l1, l2, l3, l4] (zI x :: zR (some r) :: st) G h k ↔ (G.2.1 r = 0 ∧ zE 4 d Q 135 [l0, l1, l2, l3, l4] st G (zu h r 0 x) k) := E_putI (by rfl) rfl
theorem e4_135 : zE 4 d Q 135 [l0, some (.inr (.inr w9)), l2, l3, l4] st G h k ↔ zE 4 d Q 136 [l0, some (.inr (.inr w9)), l2, l3, l4] (.inr (.inr w9) :: st) G h k := E_aload_n (by rfl) rfl
theorem e4_136 : zE 4 d Q 136 [l0, l1, l2, l3, l4] (zR (some r) :: st) G h k ↔ (G.2.1 r = 6 ∧ zE 4 d Q 139 [l0, l1, l2, l3, l4] (zR (G.2.2.2 r 8) :: st) G h k) := E_getR (by rfl) rfl
theorem e4_139 : zE 4 d Q 139 [l0, l1, l2, l3, l4] st G h k ↔ zE 4 d Q 140 [l0, l1, l2, l3, l4] (zI 0 :: st) G h k := E_iconst (by rfl)
theorem e4_140 : zE 4 d Q 140 [some (.inr (.inr w9)), l1, l2, l3, l4] st G h k ↔ zE 4 d Q 141 [some (.inr (.inr w9)), l1, l2, l3, l4] (.inr (.inr w9) :: st) G h k := E_aload_n (by rfl) rfl
theorem e4_141 : zE 4 d Q 141 [l0, l1, l2, l3, l4] (zR (some r) :: st) G h k ↔ (G.2.1 r = 0 ∧ zE 4 d Q 144 [l0, l1, l2, l3, l4] (zR (G.2.2.2 r 1) :: st) G h k) := E_getR (by rfl) rfl
theorem e4_144 : zE 4 d Q 144 [some (.inr (.inr w9)), l1, l2, l3, l4] st G h k ↔ zE 4 d Q 145 [some (.inr (.inr w9)), l1, l2, l3, l4] (.inr (.inr w9) :: st) G h k := E_aload_n (by rfl) rfl
theorem e4_145 : zE 4 d Q 145 [l0, l1, l2, l3, l4] (zR (some r) :: st) G h k ↔ (G.2.1 r = 0 ∧ zE 4 d Q 148 [l0, l1, l2, l3, l4] (zI (h r 0) :: st) G h k) := E_getI (by rfl) (by decide)
theorem e4_148 : zE 4 d Q 148 [l0, l1, l2, l3, l4] st G h k ↔ zE 4 d Q 150 [l0, l1, l2, l3, l4] (zI 12 :: st) G h k := E_bipush (by rfl)
theorem e4_150 : zE 4 d Q 150 [l0, l1, l2, l3, l4] (zI y :: zI x :: st) G h k ↔ zE 4 d Q 151 [l0, l1, l2, l3, l4] (zI (wr (x * y)) :: st) G h k := E_imul (by rfl)
theorem e4_151 : zE 4 d Q 151 [l0, l1, l2, l3, l4] st G h k ↔ zE 4 d Q 153 [l0, l1, l2, l3, l4] (zI 12 :: st) G h k := E_bipush (by rfl)
theorem e4_153 : zE 4 d Q 153 [l0, l1, l2, l3, l4] (zI i :: zI y :: zR (some r2) :: zI x :: zR (some r1) :: st) G h k ↔ (zsum st ≤ 8 ∧ G.2.1 r1 = 10 ∧ G.2.1 r2 = 10 ∧ 0 ≤ x ∧ 0 ≤ y ∧ 0 ≤ i ∧ x + i ≤ G.2.2.1 r1 ∧ y + i ≤ G.2.2.1 r2 ∧ zE 4 d Q 156 [l0, l1, l2, l3, l4] st G (zcp h r1 x.toNat r2 y.toNat i.toNat) k) := E_copy2 (by rfl) rfl (by decide)
theorem e4_156 : zE 4 d Q 156 [some (.inr (.inr w9)), l1, l2, l3, l4] st G h k ↔ zE 4 d Q 157 [some (.inr (.inr w9)), l1, l2, l3, l4] (.inr (.inr w9) :: st) G h k := E_aload_n (by rfl) rfl
theorem e4_157 : zE 4 d Q 157 [l0, l1, l2, l3, l4] (zR (some r) :: st) G h k ↔ (G.2.1 r = 0 ∧ zE 4 d Q 160 [l0, l1, l2, l3, l4] (zR (G.2.2.2 r 4) :: st) G h k) := E_getR (by rfl) rfl
theorem e4_160 : zE 4 d Q 160 [some (.inr (.inr w9)), l1, l2, l3, l4] st G h k ↔ zE 4 d Q 161 [some (.inr (.inr w9)), l1, l2, l3, l4] (.inr (.inr w9) :: st) G h k := E_aload_n (by rfl) rfl
theorem e4_161 : zE 4 d Q 161 [l0, l1, l2, l3, l4] (zR (some r) :: st) G h k ↔ (G.2.1 r = 0 ∧ zE 4 d Q 164 [l0, l1, l2, l3, l4] (zI (h r 0) :: st) G h k) := E_getI (by rfl) (by decide)
theorem e4_164 : zE 4 d Q 164 [l0, l1, some (zI x), l3, l4] st G h k ↔ zE 4 d Q 165 [l0, l1, some (zI x), l3, l4] (zI x :: st) G h k := E_iload_n (by rfl) rfl
theorem e4_165 : zE 4 d Q 165 [l0, l1, l2, l3, l4] (zI x :: zI i :: zR (some r) :: st) G h k ↔ (G.2.1 r = 10 ∧ (0 ≤ i ∧ i < G.2.2.1 r) ∧ zE 4 d Q 166 [l0, l1, l2, l3, l4] st G (zu h r i.toNat x) k) := E_iastore (by rfl)
theorem e4_166 : zE 4 d Q 166 [l0, l1, l2, some (zI x), l4] st G h k ↔ zE 4 d Q 167 [l0, l1, l2, some (zI x), l4] (zI x :: st) G h k := E_iload_n (by rfl) rfl
theorem e4_167 : zE 4 d Q 167 [l0, l1, l2, l3, l4] [zI x] G h k ↔ Q (some (zI x)) G h := E_iret (by rfl) rfl
theorem e5_0 : zE 5 d Q 0 [some (.inr (.inr w9))] st G h k ↔ zE 5 d Q 1 [some (.inr (.inr w9))] (.inr (.inr w9) :: st) G h k := E_aload_n (by rfl) rfl
theorem e5_1 : zE 5 d Q 1 [l0] (zR (some r) :: []) G h k ↔ zE 5 d Q 4 [l0] [] G h k := E_objInit (by rfl) rfl (by decide)
theorem e5_4 : zE 5 d Q 4 [some (.inr (.inr w9))] st G h k ↔ zE 5 d Q 5 [some (.inr (.inr w9))] (.inr (.inr w9) :: st) G h k := E_aload_n (by rfl) rfl
theorem e5_5 : zE 5 d Q 5 [l0] st G h k ↔ (k.1 + 1 ≤ 13 ∧ k.2 + 14 ≤ 56 ∧ zE 5 d Q 8 [l0] (zR (some G.1) :: st) (zgn G 5 14) (zhn h G.1) (k.1 + 1, k.2 + 14)) := E_new (by rfl) (by decide)
theorem e5_8 : zE 5 d Q 8 [l0] (.inr (.inr w9) :: st) G h k ↔ zE 5 d Q 9 [l0] (.inr (.inr w9) :: .inr (.inr w9) :: st) G h k := E_dup (by rfl) rfl
theorem e5_9 : zE 5 d Q 9 [l0] (zR (some r) :: st) G h k ↔ (zsum st ≤ 8 ∧ G.2.1 r = 5 ∧ k.1 + 9 ≤ 13 ∧ k.2 + 32 ≤ 56 ∧ zRunD ztb zmt' d 45 [zR (some r)] G h (fun v G' h' => v = none ∧ zE 5 d Q 12 [l0] st G' h' (k.1 + 9, k.2 + 32))) := E_invI2b (by rfl) (by decide) rfl
theorem e5_12 : zE 5 d Q 12 [l0] (zR q9 :: zR (some r) :: st) G h k ↔ (G.2.1 r = 1 ∧ zE 5 d Q 15 [l0] st (zgu G r 0 q9) h k) := E_putR (by rfl) rfl
theorem e5_15 : zE 5 d Q 15 [some (.inr (.inr w9))] st G h k ↔ zE 5 d Q 16 [some (.inr (.inr w9))] (.inr (.inr w9) :: st) G h k := E_aload_n (by rfl) rfl
theorem e5_16 : zE 5 d Q 16 [l0] st G h k ↔ zE 5 d Q 17 [l0] (zI 3 :: st) G h k := E_iconst (by rfl)
theorem e5_17 : zE 5 d Q 17 [l0] (zI i :: st) G h k ↔ (0 ≤ i ∧ i ≤ 1000000 ∧ k.1 + 1 ≤ 13 ∧ k.2 + i.toNat ≤ 56 ∧ zE 5 d Q 19 [l0] (zR (some G.1) :: st) (zgn G 10 i.toNat) (zhn h G.1) (k.1 + 1, k.2 + i.toNat)) := E_newarray (by rfl)
theorem e5_19 : zE 5 d Q 19 [l0] (zR q9 :: zR (some r) :: st) G h k ↔ (G.2.1 r = 1 ∧ zE 5 d Q 22 [l0] st (zgu G r 1 q9) h k) := E_putR (by rfl) rfl
theorem e5_22 : zE 5 d Q 22 [some (.inr (.inr w9))] st G h k ↔ zE 5 d Q 23 [some (.inr (.inr w9))] (.inr (.inr w9) :: st) G h k := E_aload_n (by rfl) rfl
theorem e5_23 : zE 5 d Q 23 [l0] st G h k ↔ zE 5 d Q 24 [l0] (zI 3 :: st) G h k := E_iconst (by rfl)
theorem e5_24 : zE 5 d Q 24 [l0] (zI i :: st) G h k ↔ (0 ≤ i ∧ i ≤ 1000000 ∧ k.1 + 1 ≤ 13 ∧ k.2 + i.toNat ≤ 56 ∧ zE 5 d Q 26 [l0] (zR (some G.1) :: st) (zgn G 10 i.toNat) (zhn h G.1) (k.1 + 1, k.2 + i.toNat)) := E_newarray (by rfl)
theorem e5_26 : zE 5 d Q 26 [l0] (zR q9 :: zR (some r) :: st) G h k ↔ (G.2.1 r = 1 ∧ zE 5 d Q 29 [l0] st (zgu G r 2 q9) h k) := E_putR (by rfl) rfl
theorem e5_29 : zE 5 d Q 29 [some (.inr (.inr w9))] st G h k ↔ zE 5 d Q 30 [some (.inr (.inr w9))] (.inr (.inr w9) :: st) G h k := E_aload_n (by rfl) rfl
theorem e5_30 : zE 5 d Q 30 [l0] st G h k ↔ zE 5 d Q 31 [l0] (zI 4 :: st) G h k := E_iconst (by rfl)
theorem e5_31 : zE 5 d Q 31 [l0] (zI i :: st) G h k ↔ (0 ≤ i ∧ i ≤ 1000000 ∧ k.1 + 1 ≤ 13 ∧ k.2 + i.toNat ≤ 56 ∧ zE 5 d Q 33 [l0] (zR (some G.1) :: st) (zgn G 10 i.toNat) (zhn h G.1) (k.1 + 1, k.2 + i.toNat)) := E_newarray (by rfl)
theorem e5_33 : zE 5 d Q 33 [l0] (zR q9 :: zR (some r) :: st) G h k ↔ (G.2.1 r = 1 ∧ zE 5 d Q 36 [l0] st (zgu G r 3 q9) h k) := E_putR (by rfl) rfl
theorem e5_36 : zE 5 d Q 36 [some (.inr (.inr w9))] st G h k ↔ zE 5 d Q 37 [some (.inr (.inr w9))] (.inr (.inr w9) :: st) G h k := E_aload_n (by rfl) rfl
theorem e5_37 : zE 5 d Q 37 [l0] st G h k ↔ zE 5 d Q 38 [l0] (zI 0 :: st) G h k := E_iconst (by rfl)
theorem e5_38 : zE 5 d Q 38 [l0] (zI x :: zR (some r) :: st) G h k ↔ (G.2.1 r = 1 ∧ zE 5 d Q 41 [l0] st G (zu h r 4 x) k) := E_putI (by rfl) rfl
theorem e5_41 : zE 5 d Q 41 [l0] [] G h k ↔ Q none G h := E_vret (by rfl) rfl
theorem e6_0 : zE 6 d Q 0 [some (.inr (.inr w9)), l1, l2, l3] st G h k ↔ zE 6 d Q 1 [some (.inr (.inr w9)), l1, l2, l3] (.inr (.inr w9) :: st) G h k := E_aload_n (by rfl) rfl
theorem e6_1 : zE 6 d Q 1 [l0, l1, l2, l3] (zR (some r) :: st) G h k ↔ (G.2.1 r = 1 ∧ zE 6 d Q 4 [l0, l1, l2, l3] (zR (G.2.2.2 r 1) :: st) G h k) := E_getR (by rfl) rfl
theorem e6_4 : zE 6 d Q 4 [l0, some (zI x), l2, l3] st G h k ↔ zE 6 d Q 5 [l0, some (zI x), l2, l3] (zI x :: st) G h k := E_iload_n (by rfl) rfl
theorem e6_5 : zE 6 d Q 5 [some (.inr (.inr w9)), l1, l2, l3] st G h k ↔ zE 6 d Q 6 [some (.inr (.inr w9)), l1, l2, l3] (.inr (.inr w9) :: st) G h k := E_aload_n (by rfl) rfl
theorem e6_6 : zE 6 d Q 6 [l0, l1, l2, l3] (zR (some r) :: st) G h k ↔ (G.2.1 r = 1 ∧ zE 6 d Q 9 [l0, l1, l2, l3] (zR (G.2.2.2 r 0) :: st) G h k) := E_getR (by rfl) rfl
theorem e6_9 : zE 6 d Q 9 [l0, l1, l2, l3] (zR (some r) :: st) G h k ↔ (G.2.1 r = 5 ∧ zE 6 d Q 12 [l0, l1, l2, l3] (zR (G.2.2.2 r 8) :: st) G h k) := E_getR (by rfl) rfl
theorem e6_12 : zE 6 d Q 12 [l0, l1, some (zI x), l3] st G h k ↔ zE 6 d Q 13 [l0, l1, some (zI x), l3] (zI x :: st) G h k := E_iload_n (by rfl) rfl
theorem e6_13 : zE 6 d Q 13 [l0, l1, l2, l3] (zI i :: zR (some r) :: st) G h k ↔ (G.2.1 r = 10 ∧ (0 ≤ i ∧ i < G.2.2.1 r) ∧ zE 6 d Q 14 [l0, l1, l2, l3] (zI (h r i.toNat) :: st) G h k) := E_iaload (by rfl)
theorem e6_14 : zE 6 d Q 14 [l0, l1, l2, l3] (zI x :: zI i :: zR (some r) :: st) G h k ↔ (G.2.1 r = 10 ∧ (0 ≤ i ∧ i < G.2.2.1 r) ∧ zE 6 d Q 15 [l0, l1, l2, l3] st G (zu h r i.toNat x) k) := E_iastore (by rfl)
theorem e6_15 : zE 6 d Q 15 [some (.inr (.inr w9)), l1, l2, l3] st G h k ↔ zE 6 d Q 16 [some (.inr (.inr w9)), l1, l2, l3] (.inr (.inr w9) :: st) G h k := E_aload_n (by rfl) rfl
theorem e6_16 : zE 6 d Q 16 [l0, l1, l2, l3] (zR (some r) :: st) G h k ↔ (G.2.1 r = 1 ∧ zE 6 d Q 19 [l0, l1, l2, l3] (zR (G.2.2.2 r 2) :: st) G h k) := E_getR (by rfl) rfl
theorem e6_19 : zE 6 d Q 19 [l0, some (zI x), l2, l3] st G h k ↔ zE 6 d Q 20 [l0, some (zI x), l2, l3] (zI x :: st) G h k := E_iload_n (by rfl) rfl
theorem e6_20 : zE 6 d Q 20 [some (.inr (.inr w9)), l1, l2, l3] st G h k ↔ zE 6 d Q 21 [some (.inr (.inr w9)), l1, l2, l3] (.inr (.inr w9) :: st) G h k := E_aload_n (by rfl) rfl
theorem e6_21 : zE 6 d Q 21 [l0, l1, l2, l3] (zR (some r) :: st) G h k ↔ (G.2.1 r = 1 ∧ zE 6 d Q 24 [l0, l1, l2, l3] (zR (G.2.2.2 r 0) :: st) G h k) := E_getR (by rfl) rfl
theorem e6_24 : zE 6 d Q 24 [l0, l1, l2, l3] (zR (some r) :: st) G h k ↔ (G.2.1 r = 5 ∧ zE 6 d Q 27 [l0, l1, l2, l3] (zR (G.2.2.2 r 8) :: st) G h k) := E_getR (by rfl) rfl
theorem e6_27 : zE 6 d Q 27 [l0, l1, l2, some (zI x)] st G h k ↔ zE 6 d Q 28 [l0, l1, l2, some (zI x)] (zI x :: st) G h k := E_iload_n (by rfl) rfl
theorem e6_28 : zE 6 d Q 28 [l0, l1, l2, l3] (zI i :: zR (some r) :: st) G h k ↔ (G.2.1 r = 10 ∧ (0 ≤ i ∧ i < G.2.2.1 r) ∧ zE 6 d Q 29 [l0, l1, l2, l3] (zI (h r i.toNat) :: st) G h k) := E_iaload (by rfl)
theorem e6_29 : zE 6 d Q 29 [l0, l1, l2, l3] (zI x :: zI i :: zR (some r) :: st) G h k ↔ (G.2.1 r = 10 ∧ (0 ≤ i ∧ i < G.2.2.1 r) ∧ zE 6 d Q 30 [l0, l1, l2, l3] st G (zu h r i.toNat x) k) := E_iastore (by rfl)
theorem e6_30 : zE 6 d Q 30 [l0, l1, l2, l3] [] G h k ↔ Q none G h := E_vret (by rfl) rfl
theorem e7_0 : zE 7 d Q 0 [some (.inr (.inr w9)), l1, l2] st G h k ↔ zE 7 d Q 1 [some (.inr (.inr w9)), l1, l2] (.inr (.inr w9) :: st) G h k := E_aload_n (by rfl) rfl
theorem e7_1 : zE 7 d Q 1 [l0, some (zI x), l2] st G h k ↔ zE 7 d Q 2 [l0, some (zI x), l2] (zI x :: st) G h k := E_iload_n (by rfl) rfl
theorem e7_2 : zE 7 d Q 2 [l0, l1, l2] (zI x :: zR (some r) :: st) G h k ↔ (G.2.1 r = 1 ∧ zE 7 d Q 5 [l0, l1, l2] st G (zu h r 4 x) k) := E_putI (by rfl) rfl
theorem e7_5 : zE 7 d Q 5 [l0, l1, l2] st G h k ↔ zE 7 d Q 6 [l0, l1, l2] (zI 0 :: st) G h k := E_iconst (by rfl)
theorem e7_6 : zE 7 d Q 6 [l0, l1, l2] (zI x :: st) G h k ↔ zE 7 d Q 7 [l0, (zclr l1), some (zI x)] st G h k := E_istore_n (by rfl) (by decide)
theorem e7_7 : zE 7 d Q 7 [l0, l1, some (zI x)] st G h k ↔ zE 7 d Q 8 [l0, l1, some (zI x)] (zI x :: st) G h k := E_iload_n (by rfl) rfl
theorem e7_8 : zE 7 d Q 8 [some (.inr (.inr w9)), l1, l2] st G h k ↔ zE 7 d Q 9 [some (.inr (.inr w9)), l1, l2] (.inr (.inr w9) :: st) G h k := E_aload_n (by rfl) rfl
theorem e7_9 : zE 7 d Q 9 [l0, l1, l2] (zR (some r) :: st) G h k ↔ (G.2.1 r = 1 ∧ zE 7 d Q 12 [l0, l1, l2] (zR (G.2.2.2 r 0) :: st) G h k) := E_getR (by rfl) rfl
theorem e7_12 : zE 7 d Q 12 [l0, l1, l2] (zR (some r) :: st) G h k ↔ (G.2.1 r = 5 ∧ zE 7 d Q 15 [l0, l1, l2] (zI (h r 9) :: st) G h k) := E_getI (by rfl) (by decide)
theorem e7_15 : zE 7 d Q 15 [l0, l1, l2] (zI y :: zI x :: st) G h k ↔ ((y ≤ x → zE 7 d Q 46 [l0, l1, l2] st G h k) ∧ (¬ (y ≤ x) → zE 7 d Q 18 [l0, l1, l2] st G h k)) := E_icmp_ge (by rfl)
theorem e7_18 : zE 7 d Q 18 [some (.inr (.inr w9)), l1, l2] st G h k ↔ zE 7 d Q 19 [some (.inr (.inr w9)), l1, l2] (.inr (.inr w9) :: st) G h k := E_aload_n (by rfl) rfl
theorem e7_19 : zE 7 d Q 19 [l0, l1, l2] (zR (some r) :: st) G h k ↔ (G.2.1 r = 1 ∧ zE 7 d Q 22 [l0, l1, l2] (zR (G.2.2.2 r 3) :: st) G h k) := E_getR (by rfl) rfl
theorem e7_22 : zE 7 d Q 22 [l0, l1, some (zI x)] st G h k ↔ zE 7 d Q 23 [l0, l1, some (zI x)] (zI x :: st) G h k := E_iload_n (by rfl) rfl
theorem e7_23 : zE 7 d Q 23 [some (.inr (.inr w9)), l1, l2] st G h k ↔ zE 7 d Q 24 [some (.inr (.inr w9)), l1, l2] (.inr (.inr w9) :: st) G h k := E_aload_n (by rfl) rfl
theorem e7_24 : zE 7 d Q 24 [l0, l1, l2] (zR (some r) :: st) G h k ↔ (G.2.1 r = 1 ∧ zE 7 d Q 27 [l0, l1, l2] (zR (G.2.2.2 r 0) :: st) G h k) := E_getR (by rfl) rfl
theorem e7_27 : zE 7 d Q 27 [l0, l1, l2] (zR (some r) :: st) G h k ↔ (G.2.1 r = 5 ∧ zE 7 d Q 30 [l0, l1, l2] (zI (h r 13) :: st) G h k) := E_getI (by rfl) (by decide)
theorem e7_30 : zE 7 d Q 30 [some (.inr (.inr w9)), l1, l2] st G h k ↔ zE 7 d Q 31 [some (.inr (.inr w9)), l1, l2] (.inr (.inr w9) :: st) G h k := E_aload_n (by rfl) rfl
theorem e7_31 : zE 7 d Q 31 [l0, l1, some (zI x)] st G h k ↔ zE 7 d Q 32 [l0, l1, some (zI x)] (zI x :: st) G h k := E_iload_n (by rfl) rfl
theorem e7_32 : zE 7 d Q 32 [l0, l1, l2] (v0 :: zR (some r) :: st) G h k ↔ (zsum st ≤ 8 ∧ G.2.1 r = 1 ∧ zRunD ztb zmt' d 8 [zR (some r), v0] G h (fun v G' h' => zE 7 d Q 35 [l0, l1, l2] (v.toList ++ st) G' h' k)) := E_invV2z (by rfl) (by decide) rfl
theorem e7_35 : zE 7 d Q 35 [l0, l1, l2] (zI y :: zI x :: st) G h k ↔ zE 7 d Q 36 [l0, l1, l2] (zI (wr (x * y)) :: st) G h k := E_imul (by rfl)
theorem e7_36 : zE 7 d Q 36 [l0, l1, l2] st G h k ↔ zE 7 d Q 38 [l0, l1, l2] (zI 100 :: st) G h k := E_bipush (by rfl)
theorem e7_38 : zE 7 d Q 38 [l0, l1, l2] (zI y :: zI x :: st) G h k ↔ (y ≠ 0 ∧ zE 7 d Q 39 [l0, l1, l2] (zI (wr (x.tdiv y)) :: st) G h k) := E_idiv (by rfl)
theorem e7_39 : zE 7 d Q 39 [l0, l1, l2] (zI x :: zI i :: zR (some r) :: st) G h k ↔ (G.2.1 r = 10 ∧ (0 ≤ i ∧ i < G.2.2.1 r) ∧ zE 7 d Q 40 [l0, l1, l2] st G (zu h r i.toNat x) k) := E_iastore (by rfl)
theorem e7_40 : zE 7 d Q 40 [l0, l1, some (zI x)] st G h k ↔ zE 7 d Q 43 [l0, (zclr l1), some (zI (wr (x + 1)))] st G h k := E_iinc (by rfl) rfl
theorem e7_43 : zE 7 d Q 43 [l0, l1, l2] st G h k ↔ zE 7 d Q 7 [l0, l1, l2] st G h k := E_goto (by rfl)
theorem e7_46 : zE 7 d Q 46 [some (.inr (.inr w9)), l1, l2] st G h k ↔ zE 7 d Q 47 [some (.inr (.inr w9)), l1, l2] (.inr (.inr w9) :: st) G h k := E_aload_n (by rfl) rfl
theorem e7_47 : zE 7 d Q 47 [l0, l1, l2] (zR (some r) :: st) G h k ↔ (G.2.1 r = 1 ∧ zE 7 d Q 50 [l0, l1, l2] (zR (G.2.2.2 r 3) :: st) G h k) := E_getR (by rfl) rfl
theorem e7_50 : zE 7 d Q 50 [l0, l1, l2] st G h k ↔ zE 7 d Q 51 [l0, l1, l2] (zI 3 :: st) G h k := E_iconst (by rfl)
theorem e7_51 : zE 7 d Q 51 [some (.inr (.inr w9)), l1, l2] st G h k ↔ zE 7 d Q 52 [some (.inr (.inr w9)), l1, l2] (.inr (.inr w9) :: st) G h k := E_aload_n (by rfl) rfl
theorem e7_52 : zE 7 d Q 52 [l0, l1, l2] (zR (some r) :: st) G h k ↔ (G.2.1 r = 1 ∧ zE 7 d Q 55 [l0, l1, l2] (zR (G.2.2.2 r 0) :: st) G h k) := E_getR (by rfl) rfl
theorem e7_55 : zE 7 d Q 55 [l0, l1, l2] (zR (some r) :: st) G h k ↔ (G.2.1 r = 5 ∧ zE 7 d Q 58 [l0, l1, l2] (zI (h r 13) :: st) G h k) := E_getI (by rfl) (by decide)
theorem e7_58 : zE 7 d Q 58 [some (.inr (.inr w9)), l1, l2] st G h k ↔ zE 7 d Q 59 [some (.inr (.inr w9)), l1, l2] (.inr (.inr w9) :: st) G h k := E_aload_n (by rfl) rfl
theorem e7_59 : zE 7 d Q 59 [l0, l1, l2] st G h k ↔ zE 7 d Q 60 [l0, l1, l2] (zI 3 :: st) G h k := E_iconst (by rfl)
theorem e7_60 : zE 7 d Q 60 [l0, l1, l2] (v0 :: zR (some r) :: st) G h k ↔ (zsum st ≤ 8 ∧ G.2.1 r = 1 ∧ zRunD ztb zmt' d 8 [zR (some r), v0] G h (fun v G' h' => zE 7 d Q 63 [l0, l1, l2] (v.toList ++ st) G' h' k)) := E_invV2z (by rfl) (by decide) rfl
theorem e7_63 : zE 7 d Q 63 [l0, l1, l2] (zI y :: zI x :: st) G h k ↔ zE 7 d Q 64 [l0, l1, l2] (zI (wr (x * y)) :: st) G h k := E_imul (by rfl)
theorem e7_64 : zE 7 d Q 64 [l0, l1, l2] st G h k ↔ zE 7 d Q 66 [l0, l1, l2] (zI 100 :: st) G h k := E_bipush (by rfl)
theorem e7_66 : zE 7 d Q 66 [l0, l1, l2] (zI y :: zI x :: st) G h k ↔ (y ≠ 0 ∧ zE 7 d Q 67 [l0, l1, l2] (zI (wr (x.tdiv y)) :: st) G h k) := E_idiv (by rfl)
theorem e7_67 : zE 7 d Q 67 [l0, l1, l2] (zI x :: zI i :: zR (some r) :: st) G h k ↔ (G.2.1 r = 10 ∧ (0 ≤ i ∧ i < G.2.2.1 r) ∧ zE 7 d Q 68 [l0, l1, l2] st G (zu h r i.toNat x) k) := E_iastore (by rfl)
theorem e7_68 : zE 7 d Q 68 [l0, l1, l2] [] G h k ↔ Q none G h := E_vret (by rfl) rfl
theorem e8_0 : zE 8 d Q 0 [l0, l1, l2, l3] st G h k ↔ zE 8 d Q 1 [l0, l1, l2, l3] (zI 0 :: st) G h k := E_iconst (by rfl)
theorem e8_1 : zE 8 d Q 1 [l0, l1, l2, l3] (zI x :: st) G h k ↔ zE 8 d Q 2 [l0, (zclr l1), some (zI x), l3] st G h k := E_istore_n (by rfl) (by decide)
theorem e8_2 : zE 8 d Q 2 [l0, l1, l2, l3] st G h k ↔ zE 8 d Q 3 [l0, l1, l2, l3] (zI 0 :: st) G h k := E_iconst (by rfl)
theorem e8_3 : zE 8 d Q 3 [l0, l1, l2, l3] (zI x :: st) G h k ↔ zE 8 d Q 4 [l0, l1, (zclr l2), some (zI x)] st G h k := E_istore_n (by rfl) (by decide)
theorem e8_4 : zE 8 d Q 4 [l0, l1, l2, some (zI x)] st G h k ↔ zE 8 d Q 5 [l0, l1, l2, some (zI x)] (zI x :: st) G h k := E_iload_n (by rfl) rfl
theorem e8_5 : zE 8 d Q 5 [some (.inr (.inr w9)), l1, l2, l3] st G h k ↔ zE 8 d Q 6 [some (.inr (.inr w9)), l1, l2, l3] (.inr (.inr w9) :: st) G h k := E_aload_n (by rfl) rfl
theorem e8_6 : zE 8 d Q 6 [l0, l1, l2, l3] (zR (some r) :: st) G h k ↔ (G.2.1 r = 1 ∧ zE 8 d Q 9 [l0, l1, l2, l3] (zR (G.2.2.2 r 0) :: st) G h k) := E_getR (by rfl) rfl
theorem e8_9 : zE 8 d Q 9 [l0, l1, l2, l3] (zR (some r) :: st) G h k ↔ (G.2.1 r = 5 ∧ zE 8 d Q 12 [l0, l1, l2, l3] (zI (h r 9) :: st) G h k) := E_getI (by rfl) (by decide)
theorem e8_12 : zE 8 d Q 12 [l0, l1, l2, l3] (zI y :: zI x :: st) G h k ↔ ((y ≤ x → zE 8 d Q 33 [l0, l1, l2, l3] st G h k) ∧ (¬ (y ≤ x) → zE 8 d Q 15 [l0, l1, l2, l3] st G h k)) := E_icmp_ge (by rfl)
theorem e8_15 : zE 8 d Q 15 [l0, l1, some (zI x), l3] st G h k ↔ zE 8 d Q 16 [l0, l1, some (zI x), l3] (zI x :: st) G h k := E_iload_n (by rfl) rfl
theorem e8_16 : zE 8 d Q 16 [some (.inr (.inr w9)), l1, l2, l3] st G h k ↔ zE 8 d Q 17 [some (.inr (.inr w9)), l1, l2, l3] (.inr (.inr w9) :: st) G h k := E_aload_n (by rfl) rfl
theorem e8_17 : zE 8 d Q 17 [l0, some (zI x), l2, l3] st G h k ↔ zE 8 d Q 18 [l0, some (zI x), l2, l3] (zI x :: st) G h k := E_iload_n (by rfl) rfl
theorem e8_18 : zE 8 d Q 18 [l0, l1, l2, some (zI x)] st G h k ↔ zE 8 d Q 19 [l0, l1, l2, some (zI x)] (zI x :: st) G h k := E_iload_n (by rfl) rfl
theorem e8_19 : zE 8 d Q 19 [l0, l1, l2, l3] st G h k ↔ zE 8 d Q 20 [l0, l1, l2, l3] (zI 0 :: st) G h k := E_iconst (by rfl)
theorem e8_20 : zE 8 d Q 20 [l0, l1, l2, l3] (v2 :: v1 :: v0 :: zR (some r) :: st) G h k ↔ (zsum st ≤ 8 ∧ G.2.1 r = 1 ∧ zRunD ztb zmt' d 9 [zR (some r), v0, v1, v2] G h (fun v G' h' => zE 8 d Q 23 [l0, l1, l2, l3] (v.toList ++ st) G' h' k)) := E_invV2z (by rfl) (by decide) rfl
theorem e8_23 : zE 8 d Q 23 [l0, l1, l2, l3] (v1 :: v0 :: st) G h k ↔ (zsum st ≤ 8 ∧ zRunD ztb zmt' d 215 [v0, v1] G h (fun v G' h' => zE 8 d Q 26 [l0, l1, l2, l3] (v.toList ++ st) G' h' k)) := E_invS2z (by rfl) (by decide) rfl
theorem e8_26 : zE 8 d Q 26 [l0, l1, l2, l3] (zI x :: st) G h k ↔ zE 8 d Q 27 [l0, (zclr l1), some (zI x), l3] st G h k := E_istore_n (by rfl) (by decide)
theorem e8_27 : zE 8 d Q 27 [l0, l1, l2, some (zI x)] st G h k ↔ zE 8 d Q 30 [l0, l1, (zclr l2), some (zI (wr (x + 1)))] st G h k := E_iinc (by rfl) rfl
theorem e8_30 : zE 8 d Q 30 [l0, l1, l2, l3] st G h k ↔ zE 8 d Q 4 [l0, l1, l2, l3] st G h k := E_goto (by rfl)
theorem e8_33 : zE 8 d Q 33 [l0, l1, some (zI x), l3] st G h k ↔ zE 8 d Q 34 [l0, l1, some (zI x), l3] (zI x :: st) G h k := E_iload_n (by rfl) rfl
theorem e8_34 : zE 8 d Q 34 [l0, l1, l2, l3] [zI x] G h k ↔ Q (some (zI x)) G h := E_iret (by rfl) rfl
theorem e9_0 : zE 9 d Q 0 [l0, l1, l2, some (zI x), l4, l5] st G h k ↔ zE 9 d Q 1 [l0, l1, l2, some (zI x), l4, l5] (zI x :: st) G h k := E_iload_n (by rfl) rfl
theorem e9_1 : zE 9 d Q 1 [l0, l1, l2, l3, l4, l5] (zI x :: st) G h k ↔ ((x = 0 → zE 9 d Q 13 [l0, l1, l2, l3, l4, l5] st G h k) ∧ (¬ (x = 0) → zE 9 d Q 4 [l0, l1, l2, l3, l4, l5] st G h k)) := E_if_eq (by rfl)
theorem e9_4 : zE 9 d Q 4 [some (.inr (.inr w9)), l1, l2, l3, l4, l5] st G h k ↔ zE 9 d Q 5 [some (.inr (.inr w9)), l1, l2, l3, l4, l5] (.inr (.inr w9) :: st) G h k := E_aload_n (by rfl) rfl
theorem e9_5 : zE 9 d Q 5 [l0, l1, l2, l3, l4, l5] (zR (some r) :: st) G h k ↔ (G.2.1 r = 1 ∧ zE 9 d Q 8 [l0, l1, l2, l3, l4, l5] (zR (G.2.2.2 r 3) :: st) G h k) := E_getR (by rfl) rfl
theorem e9_8 : zE 9 d Q 8 [l0, l1, some (zI x), l3, l4, l5] st G h k ↔ zE 9 d Q 9 [l0, l1, some (zI x), l3, l4, l5] (zI x :: st) G h k := E_iload_n (by rfl) rfl
theorem e9_9 : zE 9 d Q 9 [l0, l1, l2, l3, l4, l5] (zI i :: zR (some r) :: st) G h k ↔ (G.2.1 r = 10 ∧ (0 ≤ i ∧ i < G.2.2.1 r) ∧ zE 9 d Q 10 [l0, l1, l2, l3, l4, l5] (zI (h r i.toNat) :: st) G h k) := E_iaload (by rfl)
theorem e9_10 : zE 9 d Q 10 [l0, l1, l2, l3, l4, l5] st G h k ↔ zE 9 d Q 14 [l0, l1, l2, l3, l4, l5] st G h k := E_goto (by rfl)
theorem e9_13 : zE 9 d Q 13 [l0, l1, l2, l3, l4, l5] st G h k ↔ zE 9 d Q 14 [l0, l1, l2, l3, l4, l5] (zI 0 :: st) G h k := E_iconst (by rfl)
theorem e9_14 : zE 9 d Q 14 [l0, l1, l2, l3, l4, l5] (zI x :: st) G h k ↔ zE 9 d Q 16 [l0, l1, l2, (zclr l3), some (zI x), l5] st G h k := E_istore (by rfl) (by decide)
theorem e9_16 : zE 9 d Q 16 [l0, l1, some (zI x), l3, l4, l5] st G h k ↔ zE 9 d Q 17 [l0, l1, some (zI x), l3, l4, l5] (zI x :: st) G h k := E_iload_n (by rfl) rfl
theorem e9_17 : zE 9 d Q 17 [l0, l1, l2, l3, l4, l5] st G h k ↔ zE 9 d Q 18 [l0, l1, l2, l3, l4, l5] (zI 3 :: st) G h k := E_iconst (by rfl)
theorem e9_18 : zE 9 d Q 18 [l0, l1, l2, l3, l4, l5] (zI y :: zI x :: st) G h k ↔ ((¬ x = y → zE 9 d Q 24 [l0, l1, l2, l3, l4, l5] st G h k) ∧ (¬ (¬ x = y) → zE 9 d Q 21 [l0, l1, l2, l3, l4, l5] st G h k)) := E_icmp_ne (by rfl)
theorem e9_21 : zE 9 d Q 21 [l0, l1, l2, l3, some (zI x), l5] st G h k ↔ zE 9 d Q 23 [l0, l1, l2, l3, some (zI x), l5] (zI x :: st) G h k := E_iload (by rfl) rfl
theorem e9_23 : zE 9 d Q 23 [l0, l1, l2, l3, l4, l5] [zI x] G h k ↔ Q (some (zI x)) G h := E_iret (by rfl) rfl
theorem e9_24 : zE 9 d Q 24 [l0, l1, l2, l3, some (zI x), l5] st G h k ↔ zE 9 d Q 26 [l0, l1, l2, l3, some (zI x), l5] (zI x :: st) G h k := E_iload (by rfl) rfl
theorem e9_26 : zE 9 d Q 26 [some (.inr (.inr w9)), l1, l2, l3, l4, l5] st G h k ↔ zE 9 d Q 27 [some (.inr (.inr w9)), l1, l2, l3, l4, l5] (.inr (.inr w9) :: st) G h k := E_aload_n (by rfl) rfl
theorem e9_27 : zE 9 d Q 27 [l0, l1, l2, l3, l4, l5] (zR (some r) :: st) G h k ↔ (G.2.1 r = 1 ∧ zE 9 d Q 30 [l0, l1, l2, l3, l4, l5] (zR (G.2.2.2 r 0) :: st) G h k) := E_getR (by rfl) rfl
theorem e9_30 : zE 9 d Q 30 [l0, l1, l2, l3, l4, l5] (zR (some r) :: st) G h k ↔ (G.2.1 r = 5 ∧ zE 9 d Q 33 [l0, l1, l2, l3, l4, l5] (zR (G.2.2.2 r 4) :: st) G h k) := E_getR (by rfl) rfl
theorem e9_33 : zE 9 d Q 33 [some (.inr (.inr w9)), l1, l2, l3, l4, l5] st G h k ↔ zE 9 d Q 34 [some (.inr (.inr w9)), l1, l2, l3, l4, l5] (.inr (.inr w9) :: st) G h k := E_aload_n (by rfl) rfl
theorem e9_34 : zE 9 d Q 34 [l0, l1, l2, l3, l4, l5] (zR (some r) :: st) G h k ↔ (G.2.1 r = 1 ∧ zE 9 d Q 37 [l0, l1, l2, l3, l4, l5] (zI (h r 4) :: st) G h k) := E_getI (by rfl) (by decide)
theorem e9_37 : zE 9 d Q 37 [l0, l1, l2, l3, l4, l5] (zI i :: zR (some r) :: st) G h k ↔ (G.2.1 r = 10 ∧ (0 ≤ i ∧ i < G.2.2.1 r) ∧ zE 9 d Q 38 [l0, l1, l2, l3, l4, l5] (zI (h r i.toNat) :: st) G h k) := E_iaload (by rfl)
theorem e9_38 : zE 9 d Q 38 [l0, some (zI x), l2, l3, l4, l5] st G h k ↔ zE 9 d Q 39 [l0, some (zI x), l2, l3, l4, l5] (zI x :: st) G h k := E_iload_n (by rfl) rfl
theorem e9_39 : zE 9 d Q 39 [l0, l1, some (zI x), l3, l4, l5] st G h k ↔ zE 9 d Q 40 [l0, l1, some (zI x), l3, l4, l5] (zI x :: st) G h k := E_iload_n (by rfl) rfl
theorem e9_40 : zE 9 d Q 40 [l0, l1, l2, l3, l4, l5] (zI y :: zI x :: st) G h k ↔ ((¬ x = y → zE 9 d Q 52 [l0, l1, l2, l3, l4, l5] st G h k) ∧ (¬ (¬ x = y) → zE 9 d Q 43 [l0, l1, l2, l3, l4, l5] st G h k)) := E_icmp_ne (by rfl)
theorem e9_43 : zE 9 d Q 43 [some (.inr (.inr w9)), l1, l2, l3, l4, l5] st G h k ↔ zE 9 d Q 44 [some (.inr (.inr w9)), l1, l2, l3, l4, l5] (.inr (.inr w9) :: st) G h k := E_aload_n (by rfl) rfl
theorem e9_44 : zE 9 d Q 44 [l0, l1, l2, l3, l4, l5] (zR (some r) :: st) G h k ↔ (G.2.1 r = 1 ∧ zE 9 d Q 47 [l0, l1, l2, l3, l4, l5] (zR (G.2.2.2 r 1) :: st) G h k) := E_getR (by rfl) rfl
theorem e9_47 : zE 9 d Q 47 [l0, l1, some (zI x), l3, l4, l5] st G h k ↔ zE 9 d Q 48 [l0, l1, some (zI x), l3, l4, l5] (zI x :: st) G h k := E_iload_n (by rfl) rfl
theorem e9_48 : zE 9 d Q 48 [l0, l1, l2, l3, l4, l5] (zI i :: zR (some r) :: st) G h k ↔ (G.2.1 r = 10 ∧ (0 ≤ i ∧ i < G.2.2.1 r) ∧ zE 9 d Q 49 [l0, l1, l2, l3, l4, l5] (zI (h r i.toNat) :: st) G h k) := E_iaload (by rfl)
theorem e9_49 : zE 9 d Q 49 [l0, l1, l2, l3, l4, l5] st G h k ↔ zE 9 d Q 58 [l0, l1, l2, l3, l4, l5] st G h k := E_goto (by rfl)
theorem e9_52 : zE 9 d Q 52 [some (.inr (.inr w9)), l1, l2, l3, l4, l5] st G h k ↔ zE 9 d Q 53 [some (.inr (.inr w9)), l1, l2, l3, l4, l5] (.inr (.inr w9) :: st) G h k := E_aload_n (by rfl) rfl
theorem e9_53 : zE 9 d Q 53 [l0, l1, l2, l3, l4, l5] (zR (some r) :: st) G h k ↔ (G.2.1 r = 1 ∧ zE 9 d Q 56 [l0, l1, l2, l3, l4, l5] (zR (G.2.2.2 r 2) :: st) G h k) := E_getR (by rfl) rfl
theorem e9_56 : zE 9 d Q 56 [l0, l1, some (zI x), l3, l4, l5] st G h k ↔ zE 9 d Q 57 [l0, l1, some (zI x), l3, l4, l5] (zI x :: st) G h k := E_iload_n (by rfl) rfl
theorem e9_57 : zE 9 d Q 57 [l0, l1, l2, l3, l4, l5] (zI i :: zR (some r) :: st) G h k ↔ (G.2.1 r = 10 ∧ (0 ≤ i ∧ i < G.2.2.1 r) ∧ zE 9 d Q 58 [l0, l1, l2, l3, l4, l5] (zI (h r i.toNat) :: st) G h k) := E_iaload (by rfl)
theorem e9_58 : zE 9 d Q 58 [l0, l1, l2, l3, l4, l5] (zI y :: zI x :: st) G h k ↔ zE 9 d Q 59 [l0, l1, l2, l3, l4, l5] (zI (wr (x - y)) :: st) G h k := E_isub (by rfl)
theorem e9_59 : zE 9 d Q 59 [l0, l1, l2, l3, l4, l5] (zI y :: zI x :: st) G h k ↔ zE 9 d Q 60 [l0, l1, l2, l3, l4, l5] (zI (wr (x + y)) :: st) G h k := E_iadd (by rfl)
theorem e9_60 : zE 9 d Q 60 [l0, l1, l2, l3, l4, l5] (zI x :: st) G h k ↔ zE 9 d Q 62 [l0, l1, l2, (zclr l3), some (zI x), l5] st G h k := E_istore (by rfl) (by decide)
theorem e9_62 : zE 9 d Q 62 [l0, some (zI x), l2, l3, l4, l5] st G h k ↔ zE 9 d Q 63 [l0, some (zI x), l2, l3, l4, l5] (zI x :: st) G h k := E_iload_n (by rfl) rfl
theorem e9_63 : zE 9 d Q 63 [l0, l1, some (zI x), l3, l4, l5] st G h k ↔ zE 9 d Q 64 [l0, l1, some (zI x), l3, l4, l5] (zI x :: st) G h k := E_iload_n (by rfl) rfl
theorem e9_64 : zE 9 d Q 64 [l0, l1, l2, l3, l4, l5] (zI y :: zI x :: st) G h k ↔ ((x = y → zE 9 d Q 121 [l0, l1, l2, l3, l4, l5] st G h k) ∧ (¬ (x = y) → zE 9 d Q 67 [l0, l1, l2, l3, l4, l5] st G h k)) := E_icmp_eq (by rfl)
theorem e9_67 : zE 9 d Q 67 [l0, some (zI x), l2, l3, l4, l5] st G h k ↔ zE 9 d Q 68 [l0, some (zI x), l2, l3, l4, l5] (zI x :: st) G h k := E_iload_n (by rfl) rfl
theorem e9_68 : zE 9 d Q 68 [l0, l1, l2, l3, l4, l5] st G h k ↔ zE 9 d Q 69 [l0, l1, l2, l3, l4, l5] (zI 3 :: st) G h k := E_iconst (by rfl)
theorem e9_69 : zE 9 d Q 69 [l0, l1, l2, l3, l4, l5] (zI y :: zI x :: st) G h k ↔ ((x = y → zE 9 d Q 121 [l0, l1, l2, l3, l4, l5] st G h k) ∧ (¬ (x = y) → zE 9 d Q 72 [l0, l1, l2, l3, l4, l5] st G h k)) := E_icmp_eq (by rfl)
theorem e9_72 : zE 9 d Q 72 [some (.inr (.inr w9)), l1, l2, l3, l4, l5] st G h k ↔ zE 9 d Q 73 [some (.inr (.inr w9)), l1, l2, l3, l4, l5] (.inr (.inr w9) :: st) G h k := E_aload_n (by rfl) rfl
theorem e9_73 : zE 9 d Q 73 [l0, l1, l2, l3, l4, l5] (zR (some r) :: st) G h k ↔ (G.2.1 r = 1 ∧ zE 9 d Q 76 [l0, l1, l2, l3, l4, l5] (zR (G.2.2.2 r 0) :: st) G h k) := E_getR (by rfl) rfl
theorem e9_76 : zE 9 d Q 76 [l0, l1, l2, l3, l4, l5] (zR (some r) :: st) G h k ↔ (G.2.1 r = 5 ∧ zE 9 d Q 79 [l0, l1, l2, l3, l4, l5] (zR (G.2.2.2 r 5) :: st) G h k) := E_getR (by rfl) rfl
theorem e9_79 : zE 9 d Q 79 [some (.inr (.inr w9)), l1, l2, l3, l4, l5] st G h k ↔ zE 9 d Q 80 [some (.inr (.inr w9)), l1, l2, l3, l4, l5] (.inr (.inr w9) :: st) G h k := E_aload_n (by rfl) rfl
theorem e9_80 : zE 9 d Q 80 [l0, l1, l2, l3, l4, l5] (zR (some r) :: st) G h k ↔ (G.2.1 r = 1 ∧ zE 9 d Q 83 [l0, l1, l2, l3, l4, l5] (zI (h r 4) :: st) G h k) := E_getI (by rfl) (by decide)
theorem e9_83 : zE 9 d Q 83 [l0, l1, l2, l3, l4, l5] (zI i :: zR (some r) :: st) G h k ↔ (G.2.1 r = 10 ∧ (0 ≤ i ∧ i < G.2.2.1 r) ∧ zE 9 d Q 84 [l0, l1, l2, l3, l4, l5] (zI (h r i.toNat) :: st) G h k) := E_iaload (by rfl)
theorem e9_84 : zE 9 d Q 84 [l0, l1, l2, l3, l4, l5] (zI x :: st) G h k ↔ zE 9 d Q 86 [l0, l1, l2, l3, (zclr l4), some (zI x)] st G h k := E_istore (by rfl) (by decide)
theorem e9_86 : zE 9 d Q 86 [l0, l1, l2, l3, some (zI x), l5] st G h k ↔ zE 9 d Q 88 [l0, l1, l2, l3, some (zI x), l5] (zI x :: st) G h k := E_iload (by rfl) rfl
theorem e9_88 : zE 9 d Q 88 [some (.inr (.inr w9)), l1, l2, l3, l4, l5] st G h k ↔ zE 9 d Q 89 [some (.inr (.inr w9)), l1, l2, l3, l4, l5] (.inr (.inr w9) :: st) G h k := E_aload_n (by rfl) rfl
theorem e9_89 : zE 9 d Q 89 [l0, l1, l2, l3, l4, l5] (zR (some r) :: st) G h k ↔ (G.2.1 r = 1 ∧ zE 9 d Q 92 [l0, l1, l2, l3, l4, l5] (zR (G.2.2.2 r 0) :: st) G h k) := E_getR (by rfl) rfl
theorem e9_92 : zE 9 d Q 92 [l0, l1, l2, l3, l4, l5] (zR (some r) :: st) G h k ↔ (G.2.1 r = 5 ∧ zE 9 d Q 95 [l0, l1, l2, l3, l4, l5] (zR (G.2.2.2 r 1) :: st) G h k) := E_getR (by rfl) rfl
theorem e9_95 : zE 9 d Q 95 [l0, some (zI x), l2, l3, l4, l5] st G h k ↔ zE 9 d Q 96 [l0, some (zI x), l2, l3, l4, l5] (zI x :: st) G h k := E_iload_n (by rfl) rfl
theorem e9_96 : zE 9 d Q 96 [l0, l1, l2, l3, l4, l5] (zI i :: zR (some r) :: st) G h k ↔ (G.2.1 r = 10 ∧ (0 ≤ i ∧ i < G.2.2.1 r) ∧ zE 9 d Q 97 [l0, l1, l2, l3, l4, l5] (zI (h r i.toNat) :: st) G h k) := E_iaload (by rfl)
theorem e9_97 : zE 9 d Q 97 [some (.inr (.inr w9)), l1, l2, l3, l4, l5] st G h k ↔ zE 9 d Q 98 [some (.inr (.inr w9)), l1, l2, l3, l4, l5] (.inr (.inr w9) :: st) G h k := E_aload_n (by rfl) rfl
theorem e9_98 : zE 9 d Q 98 [l0, l1, l2, l3, l4, l5] (zR (some r) :: st) G h k ↔ (G.2.1 r = 1 ∧ zE 9 d Q 101 [l0, l1, l2, l3, l4, l5] (zR (G.2.2.2 r 0) :: st) G h k) := E_getR (by rfl) rfl
theorem e9_101 : zE 9 d Q 101 [l0, l1, l2, l3, l4, l5] (zR (some r) :: st) G h k ↔ (G.2.1 r = 5 ∧ zE 9 d Q 104 [l0, l1, l2, l3, l4, l5] (zR (G.2.2.2 r 1) :: st) G h k) := E_getR (by rfl) rfl
theorem e9_104 : zE 9 d Q 104 [l0, l1, some (zI x), l3, l4, l5] st G h k ↔ zE 9 d Q 105 [l0, l1, some (zI x), l3, l4, l5] (zI x :: st) G h k := E_iload_n (by rfl) rfl
theorem e9_105 : zE 9 d Q 105 [l0, l1, l2, l3, l4, l5] (zI i :: zR (some r) :: st) G h k ↔ (G.2.1 r = 10 ∧ (0 ≤ i ∧ i < G.2.2.1 r) ∧ zE 9 d Q 106 [l0, l1, l2, l3, l4, l5] (zI (h r i.toNat) :: st) G h k) := E_iaload (by rfl)
theorem e9_106 : zE 9 d Q 106 [l0, l1, l2, l3, l4, l5] (zI y :: zI x :: st) G h k ↔ ((¬ x = y → zE 9 d Q 116 [l0, l1, l2, l3, l4, l5] st G h k) ∧ (¬ (¬ x = y) → zE 9 d Q 109 [l0, l1, l2, l3, l4, l5] st G h k)) := E_icmp_ne (by rfl)
theorem e9_109 : zE 9 d Q 109 [l0, l1, l2, l3, l4, some (zI x)] st G h k ↔ zE 9 d Q 111 [l0, l1, l2, l3, l4, some (zI x)] (zI x :: st) G h k := E_iload (by rfl) rfl
theorem e9_111 : zE 9 d Q 111 [l0, l1, l2, l3, l4, l5] st G h k ↔ zE 9 d Q 112 [l0, l1, l2, l3, l4, l5] (zI 2 :: st) G h k := E_iconst (by rfl)
theorem e9_112 : zE 9 d Q 112 [l0, l1, l2, l3, l4, l5] (zI y :: zI x :: st) G h k ↔ (y ≠ 0 ∧ zE 9 d Q 113 [l0, l1, l2, l3, l4, l5] (zI (wr (x.tdiv y)) :: st) G h k) := E_idiv (by rfl)
theorem e9_113 : zE 9 d Q 113 [l0, l1, l2, l3, l4, l5] st G h k ↔ zE 9 d Q 118 [l0, l1, l2, l3, l4, l5] st G h k := E_goto (by rfl)
theorem e9_116 : zE 9 d Q 116 [l0, l1, l2, l3, l4, some (zI x)] st G h k ↔ zE 9 d Q 118 [l0, l1, l2, l3, l4, some (zI x)] (zI x :: st) G h k := E_iload (by rfl) rfl
theorem e9_118 : zE 9 d Q 118 [l0, l1, l2, l3, l4, l5] (zI y :: zI x :: st) G h k ↔ zE 9 d Q 119 [l0, l1, l2, l3, l4, l5] (zI (wr (x - y)) :: st) G h k := E_isub (by rfl)
theorem e9_119 : zE 9 d Q 119 [l0, l1, l2, l3, l4, l5] (zI x :: st) G h k ↔ zE 9 d Q 121 [l0, l1, l2, (zclr l3), some (zI x), l5] st G h k := E_istore (by rfl) (by decide)
theorem e9_121 : zE 9 d Q 121 [l0, l1, l2, l3, some (zI x), l5] st G h k ↔ zE 9 d Q 123 [l0, l1, l2, l3, some (zI x), l5] (zI x :: st) G h k := E_iload (by rfl) rfl
theorem e9_123 : zE 9 d Q 123 [l0, l1, l2, l3, l4, l5] [zI x] G h k ↔ Q (some (zI x)) G h := E_iret (by rfl) rfl
theorem e10_0 : zE 10 d Q 0 [l0, some (zI x), l2, l3, l4, l5, l6] st G h k ↔ zE 10 d Q 1 [l0, some (zI x), l2, l3, l4, l5, l6] (zI x :: st) G h k := E_iload_n (by rfl) rfl
theorem e10_1 : zE 10 d Q 1 [l0, l1, l2, l3, l4, l5, l6] st G h k ↔ zE 10 d Q 2 [l0, l1, l2, l3, l4, l5, l6] (zI 3 :: st) G h k := E_iconst (by rfl)
theorem e10_2 : zE 10 d Q 2 [l0, l1, l2, l3, l4, l5, l6] (zI y :: zI x :: st) G h k ↔ ((¬ x = y → zE 10 d Q 9 [l0, l1, l2, l3, l4, l5, l6] st G h k) ∧ (¬ (¬ x = y) → zE 10 d Q 5 [l0, l1, l2, l3, l4, l5, l6] st G h k)) := E_icmp_ne (by rfl)
theorem e10_5 : zE 10 d Q 5 [l0, l1, l2, l3, l4, l5, l6] st G h k ↔ zE 10 d Q 6 [l0, l1, l2, l3, l4, l5, l6] (zI 0 :: st) G h k := E_iconst (by rfl)
theorem e10_6 : zE 10 d Q 6 [l0, l1, l2, l3, l4, l5, l6] st G h k ↔ zE 10 d Q 10 [l0, l1, l2, l3, l4, l5, l6] st G h k := E_goto (by rfl)
theorem e10_9 : zE 10 d Q 9 [l0, some (zI x), l2, l3, l4, l5, l6] st G h k ↔ zE 10 d Q 10 [l0, some (zI x), l2, l3, l4, l5, l6] (zI x :: st) G h k := E_iload_n (by rfl) rfl
theorem e10_10 : zE 10 d Q 10 [l0, l1, l2, l3, l4, l5, l6] (zI x :: st) G h k ↔ zE 10 d Q 11 [l0, l1, (zclr l2), some (zI x), l4, l5, l6] st G h k := E_istore_n (by rfl) (by decide)
theorem e10_11 : zE 10 d Q 11 [some (.inr (.inr w9)), l1, l2, l3, l4, l5, l6] st G h k ↔ zE 10 d Q 12 [some (.inr (.inr w9)), l1, l2, l3, l4, l5, l6] (.inr (.inr w9) :: st) G h k := E_aload_n (by rfl) rfl
theorem e10_12 : zE 10 d Q 12 [l0, some (zI x), l2, l3, l4, l5, l6] st G h k ↔ zE 10 d Q 13 [l0, some (zI x), l2, l3, l4, l5, l6] (zI x :: st) G h k := E_iload_n (by rfl) rfl
theorem e10_13 : zE 10 d Q 13 [l0, l1, l2, some (zI x), l4, l5, l6] st G h k ↔ zE 10 d Q 14 [l0, l1, l2, some (zI x), l4, l5, l6] (zI x :: st) G h k := E_iload_n (by rfl) rfl
theorem e10_14 : zE 10 d Q 14 [l0, l1, some (zI x), l3, l4, l5, l6] st G h k ↔ zE 10 d Q 15 [l0, l1, some (zI x), l3, l4, l5, l6] (zI x :: st) G h k := E_iload_n (by rfl) rfl
theorem e10_15 : zE 10 d Q 15 [l0, l1, l2, l3, l4, l5, l6] (v2 :: v1 :: v0 :: zR (some r) :: st) G h k ↔ (zsum st ≤ 8 ∧ G.2.1 r = 1 ∧ zRunD ztb zmt' d 9 [zR (some r), v0, v1, v2] G h (fun v G' h' => zE 10 d Q 18 [l0, l1, l2, l3, l4, l5, l6] (v.toList ++ st) G' h' k)) := E_invV2z (by rfl) (by decide) rfl
theorem e10_18 : zE 10 d Q 18 [l0, l1, l2, l3, l4, l5, l6] (zI x :: st) G h k ↔ zE 10 d Q 20 [l0, l1, l2, (zclr l3), some (zI x), l5, l6] st G h k := E_istore (by rfl) (by decide)
theorem e10_20 : zE 10 d Q 20 [l0, l1, l2, l3, l4, l5, l6] st G h k ↔ zE 10 d Q 21 [l0, l1, l2, l3, l4, l5, l6] (zI 0 :: st) G h k := E_iconst (by rfl)
theorem e10_21 : zE 10 d Q 21 [l0, l1, l2, l3, l4, l5, l6] (zI x :: st) G h k ↔ zE 10 d Q 23 [l0, l1, l2, l3, (zclr l4), some (zI x), l6] st G h k := E_istore (by rfl) (by decide)
theorem e10_23 : zE 10 d Q 23 [l0, l1, l2, l3, l4, some (zI x), l6] st G h k ↔ zE 10 d Q 25 [l0, l1, l2, l3, l4, some (zI x), l6] (zI x :: st) G h k := E_iload (by rfl) rfl
theorem e10_25 : zE 10 d Q 25 [some (.inr (.inr w9)), l1, l2, l3, l4, l5, l6] st G h k ↔ zE 10 d Q 26 [some (.inr (.inr w9)), l1, l2, l3, l4, l5, l6] (.inr (.inr w9) :: st) G h k := E_aload_n (by rfl) rfl
theorem e10_26 : zE 10 d Q 26 [l0, l1, l2, l3, l4, l5, l6] (zR (some r) :: st) G h k ↔ (G.2.1 r = 1 ∧ zE 10 d Q 29 [l0, l1, l2, l3, l4, l5, l6] (zR (G.2.2.2 r 0) :: st) G h k) := E_getR (by rfl) rfl
theorem e10_29 : zE 10 d Q 29 [l0, l1, l2, l3, l4, l5, l6] (zR (some r) :: st) G h k ↔ (G.2.1 r = 5 ∧ zE 10 d Q 32 [l0, l1, l2, l3, l4, l5, l6] (zI (h r 9) :: st) G h k) := E_getI (by rfl) (by decide)
theorem e10_32 : zE 10 d Q 32 [l0, l1, l2, l3, l4, l5, l6] (zI y :: zI x :: st) G h k ↔ ((y ≤ x → zE 10 d Q 65 [l0, l1, l2, l3, l4, l5, l6] st G h k) ∧ (¬ (y ≤ x) → zE 10 d Q 35 [l0, l1, l2, l3, l4, l5, l6] st G h k)) := E_icmp_ge (by rfl)
theorem e10_35 : zE 10 d Q 35 [some (.inr (.inr w9)), l1, l2, l3, l4, l5, l6] st G h k ↔ zE 10 d Q 36 [some (.inr (.inr w9)), l1, l2, l3, l4, l5, l6] (.inr (.inr w9) :: st) G h k := E_aload_n (by rfl) rfl
theorem e10_36 : zE 10 d Q 36 [l0, some (zI x), l2, l3, l4, l5, l6] st G h k ↔ zE 10 d Q 37 [l0, some (zI x), l2, l3, l4, l5, l6] (zI x :: st) G h k := E_iload_n (by rfl) rfl
theorem e10_37 : zE 10 d Q 37 [l0, l1, l2, l3, l4, some (zI x), l6] st G h k ↔ zE 10 d Q 39 [l0, l1, l2, l3, l4, some (zI x), l6] (zI x :: st) G h k := E_iload (by rfl) rfl
theorem e10_39 : zE 10 d Q 39 [l0, l1, some (zI x), l3, l4, l5, l6] st G h k ↔ zE 10 d Q 40 [l0, l1, some (zI x), l3, l4, l5, l6] (zI x :: st) G h k := E_iload_n (by rfl) rfl
theorem e10_40 : zE 10 d Q 40 [l0, l1, l2, l3, l4, l5, l6] (v2 :: v1 :: v0 :: zR (some r) :: st) G h k ↔ (zsum st ≤ 8 ∧ G.2.1 r = 1 ∧ zRunD ztb zmt' d 9 [zR (some r), v0, v1, v2] G h (fun v G' h' => zE 10 d Q 43 [l0, l1, l2, l3, l4, l5, l6] (v.toList ++ st) G' h' k)) := E_invV2z (by rfl) (by decide) rfl
theorem e10_43 : zE 10 d Q 43 [l0, l1, l2, l3, l4, l5, l6] (zI x :: st) G h k ↔ zE 10 d Q 45 [l0, l1, l2, l3, l4, (zclr l5), some (zI x)] st G h k := E_istore (by rfl) (by decide)
theorem e10_45 : zE 10 d Q 45 [l0, l1, l2, l3, l4, l5, some (zI x)] st G h k ↔ zE 10 d Q 47 [l0, l1, l2, l3, l4, l5, some (zI x)] (zI x :: st) G h k := E_iload (by rfl) rfl
theorem e10_47 : zE 10 d Q 47 [l0, l1, l2, l3, some (zI x), l5, l6] st G h k ↔ zE 10 d Q 49 [l0, l1, l2, l3, some (zI x), l5, l6] (zI x :: st) G h k := E_iload (by rfl) rfl
theorem e10_49 : zE 10 d Q 49 [l0, l1, l2, l3, l4, l5, l6] (zI y :: zI x :: st) G h k ↔ ((x ≤ y → zE 10 d Q 59 [l0, l1, l2, l3, l4, l5, l6] st G h k) ∧ (¬ (x ≤ y) → zE 10 d Q 52 [l0, l1, l2, l3, l4, l5, l6] st G h k)) := E_icmp_le (by rfl)
theorem e10_52 : zE 10 d Q 52 [l0, l1, l2, l3, l4, l5, some (zI x)] st G h k ↔ zE 10 d Q 54 [l0, l1, l2, l3, l4, l5, some (zI x)] (zI x :: st) G h k := E_iload (by rfl) rfl
theorem e10_54 : zE 10 d Q 54 [l0, l1, l2, l3, l4, l5, l6] (zI x :: st) G h k ↔ zE 10 d Q 56 [l0, l1, l2, (zclr l3), some (zI x), l5, l6] st G h k := E_istore (by rfl) (by decide)
theorem e10_56 : zE 10 d Q 56 [l0, l1, l2, l3, l4, some (zI x), l6] st G h k ↔ zE 10 d Q 58 [l0, l1, l2, l3, l4, some (zI x), l6] (zI x :: st) G h k := E_iload (by rfl) rfl
theorem e10_58 : zE 10 d Q 58 [l0, l1, l2, l3, l4, l5, l6] (zI x :: st) G h k ↔ zE 10 d Q 59 [l0, l1, (zclr l2), some (zI x), l4, l5, l6] st G h k := E_istore_n (by rfl) (by decide)
theorem e10_59 : zE 10 d Q 59 [l0, l1, l2, l3, l4, some (zI x), l6] st G h k ↔ zE 10 d Q 62 [l0, l1, l2, l3, (zclr l4), some (zI (wr (x + 1))), l6] st G h k := E_iinc (by rfl) rfl
theorem e10_62 : zE 10 d Q 62 [l0, l1, l2, l3, l4, l5, l6] st G h k ↔ zE 10 d Q 23 [l0, l1, l2, l3, l4, l5, l6] st G h k := E_goto (by rfl)
theorem e10_65 : zE 10 d Q 65 [some (.inr (.inr w9)), l1, l2, l3, l4, l5, l6] st G h k ↔ zE 10 d Q 66 [some (.inr (.inr w9)), l1, l2, l3, l4, l5, l6] (.inr (.inr w9) :: st) G h k := E_aload_n (by rfl) rfl
theorem e10_66 : zE 10 d Q 66 [l0, some (zI x), l2, l3, l4, l5, l6] st G h k ↔ zE 10 d Q 67 [l0, some (zI x), l2, l3, l4, l5, l6] (zI x :: st) G h k := E_iload_n (by rfl) rfl
theorem e10_67 : zE 10 d Q 67 [l0, l1, l2, l3, l4, l5, l6] st G h k ↔ zE 10 d Q 68 [l0, l1, l2, l3, l4, l5, l6] (zI 3 :: st) G h k := E_iconst (by rfl)
theorem e10_68 : zE 10 d Q 68 [l0, l1, some (zI x), l3, l4, l5, l6] st G h k ↔ zE 10 d Q 69 [l0, l1, some (zI x), l3, l4, l5, l6] (zI x :: st) G h k := E_iload_n (by rfl) rfl
theorem e10_69 : zE 10 d Q 69 [l0, l1, l2, l3, l4, l5, l6] (v2 :: v1 :: v0 :: zR (some r) :: st) G h k ↔ (zsum st ≤ 8 ∧ G.2.1 r = 1 ∧ zRunD ztb zmt' d 9 [zR (some r), v0, v1, v2] G h (fun v G' h' => zE 10 d Q 72 [l0, l1, l2, l3, l4, l5, l6] (v.toList ++ st) G' h' k)) := E_invV2z (by rfl) (by decide) rfl
theorem e10_72 : zE 10 d Q 72 [l0, l1, l2, l3, some (zI x), l5, l6] st G h k ↔ zE 10 d Q 74 [l0, l1, l2, l3, some (zI x), l5, l6] (zI x :: st) G h k := E_iload (by rfl) rfl
theorem e10_74 : zE 10 d Q 74 [l0, l1, l2, l3, l4, l5, l6] (zI y :: zI x :: st) G h k ↔ ((x ≤ y → zE 10 d Q 81 [l0, l1, l2, l3, l4, l5, l6] st G h k) ∧ (¬ (x ≤ y) → zE 10 d Q 77 [l0, l1, l2, l3, l4, l5, l6] st G h k)) := E_icmp_le (by rfl)
theorem e10_77 : zE 10 d Q 77 [l0, l1, l2, l3, l4, l5, l6] st G h k ↔ zE 10 d Q 78 [l0, l1, l2, l3, l4, l5, l6] (zI 3 :: st) G h k := E_iconst (by rfl)
theorem e10_78 : zE 10 d Q 78 [l0, l1, l2, l3, l4, l5, l6] st G h k ↔ zE 10 d Q 82 [l0, l1, l2, l3, l4, l5, l6] st G h k := E_goto (by rfl)
theorem e10_81 : zE 10 d Q 81 [l0, l1, l2, some (zI x), l4, l5, l6] st G h k ↔ zE 10 d Q 82 [l0, l1, l2, some (zI x), l4, l5, l6] (zI x :: st) G h k := E_iload_n (by rfl) rfl
theorem e10_82 : zE 10 d Q 82 [l0, l1, l2, l3, l4, l5, l6] [zI x] G h k ↔ Q (some (zI x)) G h := E_iret (by rfl) rfl
theorem e11_0 : zE 11 d Q 0 [l0, l1, l2, l3, l4, l5] st G h k ↔ zE 11 d Q 1 [l0, l1, l2, l3, l4, l5] (zI 0 :: st) G h k := E_iconst (by rfl)
theorem e11_1 : zE 11 d Q 1 [l0, l1, l2, l3, l4, l5] (zI x :: st) G h k ↔ zE 11 d Q 2 [l0, l1, (zclr l2), some (zI x), l4, l5] st G h k := E_istore_n (by rfl) (by decide)
theorem e11_2 : zE 11 d Q 2 [l0, l1, l2, some (zI x), l4, l5] st G h k ↔ zE 11 d Q 3 [l0, l1, l2, some (zI x), l4, l5] (zI x :: st) G h k := E_iload_n (by rfl) rfl
theorem e11_3 : zE 11 d Q 3 [some (.inr (.inr w9)), l1, l2, l3, l4, l5] st G h k ↔ zE 11 d Q 4 [some (.inr (.inr w9)), l1, l2, l3, l4, l5] (.inr (.inr w9) :: st) G h k := E_aload_n (by rfl) rfl
theorem e11_4 : zE 11 d Q 4 [l0, l1, l2, l3, l4, l5] (zR (some r) :: st) G h k ↔ (G.2.1 r = 1 ∧ zE 11 d Q 7 [l0, l1, l2, l3, l4, l5] (zR (G.2.2.2 r 0) :: st) G h k) := E_getR (by rfl) rfl
theorem e11_7 : zE 11 d Q 7 [l0, l1, l2, l3, l4, l5] (zR (some r) :: st) G h k ↔ (G.2.1 r = 5 ∧ zE 11 d Q 10 [l0, l1, l2, l3, l4, l5] (zI (h r 10) :: st) G h k) := E_getI (by rfl) (by decide)
theorem e11_10 : zE 11 d Q 10 [l0, l1, l2, l3, l4, l5] (zI y :: zI x :: st) G h k ↔ ((y ≤ x → zE 11 d Q 107 [l0, l1, l2, l3, l4, l5] st G h k) ∧ (¬ (y ≤ x) → zE 11 d Q 13 [l0, l1, l2, l3, l4, l5] st G h k)) := E_icmp_ge (by rfl)
theorem e11_13 : zE 11 d Q 13 [some (.inr (.inr w9)), l1, l2, l3, l4, l5] st G h k ↔ zE 11 d Q 14 [some (.inr (.inr w9)), l1, l2, l3, l4, l5] (.inr (.inr w9) :: st) G h k := E_aload_n (by rfl) rfl
theorem e11_14 : zE 11 d Q 14 [l0, l1, l2, some (zI x), l4, l5] st G h k ↔ zE 11 d Q 15 [l0, l1, l2, some (zI x), l4, l5] (zI x :: st) G h k := E_iload_n (by rfl) rfl
theorem e11_15 : zE 11 d Q 15 [l0, l1, l2, l3, l4, l5] (v0 :: zR (some r) :: st) G h k ↔ (zsum st ≤ 8 ∧ G.2.1 r = 1 ∧ zRunD ztb zmt' d 7 [zR (some r), v0] G h (fun v G' h' => zE 11 d Q 18 [l0, l1, l2, l3, l4, l5] (v.toList ++ st) G' h' k)) := E_invV2z (by rfl) (by decide) rfl
theorem e11_18 : zE 11 d Q 18 [some (.inr (.inr w9)), l1, l2, l3, l4, l5] st G h k ↔ zE 11 d Q 19 [some (.inr (.inr w9)), l1, l2, l3, l4, l5] (.inr (.inr w9) :: st) G h k := E_aload_n (by rfl) rfl
theorem e11_19 : zE 11 d Q 19 [l0, l1, l2, l3, l4, l5] st G h k ↔ zE 11 d Q 20 [l0, l1, l2, l3, l4, l5] (zI 3 :: st) G h k := E_iconst (by rfl)
theorem e11_20 : zE 11 d Q 20 [l0, l1, l2, l3, l4, l5] st G h k ↔ zE 11 d Q 21 [l0, l1, l2, l3, l4, l5] (zI 0 :: st) G h k := E_iconst (by rfl)
theorem e11_21 : zE 11 d Q 21 [l0, l1, l2, l3, l4, l5] (v1 :: v0 :: zR (some r) :: st) G h k ↔ (zsum st ≤ 8 ∧ G.2.1 r = 1 ∧ zRunD ztb zmt' d 10 [zR (some r), v0, v1] G h (fun v G' h' => zE 11 d Q 24 [l0, l1, l2, l3, l4, l5] (v.toList ++ st) G' h' k)) := E_invV2z (by rfl) (by decide) rfl
theorem e11_24 : zE 11 d Q 24 [l0, l1, l2, l3, l4, l5] st G h k ↔ zE 11 d Q 26 [l0, l1, l2, l3, l4, l5] (zI 6 :: st) G h k := E_bipush (by rfl)
theorem e11_26 : zE 11 d Q 26 [l0, l1, l2, l3, l4, l5] (zI y :: zI x :: st) G h k ↔ ((0 ≤ y ∧ y < 32) ∧ zE 11 d Q 27 [l0, l1, l2, l3, l4, l5] (zI (wr (x * 2 ^ y.toNat)) :: st) G h k) := E_ishl (by rfl)
theorem e11_27 : zE 11 d Q 27 [some (.inr (.inr w9)), l1, l2, l3, l4, l5] st G h k ↔ zE 11 d Q 28 [some (.inr (.inr w9)), l1, l2, l3, l4, l5] (.inr (.inr w9) :: st) G h k := E_aload_n (by rfl) rfl
theorem e11_28 : zE 11 d Q 28 [l0, l1, l2, l3, l4, l5] st G h k ↔ zE 11 d Q 29 [l0, l1, l2, l3, l4, l5] (zI 3 :: st) G h k := E_iconst (by rfl)
theorem e11_29 : zE 11 d Q 29 [l0, l1, l2, l3, l4, l5] st G h k ↔ zE 11 d Q 30 [l0, l1, l2, l3, l4, l5] (zI 1 :: st) G h k := E_iconst (by rfl)
theorem e11_30 : zE 11 d Q 30 [l0, l1, l2, l3, l4, l5] (v1 :: v0 :: zR (some r) :: st) G h k ↔ (zsum st ≤ 8 ∧ G.2.1 r = 1 ∧ zRunD ztb zmt' d 10 [zR (some r), v0, v1] G h (fun v G' h' => zE 11 d Q 33 [l0, l1, l2, l3, l4, l5] (v.toList ++ st) G' h' k)) := E_invV2z (by rfl) (by decide) rfl
theorem e11_33 : zE 11 d Q 33 [l0, l1, l2, l3, l4, l5] st G h k ↔ zE 11 d Q 35 [l0, l1, l2, l3, l4, l5] (zI 8 :: st) G h k := E_bipush (by rfl)
theorem e11_35 : zE 11 d Q 35 [l0, l1, l2, l3, l4, l5] (zI y :: zI x :: st) G h k ↔ ((0 ≤ y ∧ y < 32) ∧ zE 11 d Q 36 [l0, l1, l2, l3, l4, l5] (zI (wr (x * 2 ^ y.toNat)) :: st) G h k) := E_ishl (by rfl)
theorem e11_36 : zE 11 d Q 36 [l0, l1, l2, l3, l4, l5] (zI y :: zI x :: st) G h k ↔ zE 11 d Q 37 [l0, l1, l2, l3, l4, l5] (zI (zor x y) :: st) G h k := E_ior (by rfl)
theorem e11_37 : zE 11 d Q 37 [l0, l1, l2, l3, l4, l5] (zI x :: st) G h k ↔ zE 11 d Q 39 [l0, l1, l2, (zclr l3), some (zI x), l5] st G h k := E_istore (by rfl) (by decide)
theorem e11_39 : zE 11 d Q 39 [l0, l1, l2, l3, l4, l5] st G h k ↔ zE 11 d Q 40 [l0, l1, l2, l3, l4, l5] (zI 0 :: st) G h k := E_iconst (by rfl)
theorem e11_40 : zE 11 d Q 40 [l0, l1, l2, l3, l4, l5] (zI x :: st) G h k ↔ zE 11 d Q 42 [l0, l1, l2, l3, (zclr l4), some (zI x)] st G h k := E_istore (by rfl) (by decide)
theorem e11_42 : zE 11 d Q 42 [l0, l1, l2, l3, l4, some (zI x)] st G h k ↔ zE 11 d Q 44 [l0, l1, l2, l3, l4, some (zI x)] (zI x :: st) G h k := E_iload (by rfl) rfl
theorem e11_44 : zE 11 d Q 44 [some (.inr (.inr w9)), l1, l2, l3, l4, l5] st G h k ↔ zE 11 d Q 45 [some (.inr (.inr w9)), l1, l2, l3, l4, l5] (.inr (.inr w9) :: st) G h k := E_aload_n (by rfl) rfl
theorem e11_45 : zE 11 d Q 45 [l0, l1, l2, l3, l4, l5] (zR (some r) :: st) G h k ↔ (G.2.1 r = 1 ∧ zE 11 d Q 48 [l0, l1, l2, l3, l4, l5] (zR (G.2.2.2 r 0) :: st) G h k) := E_getR (by rfl) rfl
theorem e11_48 : zE 11 d Q 48 [l0, l1, l2, l3, l4, l5] (zR (some r) :: st) G h k ↔ (G.2.1 r = 5 ∧ zE 11 d Q 51 [l0, l1, l2, l3, l4, l5] (zI (h r 9) :: st) G h k) := E_getI (by rfl) (by decide)
theorem e11_51 : zE 11 d Q 51 [l0, l1, l2, l3, l4, l5] (zI y :: zI x :: st) G h k ↔ ((y ≤ x → zE 11 d Q 94 [l0, l1, l2, l3, l4, l5] st G h k) ∧ (¬ (y ≤ x) → zE 11 d Q 54 [l0, l1, l2, l3, l4, l5] st G h k)) := E_icmp_ge (by rfl)
theorem e11_54 : zE 11 d Q 54 [l0, l1, l2, l3, some (zI x), l5] st G h k ↔ zE 11 d Q 56 [l0, l1, l2, l3, some (zI x), l5] (zI x :: st) G h k := E_iload (by rfl) rfl
theorem e11_56 : zE 11 d Q 56 [some (.inr (.inr w9)), l1, l2, l3, l4, l5] st G h k ↔ zE 11 d Q 57 [some (.inr (.inr w9)), l1, l2, l3, l4, l5] (.inr (.inr w9) :: st) G h k := E_aload_n (by rfl) rfl
theorem e11_57 : zE 11 d Q 57 [l0, l1, l2, l3, l4, some (zI x)] st G h k ↔ zE 11 d Q 59 [l0, l1, l2, l3, l4, some (zI x)] (zI x :: st) G h k := E_iload (by rfl) rfl
theorem e11_59 : zE 11 d Q 59 [some (.inr (.inr w9)), l1, l2, l3, l4, l5] st G h k ↔ zE 11 d Q 60 [some (.inr (.inr w9)), l1, l2, l3, l4, l5] (.inr (.inr w9) :: st) G h k := E_aload_n (by rfl) rfl
theorem e11_60 : zE 11 d Q 60 [l0, l1, l2, l3, l4, l5] (zR (some r) :: st) G h k ↔ (G.2.1 r = 1 ∧ zE 11 d Q 63 [l0, l1, l2, l3, l4, l5] (zR (G.2.2.2 r 0) :: st) G h k) := E_getR (by rfl) rfl
theorem e11_63 : zE 11 d Q 63 [l0, l1, l2, l3, l4, l5] (zR (some r) :: st) G h k ↔ (G.2.1 r = 5 ∧ zE 11 d Q 66 [l0, l1, l2, l3, l4, l5] (zR (G.2.2.2 r 7) :: st) G h k) := E_getR (by rfl) rfl
theorem e11_66 : zE 11 d Q 66 [l0, l1, l2, some (zI x), l4, l5] st G h k ↔ zE 11 d Q 67 [l0, l1, l2, some (zI x), l4, l5] (zI x :: st) G h k := E_iload_n (by rfl) rfl
theorem e11_67 : zE 11 d Q 67 [l0, l1, l2, l3, l4, l5] (zI i :: zR (some r) :: st) G h k ↔ (G.2.1 r = 10 ∧ (0 ≤ i ∧ i < G.2.2.1 r) ∧ zE 11 d Q 68 [l0, l1, l2, l3, l4, l5] (zI (h r i.toNat) :: st) G h k) := E_iaload (by rfl)
theorem e11_68 : zE 11 d Q 68 [l0, l1, l2, l3, l4, l5] st G h k ↔ zE 11 d Q 69 [l0, l1, l2, l3, l4, l5] (zI 1 :: st) G h k := E_iconst (by rfl)
theorem e11_69 : zE 11 d Q 69 [l0, l1, l2, l3, l4, l5] (zI y :: zI x :: st) G h k ↔ ((¬ x = y → zE 11 d Q 76 [l0, l1, l2, l3, l4, l5] st G h k) ∧ (¬ (¬ x = y) → zE 11 d Q 72 [l0, l1, l2, l3, l4, l5] st G h k)) := E_icmp_ne (by rfl)
theorem e11_72 : zE 11 d Q 72 [l0, l1, l2, l3, l4, l5] st G h k ↔ zE 11 d Q 73 [l0, l1, l2, l3, l4, l5] (zI 1 :: st) G h k := E_iconst (by rfl)
theorem e11_73 : zE 11 d Q 73 [l0, l1, l2, l3, l4, l5] st G h k ↔ zE 11 d Q 77 [l0, l1, l2, l3, l4, l5] st G h k := E_goto (by rfl)
theorem e11_76 : zE 11 d Q 76 [l0, l1, l2, l3, l4, l5] st G h k ↔ zE 11 d Q 77 [l0, l1, l2, l3, l4, l5] (zI 0 :: st) G h k := E_iconst (by rfl)
theorem e11_77 : zE 11 d Q 77 [l0, l1, l2, l3, l4, l5] (v1 :: v0 :: zR (some r) :: st) G h k ↔ (zsum st ≤ 8 ∧ G.2.1 r = 1 ∧ zRunD ztb zmt' d 10 [zR (some r), v0, v1] G h (fun v G' h' => zE 11 d Q 80 [l0, l1, l2, l3, l4, l5] (v.toList ++ st) G' h' k)) := E_invV2z (by rfl) (by decide) rfl
theorem e11_80 : zE 11 d Q 80 [l0, l1, l2, l3, l4, l5] st G h k ↔ zE 11 d Q 81 [l0, l1, l2, l3, l4, l5] (zI 2 :: st) G h k := E_iconst (by rfl)
theorem e11_81 : zE 11 d Q 81 [l0, l1, l2, l3, l4, some (zI x)] st G h k ↔ zE 11 d Q 83 [l0, l1, l2, l3, l4, some (zI x)] (zI x :: st) G h k := E_iload (by rfl) rfl
theorem e11_83 : zE 11 d Q 83 [l0, l1, l2, l3, l4, l5] (zI y :: zI x :: st) G h k ↔ zE 11 d Q 84 [l0, l1, l2, l3, l4, l5] (zI (wr (x * y)) :: st) G h k := E_imul (by rfl)
theorem e11_84 : zE 11 d Q 84 [l0, l1, l2, l3, l4, l5] (zI y :: zI x :: st) G h k ↔ ((0 ≤ y ∧ y < 32) ∧ zE 11 d Q 85 [l0, l1, l2, l3, l4, l5] (zI (wr (x * 2 ^ y.toNat)) :: st) G h k) := E_ishl (by rfl)
theorem e11_85 : zE 11 d Q 85 [l0, l1, l2, l3, l4, l5] (zI y :: zI x :: st) G h k ↔ zE 11 d Q 86 [l0, l1, l2, l3, l4, l5] (zI (zor x y) :: st) G h k := E_ior (by rfl)
theorem e11_86 : zE 11 d Q 86 [l0, l1, l2, l3, l4, l5] (zI x :: st) G h k ↔ zE 11 d Q 88 [l0, l1, l2, (zclr l3), some (zI x), l5] st G h k := E_istore (by rfl) (by decide)
theorem e11_88 : zE 11 d Q 88 [l0, l1, l2, l3, l4, some (zI x)] st G h k ↔ zE 11 d Q 91 [l0, l1, l2, l3, (zclr l4), some (zI (wr (x + 1)))] st G h k := E_iinc (by rfl) rfl
theorem e11_91 : zE 11 d Q 91 [l0, l1, l2, l3, l4, l5] st G h k ↔ zE 11 d Q 42 [l0, l1, l2, l3, l4, l5] st G h k := E_goto (by rfl)
theorem e11_94 : zE 11 d Q 94 [l0, some (.inr (.inr w9)), l2, l3, l4, l5] st G h k ↔ zE 11 d Q 95 [l0, some (.inr (.inr w9)), l2, l3, l4, l5] (.inr (.inr w9) :: st) G h k := E_aload_n (by rfl) rfl
theorem e11_95 : zE 11 d Q 95 [l0, l1, some (zI x), l3, l4, l5] st G h k ↔ zE 11 d Q 96 [l0, l1, some (zI x), l3, l4, l5] (zI x :: st) G h k := E_iload_n (by rfl) rfl
theorem e11_96 : zE 11 d Q 96 [l0, l1, l2, some (zI x), l4, l5] st G h k ↔ zE 11 d Q 97 [l0, l1, l2, some (zI x), l4, l5] (zI x :: st) G h k := E_iload_n (by rfl) rfl
theorem e11_97 : zE 11 d Q 97 [l0, l1, l2, l3, l4, l5] (zI y :: zI x :: st) G h k ↔ zE 11 d Q 98 [l0, l1, l2, l3, l4, l5] (zI (wr (x + y)) :: st) G h k := E_iadd (by rfl)
theorem e11_98 : zE 11 d Q 98 [l0, l1, l2, l3, some (zI x), l5] st G h k ↔ zE 11 d Q 100 [l0, l1, l2, l3, some (zI x), l5] (zI x :: st) G h k := E_iload (by rfl) rfl
theorem e11_100 : zE 11 d Q 100 [l0, l1, l2, l3, l4, l5] (zI x :: zI i :: zR (some r) :: st) G h k ↔ (G.2.1 r = 10 ∧ (0 ≤ i ∧ i < G.2.2.1 r) ∧ zE 11 d Q 101 [l0, l1, l2, l3, l4, l5] st G (zu h r i.toNat x) k) := E_iastore (by rfl)
theorem e11_101 : zE 11 d Q 101 [l0, l1, l2, some (zI x), l4, l5] st G h k ↔ zE 11 d Q 104 [l0, l1, (zclr l2), some (zI (wr (x + 1))), l4, l5] st G h k := E_iinc (by rfl) rfl
theorem e11_104 : zE 11 d Q 104 [l0, l1, l2, l3, l4, l5] st G h k ↔ zE 11 d Q 2 [l0, l1, l2, l3, l4, l5] st G h k := E_goto (by rfl)
theorem e11_107 : zE 11 d Q 107 [l0, l1, l2, l3, l4, l5] [] G h k ↔ Q none G h := E_vret (by rfl) rfl
theorem e12_0 : zE 12 d Q 0 [some (.inr (.inr w9))] st G h k ↔ zE 12 d Q 1 [some (.inr (.inr w9))] (.inr (.inr w9) :: st) G h k := E_aload_n (by rfl) rfl
theorem e12_1 : zE 12 d Q 1 [l0] (zR (some r) :: []) G h k ↔ zE 12 d Q 4 [l0] [] G h k := E_objInit (by rfl) rfl (by decide)
theorem e12_4 : zE 12 d Q 4 [some (.inr (.inr w9))] st G h k ↔ zE 12 d Q 5 [some (.inr (.inr w9))] (.inr (.inr w9) :: st) G h k := E_aload_n (by rfl) rfl
theorem e12_5 : zE 12 d Q 5 [l0] st G h k ↔ zE 12 d Q 6 [l0] (zI 0 :: st) G h k := E_iconst (by rfl)
theorem e12_6 : zE 12 d Q 6 [l0] (zI x :: zR (some r) :: st) G h k ↔ (G.2.1 r = 2 ∧ (x = 0 ∨ x = 1) ∧ zE 12 d Q 9 [l0] st G (zu h r 0 x) k) := E_putZ (by rfl) rfl
theorem e12_9 : zE 12 d Q 9 [some (.inr (.inr w9))] st G h k ↔ zE 12 d Q 10 [some (.inr (.inr w9))] (.inr (.inr w9) :: st) G h k := E_aload_n (by rfl) rfl
theorem e12_10 : zE 12 d Q 10 [l0] st G h k ↔ zE 12 d Q 11 [l0] (zI 3 :: st) G h k := E_iconst (by rfl)
theorem e12_11 : zE 12 d Q 11 [l0] (zI i :: st) G h k ↔ (0 ≤ i ∧ i ≤ 1000000 ∧ k.1 + 1 ≤ 3 ∧ k.2 + i.toNat ≤ 9 ∧ zE 12 d Q 13 [l0] (zR (some G.1) :: st) (zgn G 10 i.toNat) (zhn h G.1) (k.1 + 1, k.2 + i.toNat)) := E_newarray (by rfl)
theorem e12_13 : zE 12 d Q 13 [l0] (zR q9 :: zR (some r) :: st) G h k ↔ (G.2.1 r = 2 ∧ zE 12 d Q 16 [l0] st (zgu G r 1 q9) h k) := E_putR (by rfl) rfl
theorem e12_16 : zE 12 d Q 16 [some (.inr (.inr w9))] st G h k ↔ zE 12 d Q 17 [some (.inr (.inr w9))] (.inr (.inr w9) :: st) G h k := E_aload_n (by rfl) rfl
theorem e12_17 : zE 12 d Q 17 [l0] st G h k ↔ zE 12 d Q 18 [l0] (zI 3 :: st) G h k := E_iconst (by rfl)
theorem e12_18 : zE 12 d Q 18 [l0] (zI i :: st) G h k ↔ (0 ≤ i ∧ i ≤ 1000000 ∧ k.1 + 1 ≤ 3 ∧ k.2 + i.toNat ≤ 9 ∧ zE 12 d Q 20 [l0] (zR (some G.1) :: st) (zgn G 10 i.toNat) (zhn h G.1) (k.1 + 1, k.2 + i.toNat)) := E_newarray (by rfl)
theorem e12_20 : zE 12 d Q 20 [l0] (zR q9 :: zR (some r) :: st) G h k ↔ (G.2.1 r = 2 ∧ zE 12 d Q 23 [l0] st (zgu G r 2 q9) h k) := E_putR (by rfl) rfl
theorem e12_23 : zE 12 d Q 23 [some (.inr (.inr w9))] st G h k ↔ zE 12 d Q 24 [some (.inr (.inr w9))] (.inr (.inr w9) :: st) G h k := E_aload_n (by rfl) rfl
theorem e12_24 : zE 12 d Q 24 [l0] st G h k ↔ zE 12 d Q 25 [l0] (zI 3 :: st) G h k := E_iconst (by rfl)
theorem e12_25 : zE 12 d Q 25 [l0] (zI i :: st) G h k ↔ (0 ≤ i ∧ i ≤ 1000000 ∧ k.1 + 1 ≤ 3 ∧ k.2 + i.toNat ≤ 9 ∧ zE 12 d Q 27 [l0] (zR (some G.1) :: st) (zgn G 11 i.toNat) (zhn h G.1) (k.1 + 1, k.2 + i.toNat)) := E_newarray (by rfl)
theorem e12_27 : zE 12 d Q 27 [l0] (zR q9 :: zR (some r) :: st) G h k ↔ (G.2.1 r = 2 ∧ zE 12 d Q 30 [l0] st (zgu G r 3 q9) h k) := E_putR (by rfl) rfl
theorem e12_30 : zE 12 d Q 30 [l0] [] G h k ↔ Q none G h := E_vret (by rfl) rfl
theorem e13_0 : zE 13 d Q 0 [some (.inr (.inr w9))] st G h k ↔ zE 13 d Q 1 [some (.inr (.inr w9))] (.inr (.inr w9) :: st) G h k := E_aload_n (by rfl) rfl
theorem e13_1 : zE 13 d Q 1 [l0] (zR (some r) :: []) G h k ↔ zE 13 d Q 4 [l0] [] G h k := E_objInit (by rfl) rfl (by decide)
theorem e13_4 : zE 13 d Q 4 [some (.inr (.inr w9))] st G h k ↔ zE 13 d Q 5 [some (.inr (.inr w9))] (.inr (.inr w9) :: st) G h k := E_aload_n (by rfl) rfl
theorem e13_5 : zE 13 d Q 5 [l0] st G h k ↔ zE 13 d Q 6 [l0] (zI (-1) :: st) G h k := E_iconst (by rfl)
theorem e13_6 : zE 13 d Q 6 [l0] (zI x :: zR (some r) :: st) G h k ↔ (G.2.1 r = 3 ∧ zE 13 d Q 9 [l0] st G (zu h r 0 x) k) := E_putI (by rfl) rfl
theorem e13_9 : zE 13 d Q 9 [some (.inr (.inr w9))] st G h k ↔ zE 13 d Q 10 [some (.inr (.inr w9))] (.inr (.inr w9) :: st) G h k := E_aload_n (by rfl) rfl
theorem e13_10 : zE 13 d Q 10 [l0] st G h k ↔ zE 13 d Q 11 [l0] (zI 0 :: st) G h k := E_iconst (by rfl)
theorem e13_11 : zE 13 d Q 11 [l0] (zI x :: zR (some r) :: st) G h k ↔ (G.2.1 r = 3 ∧ zE 13 d Q 14 [l0] st G (zu h r 1 x) k) := E_putI (by rfl) rfl
theorem e13_14 : zE 13 d Q 14 [some (.inr (.inr w9))] st G h k ↔ zE 13 d Q 15 [some (.inr (.inr w9))] (.inr (.inr w9) :: st) G h k := E_aload_n (by rfl) rfl
theorem e13_15 : zE 13 d Q 15 [l0] st G h k ↔ zE 13 d Q 16 [l0] (zI 0 :: st) G h k := E_iconst (by rfl)
theorem e13_16 : zE 13 d Q 16 [l0] (zI i :: st) G h k ↔ (0 ≤ i ∧ i ≤ 1000000 ∧ k.1 + 1 ≤ 3 ∧ k.2 + i.toNat ≤ 14 ∧ zE 13 d Q 18 [l0] (zR (some G.1) :: st) (zgn G 12 i.toNat) (zhn h G.1) (k.1 + 1, k.2 + i.toNat)) := E_newarray (by rfl)
theorem e13_18 : zE 13 d Q 18 [l0] (zR q9 :: zR (some r) :: st) G h k ↔ (G.2.1 r = 3 ∧ zE 13 d Q 21 [l0] st (zgu G r 2 q9) h k) := E_putR (by rfl) rfl
theorem e13_21 : zE 13 d Q 21 [some (.inr (.inr w9))] st G h k ↔ zE 13 d Q 22 [some (.inr (.inr w9))] (.inr (.inr w9) :: st) G h k := E_aload_n (by rfl) rfl
theorem e13_22 : zE 13 d Q 22 [l0] st G h k ↔ zE 13 d Q 23 [l0] (zI 0 :: st) G h k := E_iconst (by rfl)
theorem e13_23 : zE 13 d Q 23 [l0] (zI x :: zR (some r) :: st) G h k ↔ (G.2.1 r = 3 ∧ zE 13 d Q 26 [l0] st G (zu h r 3 x) k) := E_putI (by rfl) rfl
theorem e13_26 : zE 13 d Q 26 [some (.inr (.inr w9))] st G h k ↔ zE 13 d Q 27 [some (.inr (.inr w9))] (.inr (.inr w9) :: st) G h k := E_aload_n (by rfl) rfl
theorem e13_27 : zE 13 d Q 27 [l0] st G h k ↔ zE 13 d Q 28 [l0] (zI 0 :: st) G h k := E_iconst (by rfl)
theorem e13_28 : zE 13 d Q 28 [l0] (zI x :: zR (some r) :: st) G h k ↔ (G.2.1 r = 3 ∧ zE 13 d Q 31 [l0] st G (zu h r 4 x) k) := E_putI (by rfl) rfl
theorem e13_31 : zE 13 d Q 31 [some (.inr (.inr w9))] st G h k ↔ zE 13 d Q 32 [some (.inr (.inr w9))] (.inr (.inr w9) :: st) G h k := E_aload_n (by rfl) rfl
theorem e13_32 : zE 13 d Q 32 [l0] st G h k ↔ zE 13 d Q 33 [l0] (zI 0 :: st) G h k := E_iconst (by rfl)
theorem e13_33 : zE 13 d Q 33 [l0] (zI x :: zR (some r) :: st) G h k ↔ (G.2.1 r = 3 ∧ zE 13 d Q 36 [l0] st G (zu h r 5 x) k) := E_putI (by rfl) rfl
theorem e13_36 : zE 13 d Q 36 [some (.inr (.inr w9))] st G h k ↔ zE 13 d Q 37 [some (.inr (.inr w9))] (.inr (.inr w9) :: st) G h k := E_aload_n (by rfl) rfl
theorem e13_37 : zE 13 d Q 37 [l0] st G h k ↔ zE 13 d Q 38 [l0] (zI 0 :: st) G h k := E_iconst (by rfl)
theorem e13_38 : zE 13 d Q 38 [l0] (zI x :: zR (some r) :: st) G h k ↔ (G.2.1 r = 3 ∧ zE 13 d Q 41 [l0] st G (zu h r 6 x) k) := E_putI (by rfl) rfl
theorem e13_41 : zE 13 d Q 41 [some (.inr (.inr w9))] st G h k ↔ zE 13 d Q 42 [some (.inr (.inr w9))] (.inr (.inr w9) :: st) G h k := E_aload_n (by rfl) rfl
theorem e13_42 : zE 13 d Q 42 [l0] st G h k ↔ zE 13 d Q 43 [l0] (zI 0 :: st) G h k := E_iconst (by rfl)
theorem e13_43 : zE 13 d Q 43 [l0] (zI x :: zR (some r) :: st) G h k ↔ (G.2.1 r = 3 ∧ zE 13 d Q 46 [l0] st G (zu h r 7 x) k) := E_putI (by rfl) rfl
theorem e13_46 : zE 13 d Q 46 [some (.inr (.inr w9))] st G h k ↔ zE 13 d Q 47 [some (.inr (.inr w9))] (.inr (.inr w9) :: st) G h k := E_aload_n (by rfl) rfl
theorem e13_47 : zE 13 d Q 47 [l0] st G h k ↔ zE 13 d Q 48 [l0] (zI 0 :: st) G h k := E_iconst (by rfl)
theorem e13_48 : zE 13 d Q 48 [l0] (zI x :: zR (some r) :: st) G h k ↔ (G.2.1 r = 3 ∧ zE 13 d Q 51 [l0] st G (zu h r 8 x) k) := E_putI (by rfl) rfl
theorem e13_51 : zE 13 d Q 51 [some (.inr (.inr w9))] st G h k ↔ zE 13 d Q 52 [some (.inr (.inr w9))] (.inr (.inr w9) :: st) G h k := E_aload_n (by rfl) rfl
theorem e13_52 : zE 13 d Q 52 [l0] st G h k ↔ zE 13 d Q 54 [l0] (zI 7 :: st) G h k := E_bipush (by rfl)
theorem e13_54 : zE 13 d Q 54 [l0] (zI i :: st) G h k ↔ (0 ≤ i ∧ i ≤ 1000000 ∧ k.1 + 1 ≤ 3 ∧ k.2 + i.toNat ≤ 14 ∧ zE 13 d Q 56 [l0] (zR (some G.1) :: st) (zgn G 10 i.toNat) (zhn h G.1) (k.1 + 1, k.2 + i.toNat)) := E_newarray (by rfl)
theorem e13_56 : zE 13 d Q 56 [l0] (zR q9 :: zR (some r) :: st) G h k ↔ (G.2.1 r = 3 ∧ zE 13 d Q 59 [l0] st (zgu G r 9 q9) h k) := E_putR (by rfl) rfl
theorem e13_59 : zE 13 d Q 59 [some (.inr (.inr w9))] st G h k ↔ zE 13 d Q 60 [some (.inr (.inr w9))] (.inr (.inr w9) :: st) G h k := E_aload_n (by rfl) rfl
theorem e13_60 : zE 13 d Q 60 [l0] st G h k ↔ zE 13 d Q 62 [l0] (zI 7 :: st) G h k := E_bipush (by rfl)
theorem e13_62 : zE 13 d Q 62 [l0] (zI i :: st) G h k ↔ (0 ≤ i ∧ i ≤ 1000000 ∧ k.1 + 1 ≤ 3 ∧ k.2 + i.toNat ≤ 14 ∧ zE 13 d Q 64 [l0] (zR (some G.1) :: st) (zgn G 10 i.toNat) (zhn h G.1) (k.1 + 1, k.2 + i.toNat)) := E_newarray (by rfl)
theorem e13_64 : zE 13 d Q 64 [l0] (zR q9 :: zR (some r) :: st) G h k ↔ (G.2.1 r = 3 ∧ zE 13 d Q 67 [l0] st (zgu G r 10 q9) h k) := E_putR (by rfl) rfl
theorem e13_67 : zE 13 d Q 67 [some (.inr (.inr w9))] st G h k ↔ zE 13 d Q 68 [some (.inr (.inr w9))] (.inr (.inr w9) :: st) G h k := E_aload_n (by rfl) rfl
theorem e13_68 : zE 13 d Q 68 [l0] st G h k ↔ zE 13 d Q 69 [l0] (zI 0 :: st) G h k := E_iconst (by rfl)
theorem e13_69 : zE 13 d Q 69 [l0] (zI x :: zR (some r) :: st) G h k ↔ (G.2.1 r = 3 ∧ zE 13 d Q 72 [l0] st G (zu h r 11 x) k) := E_putI (by rfl) rfl
theorem e13_72 : zE 13 d Q 72 [some (.inr (.inr w9))] st G h k ↔ zE 13 d Q 73 [some (.inr (.inr w9))] (.inr (.inr w9) :: st) G h k := E_aload_n (by rfl) rfl
theorem e13_73 : zE 13 d Q 73 [l0] st G h k ↔ zE 13 d Q 74 [l0] (zI 0 :: st) G h k := E_iconst (by rfl)
theorem e13_74 : zE 13 d Q 74 [l0] (zI x :: zR (some r) :: st) G h k ↔ (G.2.1 r = 3 ∧ (x = 0 ∨ x = 1) ∧ zE 13 d Q 77 [l0] st G (zu h r 12 x) k) := E_putZ (by rfl) rfl
theorem e13_77 : zE 13 d Q 77 [some (.inr (.inr w9))] st G h k ↔ zE 13 d Q 78 [some (.inr (.inr w9))] (.inr (.inr w9) :: st) G h k := E_aload_n (by rfl) rfl
theorem e13_78 : zE 13 d Q 78 [l0] st G h k ↔ zE 13 d Q 79 [l0] (zI 0 :: st) G h k := E_iconst (by rfl)
theorem e13_79 : zE 13 d Q 79 [l0] (zI x :: zR (some r) :: st) G h k ↔ (G.2.1 r = 3 ∧ (x = 0 ∨ x = 1) ∧ zE 13 d Q 82 [l0] st G (zu h r 13 x) k) := E_putZ (by rfl) rfl
theorem e13_82 : zE 13 d Q 82 [l0] [] G h k ↔ Q none G h := E_vret (by rfl) rfl
theorem e14_0 : zE 14 d Q 0 [some (.inr (.inr w9)), l1, l2, l3, l4] st G h k ↔ zE 14 d Q 1 [some (.inr (.inr w9)), l1, l2, l3, l4] (.inr (.inr w9) :: st) G h k := E_aload_n (by rfl) rfl
theorem e14_1 : zE 14 d Q 1 [l0, some (.inr (.inr w9)), l2, l3, l4] st G h k ↔ zE 14 d Q 2 [l0, some (.inr (.inr w9)), l2, l3, l4] (.inr (.inr w9) :: st) G h k := E_aload_n (by rfl) rfl
theorem e14_2 : zE 14 d Q 2 [l0, l1, some (zI x), l3, l4] st G h k ↔ zE 14 d Q 3 [l0, l1, some (zI x), l3, l4] (zI x :: st) G h k := E_iload_n (by rfl) rfl
theorem e14_3 : zE 14 d Q 3 [l0, l1, l2, some (.inr (.inr w9)), l4] st G h k ↔ zE 14 d Q 4 [l0, l1, l2, some (.inr (.inr w9)), l4] (.inr (.inr w9) :: st) G h k := E_aload_n (by rfl) rfl
theorem e14_4 : zE 14 d Q 4 [l0, l1, l2, l3, l4] (v2 :: v1 :: v0 :: zR (some r) :: st) G h k ↔ (zsum st ≤ 8 ∧ G.2.1 r = 3 ∧ zRunD ztb zmt' d 15 [zR (some r), v0, v1, v2] G h (fun v G' h' => zE 14 d Q 7 [l0, l1, l2, l3, l4] (v.toList ++ st) G' h' k)) := E_invV2z (by rfl) (by decide) rfl
theorem e14_7 : zE 14 d Q 7 [some (.inr (.inr w9)), l1, l2, l3, l4] st G h k ↔ zE 14 d Q 8 [some (.inr (.inr w9)), l1, l2, l3, l4] (.inr (.inr w9) :: st) G h k := E_aload_n (by rfl) rfl
theorem e14_8 : zE 14 d Q 8 [l0, l1, l2, l3, l4] (zR (some r) :: st) G h k ↔ (zsum st ≤ 8 ∧ G.2.1 r = 3 ∧ zRunD ztb zmt' d 17 [zR (some r)] G h (fun v G' h' => zE 14 d Q 11 [l0, l1, l2, l3, l4] (v.toList ++ st) G' h' k)) := E_invV2z (by rfl) (by decide) rfl
theorem e14_11 : zE 14 d Q 11 [l0, l1, l2, l3, l4] st G h k ↔ zE 14 d Q 12 [l0, l1, l2, l3, l4] (zI 0 :: st) G h k := E_iconst (by rfl)
theorem e14_12 : zE 14 d Q 12 [l0, l1, l2, l3, l4] (zI x :: st) G h k ↔ zE 14 d Q 14 [l0, l1, l2, (zclr l3), some (zI x)] st G h k := E_istore (by rfl) (by decide)
theorem e14_14 : zE 14 d Q 14 [l0, l1, l2, l3, some (zI x)] st G h k ↔ zE 14 d Q 16 [l0, l1, l2, l3, some (zI x)] (zI x :: st) G h k := E_iload (by rfl) rfl
theorem e14_16 : zE 14 d Q 16 [l0, l1, l2, l3, l4] st G h k ↔ zE 14 d Q 19 [l0, l1, l2, l3, l4] (zI 700 :: st) G h k := E_sipush (by rfl)
theorem e14_19 : zE 14 d Q 19 [l0, l1, l2, l3, l4] (zI y :: zI x :: st) G h k ↔ ((y < x → zE 14 d Q 134 [l0, l1, l2, l3, l4] st G h k) ∧ (¬ (y < x) → zE 14 d Q 22 [l0, l1, l2, l3, l4] st G h k)) := E_icmp_gt (by rfl)
theorem e14_22 : zE 14 d Q 22 [some (.inr (.inr w9)), l1, l2, l3, l4] st G h k ↔ zE 14 d Q 23 [some (.inr (.inr w9)), l1, l2, l3, l4] (.inr (.inr w9) :: st) G h k := E_aload_n (by rfl) rfl
theorem e14_23 : zE 14 d Q 23 [l0, l1, l2, l3, l4] (zR (some r) :: st) G h k ↔ (G.2.1 r = 3 ∧ zE 14 d Q 26 [l0, l1, l2, l3, l4] (zI (h r 1) :: st) G h k) := E_getI (by rfl) (by decide)
theorem e14_26 : zE 14 d Q 26 [l0, l1, l2, l3, l4] (zI x :: st) G h k ↔ ((¬ x = 0 → zE 14 d Q 134 [l0, l1, l2, l3, l4] st G h k) ∧ (¬ (¬ x = 0) → zE 14 d Q 29 [l0, l1, l2, l3, l4] st G h k)) := E_if_ne (by rfl)
theorem e14_29 : zE 14 d Q 29 [some (.inr (.inr w9)), l1, l2, l3, l4] st G h k ↔ zE 14 d Q 30 [some (.inr (.inr w9)), l1, l2, l3, l4] (.inr (.inr w9) :: st) G h k := E_aload_n (by rfl) rfl
theorem e14_30 : zE 14 d Q 30 [l0, l1, l2, l3, l4] st G h k ↔ zE 14 d Q 32 [l0, l1, l2, l3, l4] (zT 0 :: st) G h k := E_ldcS (by rfl) (by decide)
theorem e14_32 : zE 14 d Q 32 [l0, l1, l2, l3, l4] (v0 :: zR (some r) :: st) G h k ↔ (zsum st ≤ 8 ∧ G.2.1 r = 3 ∧ zRunD ztb zmt' d 19 [zR (some r), v0] G h (fun v G' h' => zE 14 d Q 35 [l0, l1, l2, l3, l4] (v.toList ++ st) G' h' k)) := E_invV2z (by rfl) (by decide) rfl
theorem e14_35 : zE 14 d Q 35 [l0, l1, l2, l3, l4] (zI x :: st) G h k ↔ ((x = 0 → zE 14 d Q 46 [l0, l1, l2, l3, l4] st G h k) ∧ (¬ (x = 0) → zE 14 d Q 38 [l0, l1, l2, l3, l4] st G h k)) := E_if_eq (by rfl)
theorem e14_38 : zE 14 d Q 38 [some (.inr (.inr w9)), l1, l2, l3, l4] st G h k ↔ zE 14 d Q 39 [some (.inr (.inr w9)), l1, l2, l3, l4] (.inr (.inr w9) :: st) G h k := E_aload_n (by rfl) rfl
theorem e14_39 : zE 14 d Q 39 [l0, l1, l2, some (.inr (.inr w9)), l4] st G h k ↔ zE 14 d Q 40 [l0, l1, l2, some (.inr (.inr w9)), l4] (.inr (.inr w9) :: st) G h k := E_aload_n (by rfl) rfl
theorem e14_40 : zE 14 d Q 40 [l0, l1, l2, l3, l4] (v0 :: zR (some r) :: st) G h k ↔ (zsum st ≤ 8 ∧ G.2.1 r = 3 ∧ zRunD ztb zmt' d 20 [zR (some r), v0] G h (fun v G' h' => zE 14 d Q 43 [l0, l1, l2, l3, l4] (v.toList ++ st) G' h' k)) := E_invV2z (by rfl) (by decide) rfl
theorem e14_43 : zE 14 d Q 43 [l0, l1, l2, l3, l4] st G h k ↔ zE 14 d Q 106 [l0, l1, l2, l3, l4] st G h k := E_goto (by rfl)
theorem e14_46 : zE 14 d Q 46 [some (.inr (.inr w9)), l1, l2, l3, l4] st G h k ↔ zE 14 d Q 47 [some (.inr (.inr w9)), l1, l2, l3, l4] (.inr (.inr w9) :: st) G h k := E_aload_n (by rfl) rfl
theorem e14_47 : zE 14 d Q 47 [l0, l1, l2, l3, l4] st G h k ↔ zE 14 d Q 49 [l0, l1, l2, l3, l4] (zT 1 :: st) G h k := E_ldcS (by rfl) (by decide)
theorem e14_49 : zE 14 d Q 49 [l0, l1, l2, l3, l4] (v0 :: zR (some r) :: st) G h k ↔ (zsum st ≤ 8 ∧ G.2.1 r = 3 ∧ zRunD ztb zmt' d 19 [zR (some r), v0] G h (fun v G' h' => zE 14 d Q 52 [l0, l1, l2, l3, l4] (v.toList ++ st) G' h' k)) := E_invV2z (by rfl) (by decide) rfl
theorem e14_52 : zE 14 d Q 52 [l0, l1, l2, l3, l4] (zI x :: st) G h k ↔ ((x = 0 → zE 14 d Q 63 [l0, l1, l2, l3, l4] st G h k) ∧ (¬ (x = 0) → zE 14 d Q 55 [l0, l1, l2, l3, l4] st G h k)) := E_if_eq (by rfl)
theorem e14_55 : zE 14 d Q 55 [some (.inr (.inr w9)), l1, l2, l3, l4] st G h k ↔ zE 14 d Q 56 [some (.inr (.inr w9)), l1, l2, l3, l4] (.inr (.inr w9) :: st) G h k := E_aload_n (by rfl) rfl
theorem e14_56 : zE 14 d Q 56 [l0, l1, l2, some (.inr (.inr w9)), l4] st G h k ↔ zE 14 d Q 57 [l0, l1, l2, some (.inr (.inr w9)), l4] (.inr (.inr w9) :: st) G h k := E_aload_n (by rfl) rfl
theorem e14_57 : zE 14 d Q 57 [l0, l1, l2, l3, l4] (v0 :: zR (some r) :: st) G h k ↔ (zsum st ≤ 8 ∧ G.2.1 r = 3 ∧ zRunD ztb zmt' d 21 [zR (some r), v0] G h (fun v G' h' => zE 14 d Q 60 [l0, l1, l2, l3, l4] (v.toList ++ st) G' h' k)) := E_invV2z (by rfl) (by decide) rfl
theorem e14_60 : zE 14 d Q 60 [l0, l1, l2, l3, l4] st G h k ↔ zE 14 d Q 106 [l0, l1, l2, l3, l4] st G h k := E_goto (by rfl)
theorem e14_63 : zE 14 d Q 63 [some (.inr (.inr w9)), l1, l2, l3, l4] st G h k ↔ zE 14 d Q 64 [some (.inr (.inr w9)), l1, l2, l3, l4] (.inr (.inr w9) :: st) G h k := E_aload_n (by rfl) rfl
theorem e14_64 : zE 14 d Q 64 [l0, l1, l2, l3, l4] st G h k ↔ zE 14 d Q 66 [l0, l1, l2, l3, l4] (zT 2 :: st) G h k := E_ldcS (by rfl) (by decide)
theorem e14_66 : zE 14 d Q 66 [l0, l1, l2, l3, l4] (v0 :: zR (some r) :: st) G h k ↔ (zsum st ≤ 8 ∧ G.2.1 r = 3 ∧ zRunD ztb zmt' d 19 [zR (some r), v0] G h (fun v G' h' => zE 14 d Q 69 [l0, l1, l2, l3, l4] (v.toList ++ st) G' h' k)) := E_invV2z (by rfl) (by decide) rfl
theorem e14_69 : zE 14 d Q 69 [l0, l1, l2, l3, l4] (zI x :: st) G h k ↔ ((x = 0 → zE 14 d Q 80 [l0, l1, l2, l3, l4] st G h k) ∧ (¬ (x = 0) → zE 14 d Q 72 [l0, l1, l2, l3, l4] st G h k)) := E_if_eq (by rfl)
theorem e14_72 : zE 14 d Q 72 [some (.inr (.inr w9)), l1, l2, l3, l4] st G h k ↔ zE 14 d Q 73 [some (.inr (.inr w9)), l1, l2, l3, l4] (.inr (.inr w9) :: st) G h k := E_aload_n (by rfl) rfl
theorem e14_73 : zE 14 d Q 73 [l0, l1, l2, some (.inr (.inr w9)), l4] st G h k ↔ zE 14 d Q 74 [l0, l1, l2, some (.inr (.inr w9)), l4] (.inr (.inr w9) :: st) G h k := E_aload_n (by rfl) rfl
theorem e14_74 : zE 14 d Q 74 [l0, l1, l2, l3, l4] (v0 :: zR (some r) :: st) G h k ↔ (zsum st ≤ 8 ∧ G.2.1 r = 3 ∧ zRunD ztb zmt' d 22 [zR (some r), v0] G h (fun v G' h' => zE 14 d Q 77 [l0, l1, l2, l3, l4] (v.toList ++ st) G' h' k)) := E_invV2z (by rfl) (by decide) rfl
theorem e14_77 : zE 14 d Q 77 [l0, l1, l2, l3, l4] st G h k ↔ zE 14 d Q 106 [l0, l1, l2, l3, l4] st G h k := E_goto (by rfl)
theorem e14_80 : zE 14 d Q 80 [some (.inr (.inr w9)), l1, l2, l3, l4] st G h k ↔ zE 14 d Q 81 [some (.inr (.inr w9)), l1, l2, l3, l4] (.inr (.inr w9) :: st) G h k := E_aload_n (by rfl) rfl
theorem e14_81 : zE 14 d Q 81 [l0, l1, l2, l3, l4] st G h k ↔ zE 14 d Q 83 [l0, l1, l2, l3, l4] (zT 3 :: st) G h k := E_ldcS (by rfl) (by decide)
theorem e14_83 : zE 14 d Q 83 [l0, l1, l2, l3, l4] (v0 :: zR (some r) :: st) G h k ↔ (zsum st ≤ 8 ∧ G.2.1 r = 3 ∧ zRunD ztb zmt' d 19 [zR (some r), v0] G h (fun v G' h' => zE 14 d Q 86 [l0, l1, l2, l3, l4] (v.toList ++ st) G' h' k)) := E_invV2z (by rfl) (by decide) rfl
theorem e14_86 : zE 14 d Q 86 [l0, l1, l2, l3, l4] (zI x :: st) G h k ↔ ((x = 0 → zE 14 d Q 97 [l0, l1, l2, l3, l4] st G h k) ∧ (¬ (x = 0) → zE 14 d Q 89 [l0, l1, l2, l3, l4] st G h k)) := E_if_eq (by rfl)
theorem e14_89 : zE 14 d Q 89 [some (.inr (.inr w9)), l1, l2, l3, l4] st G h k ↔ zE 14 d Q 90 [some (.inr (.inr w9)), l1, l2, l3, l4] (.inr (.inr w9) :: st) G h k := E_aload_n (by rfl) rfl
theorem e14_90 : zE 14 d Q 90 [l0, l1, l2, some (.inr (.inr w9)), l4] st G h k ↔ zE 14 d Q 91 [l0, l1, l2, some (.inr (.inr w9)), l4] (.inr (.inr w9) :: st) G h k := E_aload_n (by rfl) rfl
theorem e14_91 : zE 14 d Q 91 [l0, l1, l2, l3, l4] (v0 :: zR (some r) :: st) G h k ↔ (zsum st ≤ 8 ∧ G.2.1 r = 3 ∧ zRunD ztb zmt' d 24 [zR (some r), v0] G h (fun v G' h' => zE 14 d Q 94 [l0, l1, l2, l3, l4] (v.toList ++ st) G' h' k)) := E_invV2z (by rfl) (by decide) rfl
theorem e14_94 : zE 14 d Q 94 [l0, l1, l2, l3, l4] st G h k ↔ zE 14 d Q 106 [l0, l1, l2, l3, l4] st G h k := E_goto (by rfl)
theorem e14_97 : zE 14 d Q 97 [some (.inr (.inr w9)), l1, l2, l3, l4] st G h k ↔ zE 14 d Q 98 [some (.inr (.inr w9)), l1, l2, l3, l4] (.inr (.inr w9) :: st) G h k := E_aload_n (by rfl) rfl
theorem e14_98 : zE 14 d Q 98 [l0, l1, l2, l3, l4] st G h k ↔ zE 14 d Q 99 [l0, l1, l2, l3, l4] (zI 1 :: st) G h k := E_iconst (by rfl)
theorem e14_99 : zE 14 d Q 99 [some (.inr (.inr w9)), l1, l2, l3, l4] st G h k ↔ zE 14 d Q 100 [some (.inr (.inr w9)), l1, l2, l3, l4] (.inr (.inr w9) :: st) G h k := E_aload_n (by rfl) rfl
theorem e14_100 : zE 14 d Q 100 [l0, l1, l2, l3, l4] (zR (some r) :: st) G h k ↔ (G.2.1 r = 3 ∧ zE 14 d Q 103 [l0, l1, l2, l3, l4] (zI (h r 6) :: st) G h k) := E_getI (by rfl) (by decide)
theorem e14_103 : zE 14 d Q 103 [l0, l1, l2, l3, l4] (v1 :: v0 :: zR (some r) :: st) G h k ↔ (zsum st ≤ 8 ∧ G.2.1 r = 3 ∧ zRunD ztb zmt' d 16 [zR (some r), v0, v1] G h (fun v G' h' => zE 14 d Q 106 [l0, l1, l2, l3, l4] (v.toList ++ st) G' h' k)) := E_invV2z (by rfl) (by decide) rfl
theorem e14_106 : zE 14 d Q 106 [some (.inr (.inr w9)), l1, l2, l3, l4] st G h k ↔ zE 14 d Q 107 [some (.inr (.inr w9)), l1, l2, l3, l4] (.inr (.inr w9) :: st) G h k := E_aload_n (by rfl) rfl
theorem e14_107 : zE 14 d Q 107 [l0, l1, l2, l3, l4] (zR (some r) :: st) G h k ↔ (G.2.1 r = 3 ∧ zE 14 d Q 110 [l0, l1, l2, l3, l4] (zI (h r 1) :: st) G h k) := E_getI (by rfl) (by decide)
theorem e14_110 : zE 14 d Q 110 [l0, l1, l2, l3, l4] (zI x :: st) G h k ↔ ((¬ x = 0 → zE 14 d Q 123 [l0, l1, l2, l3, l4] st G h k) ∧ (¬ (¬ x = 0) → zE 14 d Q 113 [l0, l1, l2, l3, l4] st G h k)) := E_if_ne (by rfl)
theorem e14_113 : zE 14 d Q 113 [some (.inr (.inr w9)), l1, l2, l3, l4] st G h k ↔ zE 14 d Q 114 [some (.inr (.inr w9)), l1, l2, l3, l4] (.inr (.inr w9) :: st) G h k := E_aload_n (by rfl) rfl
theorem e14_114 : zE 14 d Q 114 [l0, l1, l2, l3, l4] (zR (some r) :: st) G h k ↔ (G.2.1 r = 3 ∧ zE 14 d Q 117 [l0, l1, l2, l3, l4] (zI (h r 5) :: st) G h k) := E_getI (by rfl) (by decide)
theorem e14_117 : zE 14 d Q 117 [l0, l1, l2, l3, l4] (zI x :: st) G h k ↔ ((¬ x = 0 → zE 14 d Q 123 [l0, l1, l2, l3, l4] st G h k) ∧ (¬ (¬ x = 0) → zE 14 d Q 120 [l0, l1, l2, l3, l4] st G h k)) := E_if_ne (by rfl)
theorem e14_120 : zE 14 d Q 120 [l0, l1, l2, l3, l4] st G h k ↔ zE 14 d Q 134 [l0, l1, l2, l3, l4] st G h k := E_goto (by rfl)
theorem e14_123 : zE 14 d Q 123 [some (.inr (.inr w9)), l1, l2, l3, l4] st G h k ↔ zE 14 d Q 124 [some (.inr (.inr w9)), l1, l2, l3, l4] (.inr (.inr w9) :: st) G h k := E_aload_n (by rfl) rfl
theorem e14_124 : zE 14 d Q 124 [l0, l1, l2, l3, l4] st G h k ↔ zE 14 d Q 125 [l0, l1, l2, l3, l4] (zI 3 :: st) G h k := E_iconst (by rfl)
theorem e14_125 : zE 14 d Q 125 [l0, l1, l2, l3, l4] (v0 :: zR (some r) :: st) G h k ↔ (zsum st ≤ 8 ∧ G.2.1 r = 3 ∧ zRunD ztb zmt' d 30 [zR (some r), v0] G h (fun v G' h' => zE 14 d Q 128 [l0, l1, l2, l3, l4] (v.toList ++ st) G' h' k)) := E_invV2z (by rfl) (by decide) rfl
theorem e14_128 : zE 14 d Q 128 [l0, l1, l2, l3, some (zI x)] st G h k ↔ zE 14 d Q 131 [l0, l1, l2, (zclr l3), some (zI (wr (x + 1)))] st G h k := E_iinc (by rfl) rfl
theorem e14_131 : zE 14 d Q 131 [l0, l1, l2, l3, l4] st G h k ↔ zE 14 d Q 14 [l0, l1, l2, l3, l4] st G h k := E_goto (by rfl)
theorem e14_134 : zE 14 d Q 134 [l0, l1, l2, some (.inr (.inr w9)), l4] st G h k ↔ zE 14 d Q 135 [l0, l1, l2, some (.inr (.inr w9)), l4] (.inr (.inr w9) :: st) G h k := E_aload_n (by rfl) rfl
theorem e14_135 : zE 14 d Q 135 [l0, l1, l2, l3, l4] (zR (some r) :: st) G h k ↔ (G.2.1 r = 5 ∧ zE 14 d Q 138 [l0, l1, l2, l3, l4] (zI (h r 9) :: st) G h k) := E_getI (by rfl) (by decide)
theorem e14_138 : zE 14 d Q 138 [l0, l1, l2, l3, l4] st G h k ↔ zE 14 d Q 139 [l0, l1, l2, l3, l4] (zI 2 :: st) G h k := E_iconst (by rfl)
theorem e14_139 : zE 14 d Q 139 [l0, l1, l2, l3, l4] (zI y :: zI x :: st) G h k ↔ ((x < y → zE 14 d Q 164 [l0, l1, l2, l3, l4] st G h k) ∧ (¬ (x < y) → zE 14 d Q 142 [l0, l1, l2, l3, l4] st G h k)) := E_icmp_lt (by rfl)
theorem e14_142 : zE 14 d Q 142 [l0, l1, l2, some (.inr (.inr w9)), l4] st G h k ↔ zE 14 d Q 143 [l0, l1, l2, some (.inr (.inr w9)), l4] (.inr (.inr w9) :: st) G h k := E_aload_n (by rfl) rfl
theorem e14_143 : zE 14 d Q 143 [l0, l1, l2, l3, l4] (zR (some r) :: st) G h k ↔ (G.2.1 r = 5 ∧ zE 14 d Q 146 [l0, l1, l2, l3, l4] (zI (h r 10) :: st) G h k) := E_getI (by rfl) (by decide)
theorem e14_146 : zE 14 d Q 146 [l0, l1, l2, l3, l4] st G h k ↔ zE 14 d Q 147 [l0, l1, l2, l3, l4] (zI 1 :: st) G h k := E_iconst (by rfl)
theorem e14_147 : zE 14 d Q 147 [l0, l1, l2, l3, l4] (zI y :: zI x :: st) G h k ↔ ((x < y → zE 14 d Q 164 [l0, l1, l2, l3, l4] st G h k) ∧ (¬ (x < y) → zE 14 d Q 150 [l0, l1, l2, l3, l4] st G h k)) := E_icmp_lt (by rfl)
theorem e14_150 : zE 14 d Q 150 [some (.inr (.inr w9)), l1, l2, l3, l4] st G h k ↔ zE 14 d Q 151 [some (.inr (.inr w9)), l1, l2, l3, l4] (.inr (.inr w9) :: st) G h k := E_aload_n (by rfl) rfl
theorem e14_151 : zE 14 d Q 151 [l0, l1, l2, l3, l4] (zR (some r) :: st) G h k ↔ (G.2.1 r = 3 ∧ zE 14 d Q 154 [l0, l1, l2, l3, l4] (zI (h r 12) :: st) G h k) := E_getI (by rfl) (by decide)
theorem e14_154 : zE 14 d Q 154 [l0, l1, l2, l3, l4] (zI x :: st) G h k ↔ ((x = 0 → zE 14 d Q 164 [l0, l1, l2, l3, l4] st G h k) ∧ (¬ (x = 0) → zE 14 d Q 157 [l0, l1, l2, l3, l4] st G h k)) := E_if_eq (by rfl)
theorem e14_157 : zE 14 d Q 157 [some (.inr (.inr w9)), l1, l2, l3, l4] st G h k ↔ zE 14 d Q 158 [some (.inr (.inr w9)), l1, l2, l3, l4] (.inr (.inr w9) :: st) G h k := E_aload_n (by rfl) rfl
theorem e14_158 : zE 14 d Q 158 [l0, l1, l2, l3, l4] (zR (some r) :: st) G h k ↔ (G.2.1 r = 3 ∧ zE 14 d Q 161 [l0, l1, l2, l3, l4] (zI (h r 13) :: st) G h k) := E_getI (by rfl) (by decide)
theorem e14_161 : zE 14 d Q 161 [l0, l1, l2, l3, l4] (zI x :: st) G h k ↔ ((¬ x = 0 → zE 14 d Q 174 [l0, l1, l2, l3, l4] st G h k) ∧ (¬ (¬ x = 0) → zE 14 d Q 164 [l0, l1, l2, l3, l4] st G h k)) := E_if_ne (by rfl)
theorem e14_164 : zE 14 d Q 164 [some (.inr (.inr w9)), l1, l2, l3, l4] st G h k ↔ zE 14 d Q 165 [some (.inr (.inr w9)), l1, l2, l3, l4] (.inr (.inr w9) :: st) G h k := E_aload_n (by rfl) rfl
theorem e14_165 : zE 14 d Q 165 [l0, l1, l2, l3, l4] st G h k ↔ zE 14 d Q 167 [l0, l1, l2, l3, l4] (zI 6 :: st) G h k := E_bipush (by rfl)
theorem e14_167 : zE 14 d Q 167 [some (.inr (.inr w9)), l1, l2, l3, l4] st G h k ↔ zE 14 d Q 168 [some (.inr (.inr w9)), l1, l2, l3, l4] (.inr (.inr w9) :: st) G h k := E_aload_n (by rfl) rfl
theorem e14_168 : zE 14 d Q 168 [l0, l1, l2, l3, l4] (zR (some r) :: st) G h k ↔ (G.2.1 r = 3 ∧ zE 14 d Q 171 [l0, l1, l2, l3, l4] (zI (h r 3) :: st) G h k) := E_getI (by rfl) (by decide)
theorem e14_171 : zE 14 d Q 171 [l0, l1, l2, l3, l4] (v1 :: v0 :: zR (some r) :: st) G h k ↔ (zsum st ≤ 8 ∧ G.2.1 r = 3 ∧ zRunD ztb zmt' d 16 [zR (some r), v0, v1] G h (fun v G' h' => zE 14 d Q 174 [l0, l1, l2, l3, l4] (v.toList ++ st) G' h' k)) := E_invV2z (by rfl) (by decide) rfl
theorem e14_174 : zE 14 d Q 174 [some (.inr (.inr w9)), l1, l2, l3, l4] st G h k ↔ zE 14 d Q 175 [some (.inr (.inr w9)), l1, l2, l3, l4] (.inr (.inr w9) :: st) G h k := E_aload_n (by rfl) rfl
theorem e14_175 : zE 14 d Q 175 [l0, l1, l2, l3, l4] (zR (some r) :: st) G h k ↔ (G.2.1 r = 3 ∧ zE 14 d Q 178 [l0, l1, l2, l3, l4] (zI (h r 1) :: st) G h k) := E_getI (by rfl) (by decide)
theorem e14_178 : zE 14 d Q 178 [l0, l1, l2, l3, l4] [zI x] G h k ↔ Q (some (zI x)) G h := E_iret (by rfl) rfl
theorem e15_0 : zE 15 d Q 0 [some (.inr (.inr w9)), l1, l2, l3] st G h k ↔ zE 15 d Q 1 [some (.inr (.inr w9)), l1, l2, l3] (.inr (.inr w9) :: st) G h k := E_aload_n (by rfl) rfl
theorem e15_1 : zE 15 d Q 1 [l0, some (.inr (.inr w9)), l2, l3] st G h k ↔ zE 15 d Q 2 [l0, some (.inr (.inr w9)), l2, l3] (.inr (.inr w9) :: st) G h k := E_aload_n (by rfl) rfl
theorem e15_2 : zE 15 d Q 2 [l0, l1, l2, l3] (zR q9 :: zR (some r) :: st) G h k ↔ (G.2.1 r = 3 ∧ zE 15 d Q 5 [l0, l1, l2, l3] st (zgu G r 2 q9) h k) := E_putR (by rfl) rfl
theorem e15_5 : zE 15 d Q 5 [some (.inr (.inr w9)), l1, l2, l3] st G h k ↔ zE 15 d Q 6 [some (.inr (.inr w9)), l1, l2, l3] (.inr (.inr w9) :: st) G h k := E_aload_n (by rfl) rfl
theorem e15_6 : zE 15 d Q 6 [l0, l1, some (zI x), l3] st G h k ↔ zE 15 d Q 7 [l0, l1, some (zI x), l3] (zI x :: st) G h k := E_iload_n (by rfl) rfl
theorem e15_7 : zE 15 d Q 7 [l0, l1, l2, l3] (zI x :: zR (some r) :: st) G h k ↔ (G.2.1 r = 3 ∧ zE 15 d Q 10 [l0, l1, l2, l3] st G (zu h r 3 x) k) := E_putI (by rfl) rfl
theorem e15_10 : zE 15 d Q 10 [some (.inr (.inr w9)), l1, l2, l3] st G h k ↔ zE 15 d Q 11 [some (.inr (.inr w9)), l1, l2, l3] (.inr (.inr w9) :: st) G h k := E_aload_n (by rfl) rfl
theorem e15_11 : zE 15 d Q 11 [l0, l1, l2, l3] st G h k ↔ zE 15 d Q 12 [l0, l1, l2, l3] (zI 0 :: st) G h k := E_iconst (by rfl)
theorem e15_12 : zE 15 d Q 12 [l0, l1, l2, l3] (zI x :: zR (some r) :: st) G h k ↔ (G.2.1 r = 3 ∧ zE 15 d Q 15 [l0, l1, l2, l3] st G (zu h r 4 x) k) := E_putI (by rfl) rfl
theorem e15_15 : zE 15 d Q 15 [some (.inr (.inr w9)), l1, l2, l3] st G h k ↔ zE 15 d Q 16 [some (.inr (.inr w9)), l1, l2, l3] (.inr (.inr w9) :: st) G h k := E_aload_n (by rfl) rfl
theorem e15_16 : zE 15 d Q 16 [l0, l1, l2, l3] st G h k ↔ zE 15 d Q 17 [l0, l1, l2, l3] (zI 0 :: st) G h k := E_iconst (by rfl)
theorem e15_17 : zE 15 d Q 17 [l0, l1, l2, l3] (zI x :: zR (some r) :: st) G h k ↔ (G.2.1 r = 3 ∧ zE 15 d Q 20 [l0, l1, l2, l3] st G (zu h r 1 x) k) := E_putI (by rfl) rfl
theorem e15_20 : zE 15 d Q 20 [some (.inr (.inr w9)), l1, l2, l3] st G h k ↔ zE 15 d Q 21 [some (.inr (.inr w9)), l1, l2, l3] (.inr (.inr w9) :: st) G h k := E_aload_n (by rfl) rfl
theorem e15_21 : zE 15 d Q 21 [l0, l1, l2, l3] st G h k ↔ zE 15 d Q 22 [l0, l1, l2, l3] (zI (-1) :: st) G h k := E_iconst (by rfl)
theorem e15_22 : zE 15 d Q 22 [l0, l1, l2, l3] (zI x :: zR (some r) :: st) G h k ↔ (G.2.1 r = 3 ∧ zE 15 d Q 25 [l0, l1, l2, l3] st G (zu h r 0 x) k) := E_putI (by rfl) rfl
theorem e15_25 : zE 15 d Q 25 [some (.inr (.inr w9)), l1, l2, l3] st G h k ↔ zE 15 d Q 26 [some (.inr (.inr w9)), l1, l2, l3] (.inr (.inr w9) :: st) G h k := E_aload_n (by rfl) rfl
theorem e15_26 : zE 15 d Q 26 [l0, l1, l2, l3] st G h k ↔ zE 15 d Q 27 [l0, l1, l2, l3] (zI 0 :: st) G h k := E_iconst (by rfl)
theorem e15_27 : zE 15 d Q 27 [l0, l1, l2, l3] (zI x :: zR (some r) :: st) G h k ↔ (G.2.1 r = 3 ∧ zE 15 d Q 30 [l0, l1, l2, l3] st G (zu h r 11 x) k) := E_putI (by rfl) rfl
theorem e15_30 : zE 15 d Q 30 [some (.inr (.inr w9)), l1, l2, l3] st G h k ↔ zE 15 d Q 31 [some (.inr (.inr w9)), l1, l2, l3] (.inr (.inr w9) :: st) G h k := E_aload_n (by rfl) rfl
theorem e15_31 : zE 15 d Q 31 [l0, l1, l2, l3] st G h k ↔ zE 15 d Q 32 [l0, l1, l2, l3] (zI 0 :: st) G h k := E_iconst (by rfl)
theorem e15_32 : zE 15 d Q 32 [l0, l1, l2, l3] (zI x :: zR (some r) :: st) G h k ↔ (G.2.1 r = 3 ∧ (x = 0 ∨ x = 1) ∧ zE 15 d Q 35 [l0, l1, l2, l3] st G (zu h r 12 x) k) := E_putZ (by rfl) rfl
theorem e15_35 : zE 15 d Q 35 [some (.inr (.inr w9)), l1, l2, l3] st G h k ↔ zE 15 d Q 36 [some (.inr (.inr w9)), l1, l2, l3] (.inr (.inr w9) :: st) G h k := E_aload_n (by rfl) rfl
theorem e15_36 : zE 15 d Q 36 [l0, l1, l2, l3] st G h k ↔ zE 15 d Q 37 [l0, l1, l2, l3] (zI 0 :: st) G h k := E_iconst (by rfl)
theorem e15_37 : zE 15 d Q 37 [l0, l1, l2, l3] (zI x :: zR (some r) :: st) G h k ↔ (G.2.1 r = 3 ∧ (x = 0 ∨ x = 1) ∧ zE 15 d Q 40 [l0, l1, l2, l3] st G (zu h r 13 x) k) := E_putZ (by rfl) rfl
theorem e15_40 : zE 15 d Q 40 [l0, l1, l2, some (.inr (.inr w9))] st G h k ↔ zE 15 d Q 41 [l0, l1, l2, some (.inr (.inr w9))] (.inr (.inr w9) :: st) G h k := E_aload_n (by rfl) rfl
theorem e15_41 : zE 15 d Q 41 [l0, l1, l2, l3] st G h k ↔ zE 15 d Q 42 [l0, l1, l2, l3] (zI 0 :: st) G h k := E_iconst (by rfl)
theorem e15_42 : zE 15 d Q 42 [l0, l1, l2, l3] (zI x :: zR (some r) :: st) G h k ↔ (G.2.1 r = 5 ∧ zE 15 d Q 45 [l0, l1, l2, l3] st G (zu h r 9 x) k) := E_putI (by rfl) rfl
theorem e15_45 : zE 15 d Q 45 [l0, l1, l2, some (.inr (.inr w9))] st G h k ↔ zE 15 d Q 46 [l0, l1, l2, some (.inr (.inr w9))] (.inr (.inr w9) :: st) G h k := E_aload_n (by rfl) rfl
theorem e15_46 : zE 15 d Q 46 [l0, l1, l2, l3] st G h k ↔ zE 15 d Q 47 [l0, l1, l2, l3] (zI 0 :: st) G h k := E_iconst (by rfl)
theorem e15_47 : zE 15 d Q 47 [l0, l1, l2, l3] (zI x :: zR (some r) :: st) G h k ↔ (G.2.1 r = 5 ∧ zE 15 d Q 50 [l0, l1, l2, l3] st G (zu h r 10 x) k) := E_putI (by rfl) rfl
theorem e15_50 : zE 15 d Q 50 [l0, l1, l2, some (.inr (.inr w9))] st G h k ↔ zE 15 d Q 51 [l0, l1, l2, some (.inr (.inr w9))] (.inr (.inr w9) :: st) G h k := E_aload_n (by rfl) rfl
theorem e15_51 : zE 15 d Q 51 [l0, l1, l2, l3] st G h k ↔ zE 15 d Q 52 [l0, l1, l2, l3] (zI 0 :: st) G h k := E_iconst (by rfl)
theorem e15_52 : zE 15 d Q 52 [l0, l1, l2, l3] (zI x :: zR (some r) :: st) G h k ↔ (G.2.1 r = 5 ∧ zE 15 d Q 55 [l0, l1, l2, l3] st G (zu h r 11 x) k) := E_putI (by rfl) rfl
theorem e15_55 : zE 15 d Q 55 [l0, l1, l2, l3] [] G h k ↔ Q none G h := E_vret (by rfl) rfl
theorem e16_0 : zE 16 d Q 0 [some (.inr (.inr w9)), l1, l2] st G h k ↔ zE 16 d Q 1 [some (.inr (.inr w9)), l1, l2] (.inr (.inr w9) :: st) G h k := E_aload_n (by rfl) rfl
theorem e16_1 : zE 16 d Q 1 [l0, l1, l2] (zR (some r) :: st) G h k ↔ (G.2.1 r = 3 ∧ zE 16 d Q 4 [l0, l1, l2] (zI (h r 1) :: st) G h k) := E_getI (by rfl) (by decide)
theorem e16_4 : zE 16 d Q 4 [l0, l1, l2] (zI x :: st) G h k ↔ ((¬ x = 0 → zE 16 d Q 17 [l0, l1, l2] st G h k) ∧ (¬ (¬ x = 0) → zE 16 d Q 7 [l0, l1, l2] st G h k)) := E_if_ne (by rfl)
theorem e16_7 : zE 16 d Q 7 [some (.inr (.inr w9)), l1, l2] st G h k ↔ zE 16 d Q 8 [some (.inr (.inr w9)), l1, l2] (.inr (.inr w9) :: st) G h k := E_aload_n (by rfl) rfl
theorem e16_8 : zE 16 d Q 8 [l0, some (zI x), l2] st G h k ↔ zE 16 d Q 9 [l0, some (zI x), l2] (zI x :: st) G h k := E_iload_n (by rfl) rfl
theorem e16_9 : zE 16 d Q 9 [l0, l1, l2] (zI x :: zR (some r) :: st) G h k ↔ (G.2.1 r = 3 ∧ zE 16 d Q 12 [l0, l1, l2] st G (zu h r 1 x) k) := E_putI (by rfl) rfl
theorem e16_12 : zE 16 d Q 12 [some (.inr (.inr w9)), l1, l2] st G h k ↔ zE 16 d Q 13 [some (.inr (.inr w9)), l1, l2] (.inr (.inr w9) :: st) G h k := E_aload_n (by rfl) rfl
theorem e16_13 : zE 16 d Q 13 [l0, l1, some (zI x)] st G h k ↔ zE 16 d Q 14 [l0, l1, some (zI x)] (zI x :: st) G h k := E_iload_n (by rfl) rfl
theorem e16_14 : zE 16 d Q 14 [l0, l1, l2] (zI x :: zR (some r) :: st) G h k ↔ (G.2.1 r = 3 ∧ zE 16 d Q 17 [l0, l1, l2] st G (zu h r 0 x) k) := E_putI (by rfl) rfl
theorem e16_17 : zE 16 d Q 17 [l0, l1, l2] [] G h k ↔ Q none G h := E_vret (by rfl) rfl
theorem e17_0 : zE 17 d Q 0 [some (.inr (.inr w9))] st G h k ↔ zE 17 d Q 1 [some (.inr (.inr w9))] (.inr (.inr w9) :: st) G h k := E_aload_n (by rfl) rfl
theorem e17_1 : zE 17 d Q 1 [l0] (zR (some r) :: st) G h k ↔ (G.2.1 r = 3 ∧ zE 17 d Q 4 [l0] (zI (h r 4) :: st) G h k) := E_getI (by rfl) (by decide)
theorem e17_4 : zE 17 d Q 4 [some (.inr (.inr w9))] st G h k ↔ zE 17 d Q 5 [some (.inr (.inr w9))] (.inr (.inr w9) :: st) G h k := E_aload_n (by rfl) rfl
theorem e17_5 : zE 17 d Q 5 [l0] (zR (some r) :: st) G h k ↔ (G.2.1 r = 3 ∧ zE 17 d Q 8 [l0] (zI (h r 3) :: st) G h k) := E_getI (by rfl) (by decide)
theorem e17_8 : zE 17 d Q 8 [l0] (zI y :: zI x :: st) G h k ↔ ((y ≤ x → zE 17 d Q 38 [l0] st G h k) ∧ (¬ (y ≤ x) → zE 17 d Q 11 [l0] st G h k)) := E_icmp_ge (by rfl)
theorem e17_11 : zE 17 d Q 11 [some (.inr (.inr w9))] st G h k ↔ zE 17 d Q 12 [some (.inr (.inr w9))] (.inr (.inr w9) :: st) G h k := E_aload_n (by rfl) rfl
theorem e17_12 : zE 17 d Q 12 [l0] (zR (some r) :: st) G h k ↔ (G.2.1 r = 3 ∧ zE 17 d Q 15 [l0] (zR (G.2.2.2 r 2) :: st) G h k) := E_getR (by rfl) rfl
theorem e17_15 : zE 17 d Q 15 [some (.inr (.inr w9))] st G h k ↔ zE 17 d Q 16 [some (.inr (.inr w9))] (.inr (.inr w9) :: st) G h k := E_aload_n (by rfl) rfl
theorem e17_16 : zE 17 d Q 16 [l0] (zR (some r) :: st) G h k ↔ (G.2.1 r = 3 ∧ zE 17 d Q 19 [l0] (zI (h r 4) :: st) G h k) := E_getI (by rfl) (by decide)
theorem e17_19 : zE 17 d Q 19 [l0] (zI i :: zR (some r) :: st) G h k ↔ (G.2.1 r = 12 ∧ (0 ≤ i ∧ i < G.2.2.1 r) ∧ zE 17 d Q 20 [l0] (zI (h r i.toNat) :: st) G h k) := E_baload (by rfl) (by decide)
theorem e17_20 : zE 17 d Q 20 [l0] st G h k ↔ zE 17 d Q 22 [l0] (zI 32 :: st) G h k := E_bipush (by rfl)
theorem e17_22 : zE 17 d Q 22 [l0] (zI y :: zI x :: st) G h k ↔ ((¬ x = y → zE 17 d Q 38 [l0] st G h k) ∧ (¬ (¬ x = y) → zE 17 d Q 25 [l0] st G h k)) := E_icmp_ne (by rfl)
theorem e17_25 : zE 17 d Q 25 [some (.inr (.inr w9))] st G h k ↔ zE 17 d Q 26 [some (.inr (.inr w9))] (.inr (.inr w9) :: st) G h k := E_aload_n (by rfl) rfl
theorem e17_26 : zE 17 d Q 26 [l0] (.inr (.inr w9) :: st) G h k ↔ zE 17 d Q 27 [l0] (.inr (.inr w9) :: .inr (.inr w9) :: st) G h k := E_dup (by rfl) rfl
theorem e17_27 : zE 17 d Q 27 [l0] (zR (some r) :: st) G h k ↔ (G.2.1 r = 3 ∧ zE 17 d Q 30 [l0] (zI (h r 4) :: st) G h k) := E_getI (by rfl) (by decide)
theorem e17_30 : zE 17 d Q 30 [l0] st G h k ↔ zE 17 d Q 31 [l0] (zI 1 :: st) G h k := E_iconst (by rfl)
theorem e17_31 : zE 17 d Q 31 [l0] (zI y :: zI x :: st) G h k ↔ zE 17 d Q 32 [l0] (zI (wr (x + y)) :: st) G h k := E_iadd (by rfl)
theorem e17_32 : zE 17 d Q 32 [l0] (zI x :: zR (some r) :: st) G h k ↔ (G.2.1 r = 3 ∧ zE 17 d Q 35 [l0] st G (zu h r 4 x) k) := E_putI (by rfl) rfl
theorem e17_35 : zE 17 d Q 35 [l0] st G h k ↔ zE 17 d Q 0 [l0] st G h k := E_goto (by rfl)
theorem e17_38 : zE 17 d Q 38 [some (.inr (.inr w9))] st G h k ↔ zE 17 d Q 39 [some (.inr (.inr w9))] (.inr (.inr w9) :: st) G h k := E_aload_n (by rfl) rfl
theorem e17_39 : zE 17 d Q 39 [some (.inr (.inr w9))] st G h k ↔ zE 17 d Q 40 [some (.inr (.inr w9))] (.inr (.inr w9) :: st) G h k := E_aload_n (by rfl) rfl
theorem e17_40 : zE 17 d Q 40 [l0] (zR (some r) :: st) G h k ↔ (G.2.1 r = 3 ∧ zE 17 d Q 43 [l0] (zI (h r 4) :: st) G h k) := E_getI (by rfl) (by decide)
theorem e17_43 : zE 17 d Q 43 [l0] (zI x :: zR (some r) :: st) G h k ↔ (G.2.1 r = 3 ∧ zE 17 d Q 46 [l0] st G (zu h r 6 x) k) := E_putI (by rfl) rfl
theorem e17_46 : zE 17 d Q 46 [some (.inr (.inr w9))] st G h k ↔ zE 17 d Q 47 [some (.inr (.inr w9))] (.inr (.inr w9) :: st) G h k := E_aload_n (by rfl) rfl
theorem e17_47 : zE 17 d Q 47 [l0] st G h k ↔ zE 17 d Q 48 [l0] (zI 0 :: st) G h k := E_iconst (by rfl)
theorem e17_48 : zE 17 d Q 48 [l0] (zI x :: zR (some r) :: st) G h k ↔ (G.2.1 r = 3 ∧ zE 17 d Q 51 [l0] st G (zu h r 8 x) k) := E_putI (by rfl) rfl
theorem e17_51 : zE 17 d Q 51 [some (.inr (.inr w9))] st G h k ↔ zE 17 d Q 52 [some (.inr (.inr w9))] (.inr (.inr w9) :: st) G h k := E_aload_n (by rfl) rfl
theorem e17_52 : zE 17 d Q 52 [some (.inr (.inr w9))] st G h k ↔ zE 17 d Q 53 [some (.inr (.inr w9))] (.inr (.inr w9) :: st) G h k := E_aload_n (by rfl) rfl
theorem e17_53 : zE 17 d Q 53 [l0] (zR (some r) :: st) G h k ↔ (G.2.1 r = 3 ∧ zE 17 d Q 56 [l0] (zI (h r 4) :: st) G h k) := E_getI (by rfl) (by decide)
theorem e17_56 : zE 17 d Q 56 [some (.inr (.inr w9))] st G h k ↔ zE 17 d Q 57 [some (.inr (.inr w9))] (.inr (.inr w9) :: st) G h k := E_aload_n (by rfl) rfl
theorem e17_57 : zE 17 d Q 57 [l0] (zR (some r) :: st) G h k ↔ (G.2.1 r = 3 ∧ zE 17 d Q 60 [l0] (zI (h r 3) :: st) G h k) := E_getI (by rfl) (by decide)
theorem e17_60 : zE 17 d Q 60 [l0] (zI y :: zI x :: st) G h k ↔ ((y ≤ x → zE 17 d Q 79 [l0] st G h k) ∧ (¬ (y ≤ x) → zE 17 d Q 63 [l0] st G h k)) := E_icmp_ge (by rfl)
theorem e17_63 : zE 17 d Q 63 [some (.inr (.inr w9))] st G h k ↔ zE 17 d Q 64 [some (.inr (.inr w9))] (.inr (.inr w9) :: st) G h k := E_aload_n (by rfl) rfl
theorem e17_64 : zE 17 d Q 64 [some (.inr (.inr w9))] st G h k ↔ zE 17 d Q 65 [some (.inr (.inr w9))] (.inr (.inr w9) :: st) G h k := E_aload_n (by rfl) rfl
theorem e17_65 : zE 17 d Q 65 [l0] (zR (some r) :: st) G h k ↔ (G.2.1 r = 3 ∧ zE 17 d Q 68 [l0] (zR (G.2.2.2 r 2) :: st) G h k) := E_getR (by rfl) rfl
theorem e17_68 : zE 17 d Q 68 [some (.inr (.inr w9))] st G h k ↔ zE 17 d Q 69 [some (.inr (.inr w9))] (.inr (.inr w9) :: st) G h k := E_aload_n (by rfl) rfl
theorem e17_69 : zE 17 d Q 69 [l0] (zR (some r) :: st) G h k ↔ (G.2.1 r = 3 ∧ zE 17 d Q 72 [l0] (zI (h r 4) :: st) G h k) := E_getI (by rfl) (by decide)
theorem e17_72 : zE 17 d Q 72 [l0] (zI i :: zR (some r) :: st) G h k ↔ (G.2.1 r = 12 ∧ (0 ≤ i ∧ i < G.2.2.1 r) ∧ zE 17 d Q 73 [l0] (zI (h r i.toNat) :: st) G h k) := E_baload (by rfl) (by decide)
theorem e17_73 : zE 17 d Q 73 [l0] (v0 :: zR (some r) :: st) G h k ↔ (zsum st ≤ 8 ∧ G.2.1 r = 3 ∧ zRunD ztb zmt' d 18 [zR (some r), v0] G h (fun v G' h' => zE 17 d Q 76 [l0] (v.toList ++ st) G' h' k)) := E_invV2z (by rfl) (by decide) rfl
theorem e17_76 : zE 17 d Q 76 [l0] st G h k ↔ zE 17 d Q 80 [l0] st G h k := E_goto (by rfl)
theorem e17_79 : zE 17 d Q 79 [l0] st G h k ↔ zE 17 d Q 80 [l0] (zI 0 :: st) G h k := E_iconst (by rfl)
theorem e17_80 : zE 17 d Q 80 [l0] (zI x :: zR (some r) :: st) G h k ↔ (G.2.1 r = 3 ∧ zE 17 d Q 83 [l0] st G (zu h r 5 x) k) := E_putI (by rfl) rfl
theorem e17_83 : zE 17 d Q 83 [some (.inr (.inr w9))] st G h k ↔ zE 17 d Q 84 [some (.inr (.inr w9))] (.inr (.inr w9) :: st) G h k := E_aload_n (by rfl) rfl
theorem e17_84 : zE 17 d Q 84 [l0] (zR (some r) :: st) G h k ↔ (G.2.1 r = 3 ∧ zE 17 d Q 87 [l0] (zI (h r 5) :: st) G h k) := E_getI (by rfl) (by decide)
theorem e17_87 : zE 17 d Q 87 [l0] st G h k ↔ zE 17 d Q 88 [l0] (zI 3 :: st) G h k := E_iconst (by rfl)
theorem e17_88 : zE 17 d Q 88 [l0] (zI y :: zI x :: st) G h k ↔ ((x = y → zE 17 d Q 107 [l0] st G h k) ∧ (¬ (x = y) → zE 17 d Q 91 [l0] st G h k)) := E_icmp_eq (by rfl)
theorem e17_91 : zE 17 d Q 91 [some (.inr (.inr w9))] st G h k ↔ zE 17 d Q 92 [some (.inr (.inr w9))] (.inr (.inr w9) :: st) G h k := E_aload_n (by rfl) rfl
theorem e17_92 : zE 17 d Q 92 [l0] (zR (some r) :: st) G h k ↔ (G.2.1 r = 3 ∧ zE 17 d Q 95 [l0] (zI (h r 5) :: st) G h k) := E_getI (by rfl) (by decide)
theorem e17_95 : zE 17 d Q 95 [l0] st G h k ↔ zE 17 d Q 96 [l0] (zI 4 :: st) G h k := E_iconst (by rfl)
theorem e17_96 : zE 17 d Q 96 [l0] (zI y :: zI x :: st) G h k ↔ ((x = y → zE 17 d Q 107 [l0] st G h k) ∧ (¬ (x = y) → zE 17 d Q 99 [l0] st G h k)) := E_icmp_eq (by rfl)
theorem e17_99 : zE 17 d Q 99 [some (.inr (.inr w9))] st G h k ↔ zE 17 d Q 100 [some (.inr (.inr w9))] (.inr (.inr w9) :: st) G h k := E_aload_n (by rfl) rfl
theorem e17_100 : zE 17 d Q 100 [l0] (zR (some r) :: st) G h k ↔ (G.2.1 r = 3 ∧ zE 17 d Q 103 [l0] (zI (h r 5) :: st) G h k) := E_getI (by rfl) (by decide)
theorem e17_103 : zE 17 d Q 103 [l0] st G h k ↔ zE 17 d Q 104 [l0] (zI 5 :: st) G h k := E_iconst (by rfl)
theorem e17_104 : zE 17 d Q 104 [l0] (zI y :: zI x :: st) G h k ↔ ((¬ x = y → zE 17 d Q 117 [l0] st G h k) ∧ (¬ (¬ x = y) → zE 17 d Q 107 [l0] st G h k)) := E_icmp_ne (by rfl)
theorem e17_107 : zE 17 d Q 107 [some (.inr (.inr w9))] st G h k ↔ zE 17 d Q 108 [some (.inr (.inr w9))] (.inr (.inr w9) :: st) G h k := E_aload_n (by rfl) rfl
theorem e17_108 : zE 17 d Q 108 [l0] (.inr (.inr w9) :: st) G h k ↔ zE 17 d Q 109 [l0] (.inr (.inr w9) :: .inr (.inr w9) :: st) G h k := E_dup (by rfl) rfl
theorem e17_109 : zE 17 d Q 109 [l0] (zR (some r) :: st) G h k ↔ (G.2.1 r = 3 ∧ zE 17 d Q 112 [l0] (zI (h r 4) :: st) G h k) := E_getI (by rfl) (by decide)
theorem e17_112 : zE 17 d Q 112 [l0] st G h k ↔ zE 17 d Q 113 [l0] (zI 1 :: st) G h k := E_iconst (by rfl)
theorem e17_113 : zE 17 d Q 113 [l0] (zI y :: zI x :: st) G h k ↔ zE 17 d Q 114 [l0] (zI (wr (x + y)) :: st) G h k := E_iadd (by rfl)
theorem e17_114 : zE 17 d Q 114 [l0] (zI x :: zR (some r) :: st) G h k ↔ (G.2.1 r = 3 ∧ zE 17 d Q 117 [l0] st G (zu h r 4 x) k) := E_putI (by rfl) rfl
theorem e17_117 : zE 17 d Q 117 [some (.inr (.inr w9))] st G h k ↔ zE 17 d Q 118 [some (.inr (.inr w9))] (.inr (.inr w9) :: st) G h k := E_aload_n (by rfl) rfl
theorem e17_118 : zE 17 d Q 118 [l0] (zR (some r) :: st) G h k ↔ (G.2.1 r = 3 ∧ zE 17 d Q 121 [l0] (zI (h r 4) :: st) G h k) := E_getI (by rfl) (by decide)
theorem e17_121 : zE 17 d Q 121 [some (.inr (.inr w9))] st G h k ↔ zE 17 d Q 122 [some (.inr (.inr w9))] (.inr (.inr w9) :: st) G h k := E_aload_n (by rfl) rfl
theorem e17_122 : zE 17 d Q 122 [l0] (zR (some r) :: st) G h k ↔ (G.2.1 r = 3 ∧ zE 17 d Q 125 [l0] (zI (h r 3) :: st) G h k) := E_getI (by rfl) (by decide)
theorem e17_125 : zE 17 d Q 125 [l0] (zI y :: zI x :: st) G h k ↔ ((y ≤ x → zE 17 d Q 201 [l0] st G h k) ∧ (¬ (y ≤ x) → zE 17 d Q 128 [l0] st G h k)) := E_icmp_ge (by rfl)
theorem e17_128 : zE 17 d Q 128 [some (.inr (.inr w9))] st G h k ↔ zE 17 d Q 129 [some (.inr (.inr w9))] (.inr (.inr w9) :: st) G h k := E_aload_n (by rfl) rfl
theorem e17_129 : zE 17 d Q 129 [l0] (zR (some r) :: st) G h k ↔ (G.2.1 r = 3 ∧ zE 17 d Q 132 [l0] (zI (h r 5) :: st) G h k) := E_getI (by rfl) (by decide)
theorem e17_132 : zE 17 d Q 132 [l0] st G h k ↔ zE 17 d Q 133 [l0] (zI 1 :: st) G h k := E_iconst (by rfl)
theorem e17_133 : zE 17 d Q 133 [l0] (zI y :: zI x :: st) G h k ↔ ((x = y → zE 17 d Q 144 [l0] st G h k) ∧ (¬ (x = y) → zE 17 d Q 136 [l0] st G h k)) := E_icmp_eq (by rfl)
theorem e17_136 : zE 17 d Q 136 [some (.inr (.inr w9))] st G h k ↔ zE 17 d Q 137 [some (.inr (.inr w9))] (.inr (.inr w9) :: st) G h k := E_aload_n (by rfl) rfl
theorem e17_137 : zE 17 d Q 137 [l0] (zR (some r) :: st) G h k ↔ (G.2.1 r = 3 ∧ zE 17 d Q 140 [l0] (zI (h r 5) :: st) G h k) := E_getI (by rfl) (by decide)
theorem e17_140 : zE 17 d Q 140 [l0] st G h k ↔ zE 17 d Q 141 [l0] (zI 2 :: st) G h k := E_iconst (by rfl)
theorem e17_141 : zE 17 d Q 141 [l0] (zI y :: zI x :: st) G h k ↔ ((¬ x = y → zE 17 d Q 201 [l0] st G h k) ∧ (¬ (¬ x = y) → zE 17 d Q 144 [l0] st G h k)) := E_icmp_ne (by rfl)
theorem e17_144 : zE 17 d Q 144 [some (.inr (.inr w9))] st G h k ↔ zE 17 d Q 145 [some (.inr (.inr w9))] (.inr (.inr w9) :: st) G h k := E_aload_n (by rfl) rfl
theorem e17_145 : zE 17 d Q 145 [some (.inr (.inr w9))] st G h k ↔ zE 17 d Q 146 [some (.inr (.inr w9))] (.inr (.inr w9) :: st) G h k := E_aload_n (by rfl) rfl
theorem e17_146 : zE 17 d Q 146 [l0] (zR (some r) :: st) G h k ↔ (G.2.1 r = 3 ∧ zE 17 d Q 149 [l0] (zR (G.2.2.2 r 2) :: st) G h k) := E_getR (by rfl) rfl
theorem e17_149 : zE 17 d Q 149 [some (.inr (.inr w9))] st G h k ↔ zE 17 d Q 150 [some (.inr (.inr w9))] (.inr (.inr w9) :: st) G h k := E_aload_n (by rfl) rfl
theorem e17_150 : zE 17 d Q 150 [l0] (zR (some r) :: st) G h k ↔ (G.2.1 r = 3 ∧ zE 17 d Q 153 [l0] (zI (h r 4) :: st) G h k) := E_getI (by rfl) (by decide)
theorem e17_153 : zE 17 d Q 153 [l0] (zI i :: zR (some r) :: st) G h k ↔ (G.2.1 r = 12 ∧ (0 ≤ i ∧ i < G.2.2.1 r) ∧ zE 17 d Q 154 [l0] (zI (h r i.toNat) :: st) G h k) := E_baload (by rfl) (by decide)
theorem e17_154 : zE 17 d Q 154 [l0] (v0 :: zR (some r) :: st) G h k ↔ (zsum st ≤ 8 ∧ G.2.1 r = 3 ∧ zRunD ztb zmt' d 18 [zR (some r), v0] G h (fun v G' h' => zE 17 d Q 157 [l0] (v.toList ++ st) G' h' k)) := E_invV2z (by rfl) (by decide) rfl
theorem e17_157 : zE 17 d Q 157 [some (.inr (.inr w9))] st G h k ↔ zE 17 d Q 158 [some (.inr (.inr w9))] (.inr (.inr w9) :: st) G h k := E_aload_n (by rfl) rfl
theorem e17_158 : zE 17 d Q 158 [l0] (zR (some r) :: st) G h k ↔ (G.2.1 r = 3 ∧ zE 17 d Q 161 [l0] (zI (h r 5) :: st) G h k) := E_getI (by rfl) (by decide)
theorem e17_161 : zE 17 d Q 161 [l0] (zI y :: zI x :: st) G h k ↔ ((¬ x = y → zE 17 d Q 201 [l0] st G h k) ∧ (¬ (¬ x = y) → zE 17 d Q 164 [l0] st G h k)) := E_icmp_ne (by rfl)
theorem e17_164 : zE 17 d Q 164 [some (.inr (.inr w9))] st G h k ↔ zE 17 d Q 165 [some (.inr (.inr w9))] (.inr (.inr w9) :: st) G h k := E_aload_n (by rfl) rfl
theorem e17_165 : zE 17 d Q 165 [l0] st G h k ↔ zE 17 d Q 167 [l0] (zI 10 :: st) G h k := E_bipush (by rfl)
theorem e17_167 : zE 17 d Q 167 [some (.inr (.inr w9))] st G h k ↔ zE 17 d Q 168 [some (.inr (.inr w9))] (.inr (.inr w9) :: st) G h k := E_aload_n (by rfl) rfl
theorem e17_168 : zE 17 d Q 168 [l0] (zR (some r) :: st) G h k ↔ (G.2.1 r = 3 ∧ zE 17 d Q 171 [l0] (zI (h r 8) :: st) G h k) := E_getI (by rfl) (by decide)
theorem e17_171 : zE 17 d Q 171 [l0] (zI y :: zI x :: st) G h k ↔ zE 17 d Q 172 [l0] (zI (wr (x * y)) :: st) G h k := E_imul (by rfl)
theorem e17_172 : zE 17 d Q 172 [some (.inr (.inr w9))] st G h k ↔ zE 17 d Q 173 [some (.inr (.inr w9))] (.inr (.inr w9) :: st) G h k := E_aload_n (by rfl) rfl
theorem e17_173 : zE 17 d Q 173 [l0] (zR (some r) :: st) G h k ↔ (G.2.1 r = 3 ∧ zE 17 d Q 176 [l0] (zR (G.2.2.2 r 2) :: st) G h k) := E_getR (by rfl) rfl
theorem e17_176 : zE 17 d Q 176 [some (.inr (.inr w9))] st G h k ↔ zE 17 d Q 177 [some (.inr (.inr w9))] (.inr (.inr w9) :: st) G h k := E_aload_n (by rfl) rfl
theorem e17_177 : zE 17 d Q 177 [l0] (zR (some r) :: st) G h k ↔ (G.2.1 r = 3 ∧ zE 17 d Q 180 [l0] (zI (h r 4) :: st) G h k) := E_getI (by rfl) (by decide)
theorem e17_180 : zE 17 d Q 180 [l0] (zI i :: zR (some r) :: st) G h k ↔ (G.2.1 r = 12 ∧ (0 ≤ i ∧ i < G.2.2.1 r) ∧ zE 17 d Q 181 [l0] (zI (h r i.toNat) :: st) G h k) := E_baload (by rfl) (by decide)
theorem e17_181 : zE 17 d Q 181 [l0] (zI y :: zI x :: st) G h k ↔ zE 17 d Q 182 [l0] (zI (wr (x + y)) :: st) G h k := E_iadd (by rfl)
theorem e17_182 : zE 17 d Q 182 [l0] st G h k ↔ zE 17 d Q 184 [l0] (zI 48 :: st) G h k := E_bipush (by rfl)
theorem e17_184 : zE 17 d Q 184 [l0] (zI y :: zI x :: st) G h k ↔ zE 17 d Q 185 [l0] (zI (wr (x - y)) :: st) G h k := E_isub (by rfl)
theorem e17_185 : zE 17 d Q 185 [l0] (zI x :: zR (some r) :: st) G h k ↔ (G.2.1 r = 3 ∧ zE 17 d Q 188 [l0] st G (zu h r 8 x) k) := E_putI (by rfl) rfl
theorem e17_188 : zE 17 d Q 188 [some (.inr (.inr w9))] st G h k ↔ zE 17 d Q 189 [some (.inr (.inr w9))] (.inr (.inr w9) :: st) G h k := E_aload_n (by rfl) rfl
theorem e17_189 : zE 17 d Q 189 [l0] (.inr (.inr w9) :: st) G h k ↔ zE 17 d Q 190 [l0] (.inr (.inr w9) :: .inr (.inr w9) :: st) G h k := E_dup (by rfl) rfl
theorem e17_190 : zE 17 d Q 190 [l0] (zR (some r) :: st) G h k ↔ (G.2.1 r = 3 ∧ zE 17 d Q 193 [l0] (zI (h r 4) :: st) G h k) := E_getI (by rfl) (by decide)
theorem e17_193 : zE 17 d Q 193 [l0] st G h k ↔ zE 17 d Q 194 [l0] (zI 1 :: st) G h k := E_iconst (by rfl)
theorem e17_194 : zE 17 d Q 194 [l0] (zI y :: zI x :: st) G h k ↔ zE 17 d Q 195 [l0] (zI (wr (x + y)) :: st) G h k := E_iadd (by rfl)
theorem e17_195 : zE 17 d Q 195 [l0] (zI x :: zR (some r) :: st) G h k ↔ (G.2.1 r = 3 ∧ zE 17 d Q 198 [l0] st G (zu h r 4 x) k) := E_putI (by rfl) rfl
theorem e17_198 : zE 17 d Q 198 [l0] st G h k ↔ zE 17 d Q 117 [l0] st G h k := E_goto (by rfl)
theorem e17_201 : zE 17 d Q 201 [some (.inr (.inr w9))] st G h k ↔ zE 17 d Q 202 [some (.inr (.inr w9))] (.inr (.inr w9) :: st) G h k := E_aload_n (by rfl) rfl
theorem e17_202 : zE 17 d Q 202 [some (.inr (.inr w9))] st G h k ↔ zE 17 d Q 203 [some (.inr (.inr w9))] (.inr (.inr w9) :: st) G h k := E_aload_n (by rfl) rfl
theorem e17_203 : zE 17 d Q 203 [l0] (zR (some r) :: st) G h k ↔ (G.2.1 r = 3 ∧ zE 17 d Q 206 [l0] (zI (h r 4) :: st) G h k) := E_getI (by rfl) (by decide)
theorem e17_206 : zE 17 d Q 206 [some (.inr (.inr w9))] st G h k ↔ zE 17 d Q 207 [some (.inr (.inr w9))] (.inr (.inr w9) :: st) G h k := E_aload_n (by rfl) rfl
theorem e17_207 : zE 17 d Q 207 [l0] (zR (some r) :: st) G h k ↔ (G.2.1 r = 3 ∧ zE 17 d Q 210 [l0] (zI (h r 6) :: st) G h k) := E_getI (by rfl) (by decide)
theorem e17_210 : zE 17 d Q 210 [l0] (zI y :: zI x :: st) G h k ↔ zE 17 d Q 211 [l0] (zI (wr (x - y)) :: st) G h k := E_isub (by rfl)
theorem e17_211 : zE 17 d Q 211 [l0] (zI x :: zR (some r) :: st) G h k ↔ (G.2.1 r = 3 ∧ zE 17 d Q 214 [l0] st G (zu h r 7 x) k) := E_putI (by rfl) rfl
theorem e17_214 : zE 17 d Q 214 [some (.inr (.inr w9))] st G h k ↔ zE 17 d Q 215 [some (.inr (.inr w9))] (.inr (.inr w9) :: st) G h k := E_aload_n (by rfl) rfl
theorem e17_215 : zE 17 d Q 215 [l0] (zR (some r) :: st) G h k ↔ (G.2.1 r = 3 ∧ zE 17 d Q 218 [l0] (zI (h r 5) :: st) G h k) := E_getI (by rfl) (by decide)
theorem e17_218 : zE 17 d Q 218 [l0] st G h k ↔ zE 17 d Q 219 [l0] (zI 1 :: st) G h k := E_iconst (by rfl)
theorem e17_219 : zE 17 d Q 219 [l0] (zI y :: zI x :: st) G h k ↔ ((¬ x = y → zE 17 d Q 231 [l0] st G h k) ∧ (¬ (¬ x = y) → zE 17 d Q 222 [l0] st G h k)) := E_icmp_ne (by rfl)
theorem e17_222 : zE 17 d Q 222 [some (.inr (.inr w9))] st G h k ↔ zE 17 d Q 223 [some (.inr (.inr w9))] (.inr (.inr w9) :: st) G h k := E_aload_n (by rfl) rfl
theorem e17_223 : zE 17 d Q 223 [l0] (zR (some r) :: st) G h k ↔ (G.2.1 r = 3 ∧ zE 17 d Q 226 [l0] (zI (h r 7) :: st) G h k) := E_getI (by rfl) (by decide)
theorem e17_226 : zE 17 d Q 226 [l0] st G h k ↔ zE 17 d Q 228 [l0] (zI 8 :: st) G h k := E_bipush (by rfl)
theorem e17_228 : zE 17 d Q 228 [l0] (zI y :: zI x :: st) G h k ↔ ((y < x → zE 17 d Q 247 [l0] st G h k) ∧ (¬ (y < x) → zE 17 d Q 231 [l0] st G h k)) := E_icmp_gt (by rfl)
theorem e17_231 : zE 17 d Q 231 [some (.inr (.inr w9))] st G h k ↔ zE 17 d Q 232 [some (.inr (.inr w9))] (.inr (.inr w9) :: st) G h k := E_aload_n (by rfl) rfl
theorem e17_232 : zE 17 d Q 232 [l0] (zR (some r) :: st) G h k ↔ (G.2.1 r = 3 ∧ zE 17 d Q 235 [l0] (zI (h r 5) :: st) G h k) := E_getI (by rfl) (by decide)
theorem e17_235 : zE 17 d Q 235 [l0] st G h k ↔ zE 17 d Q 236 [l0] (zI 2 :: st) G h k := E_iconst (by rfl)
theorem e17_236 : zE 17 d Q 236 [l0] (zI y :: zI x :: st) G h k ↔ ((¬ x = y → zE 17 d Q 252 [l0] st G h k) ∧ (¬ (¬ x = y) → zE 17 d Q 239 [l0] st G h k)) := E_icmp_ne (by rfl)
theorem e17_239 : zE 17 d Q 239 [some (.inr (.inr w9))] st G h k ↔ zE 17 d Q 240 [some (.inr (.inr w9))] (.inr (.inr w9) :: st) G h k := E_aload_n (by rfl) rfl
theorem e17_240 : zE 17 d Q 240 [l0] (zR (some r) :: st) G h k ↔ (G.2.1 r = 3 ∧ zE 17 d Q 243 [l0] (zI (h r 7) :: st) G h k) := E_getI (by rfl) (by decide)
theorem e17_243 : zE 17 d Q 243 [l0] st G h k ↔ zE 17 d Q 244 [l0] (zI 3 :: st) G h k := E_iconst (by rfl)
theorem e17_244 : zE 17 d Q 244 [l0] (zI y :: zI x :: st) G h k ↔ ((x ≤ y → zE 17 d Q 252 [l0] st G h k) ∧ (¬ (x ≤ y) → zE 17 d Q 247 [l0] st G h k)) := E_icmp_le (by rfl)
theorem e17_247 : zE 17 d Q 247 [some (.inr (.inr w9))] st G h k ↔ zE 17 d Q 248 [some (.inr (.inr w9))] (.inr (.inr w9) :: st) G h k := E_aload_n (by rfl) rfl
theorem e17_248 : zE 17 d Q 248 [l0] st G h k ↔ zE 17 d Q 249 [l0] (zI 5 :: st) G h k := E_iconst (by rfl)
theorem e17_249 : zE 17 d Q 249 [l0] (zI x :: zR (some r) :: st) G h k ↔ (G.2.1 r = 3 ∧ zE 17 d Q 252 [l0] st G (zu h r 5 x) k) := E_putI (by rfl) rfl
theorem e17_252 : zE 17 d Q 252 [l0] [] G h k ↔ Q none G h := E_vret (by rfl) rfl
theorem e18_0 : zE 18 d Q 0 [l0, some (zI x)] st G h k ↔ zE 18 d Q 1 [l0, some (zI x)] (zI x :: st) G h k := E_iload_n (by rfl) rfl
theorem e18_1 : zE 18 d Q 1 [l0, l1] st G h k ↔ zE 18 d Q 3 [l0, l1] (zI 97 :: st) G h k := E_bipush (by rfl)
theorem e18_3 : zE 18 d Q 3 [l0, l1] (zI y :: zI x :: st) G h k ↔ ((x < y → zE 18 d Q 14 [l0, l1] st G h k) ∧ (¬ (x < y) → zE 18 d Q 6 [l0, l1] st G h k)) := E_icmp_lt (by rfl)
theorem e18_6 : zE 18 d Q 6 [l0, some (zI x)] st G h k ↔ zE 18 d Q 7 [l0, some (zI x)] (zI x :: st) G h k := E_iload_n (by rfl) rfl
theorem e18_7 : zE 18 d Q 7 [l0, l1] st G h k ↔ zE 18 d Q 9 [l0, l1] (zI 122 :: st) G h k := E_bipush (by rfl)
theorem e18_9 : zE 18 d Q 9 [l0, l1] (zI y :: zI x :: st) G h k ↔ ((y < x → zE 18 d Q 14 [l0, l1] st G h k) ∧ (¬ (y < x) → zE 18 d Q 12 [l0, l1] st G h k)) := E_icmp_gt (by rfl)
theorem e18_12 : zE 18 d Q 12 [l0, l1] st G h k ↔ zE 18 d Q 13 [l0, l1] (zI 1 :: st) G h k := E_iconst (by rfl)
theorem e18_13 : zE 18 d Q 13 [l0, l1] [zI x] G h k ↔ Q (some (zI x)) G h := E_iret (by rfl) rfl
theorem e18_14 : zE 18 d Q 14 [l0, some (zI x)] st G h k ↔ zE 18 d Q 15 [l0, some (zI x)] (zI x :: st) G h k := E_iload_n (by rfl) rfl
theorem e18_15 : zE 18 d Q 15 [l0, l1] st G h k ↔ zE 18 d Q 17 [l0, l1] (zI 48 :: st) G h k := E_bipush (by rfl)
theorem e18_17 : zE 18 d Q 17 [l0, l1] (zI y :: zI x :: st) G h k ↔ ((x < y → zE 18 d Q 28 [l0, l1] st G h k) ∧ (¬ (x < y) → zE 18 d Q 20 [l0, l1] st G h k)) := E_icmp_lt (by rfl)
theorem e18_20 : zE 18 d Q 20 [l0, some (zI x)] st G h k ↔ zE 18 d Q 21 [l0, some (zI x)] (zI x :: st) G h k := E_iload_n (by rfl) rfl
theorem e18_21 : zE 18 d Q 21 [l0, l1] st G h k ↔ zE 18 d Q 23 [l0, l1] (zI 57 :: st) G h k := E_bipush (by rfl)
theorem e18_23 : zE 18 d Q 23 [l0, l1] (zI y :: zI x :: st) G h k ↔ ((y < x → zE 18 d Q 28 [l0, l1] st G h k) ∧ (¬ (y < x) → zE 18 d Q 26 [l0, l1] st G h k)) := E_icmp_gt (by rfl)
theorem e18_26 : zE 18 d Q 26 [l0, l1] st G h k ↔ zE 18 d Q 27 [l0, l1] (zI 2 :: st) G h k := E_iconst (by rfl)
theorem e18_27 : zE 18 d Q 27 [l0, l1] [zI x] G h k ↔ Q (some (zI x)) G h := E_iret (by rfl) rfl
theorem e18_28 : zE 18 d Q 28 [l0, some (zI x)] st G h k ↔ zE 18 d Q 29 [l0, some (zI x)] (zI x :: st) G h k := E_iload_n (by rfl) rfl
theorem e18_29 : zE 18 d Q 29 [l0, l1] st G h k ↔ zE 18 d Q 31 [l0, l1] (zI 59 :: st) G h k := E_bipush (by rfl)
theorem e18_31 : zE 18 d Q 31 [l0, l1] (zI y :: zI x :: st) G h k ↔ ((¬ x = y → zE 18 d Q 38 [l0, l1] st G h k) ∧ (¬ (¬ x = y) → zE 18 d Q 34 [l0, l1] st G h k)) := E_icmp_ne (by rfl)
theorem e18_34 : zE 18 d Q 34 [l0, l1] st G h k ↔ zE 18 d Q 35 [l0, l1] (zI 3 :: st) G h k := E_iconst (by rfl)
theorem e18_35 : zE 18 d Q 35 [l0, l1] st G h k ↔ zE 18 d Q 49 [l0, l1] st G h k := E_goto (by rfl)
theorem e18_38 : zE 18 d Q 38 [l0, some (zI x)] st G h k ↔ zE 18 d Q 39 [l0, some (zI x)] (zI x :: st) G h k := E_iload_n (by rfl) rfl
theorem e18_39 : zE 18 d Q 39 [l0, l1] st G h k ↔ zE 18 d Q 41 [l0, l1] (zI 44 :: st) G h k := E_bipush (by rfl)
theorem e18_41 : zE 18 d Q 41 [l0, l1] (zI y :: zI x :: st) G h k ↔ ((¬ x = y → zE 18 d Q 48 [l0, l1] st G h k) ∧ (¬ (¬ x = y) → zE 18 d Q 44 [l0, l1] st G h k)) := E_icmp_ne (by rfl)
theorem e18_44 : zE 18 d Q 44 [l0, l1] st G h k ↔ zE 18 d Q 45 [l0, l1] (zI 4 :: st) G h k := E_iconst (by rfl)
theorem e18_45 : zE 18 d Q 45 [l0, l1] st G h k ↔ zE 18 d Q 49 [l0, l1] st G h k := E_goto (by rfl)
theorem e18_48 : zE 18 d Q 48 [l0, l1] st G h k ↔ zE 18 d Q 49 [l0, l1] (zI 5 :: st) G h k := E_iconst (by rfl)
theorem e18_49 : zE 18 d Q 49 [l0, l1] [zI x] G h k ↔ Q (some (zI x)) G h := E_iret (by rfl) rfl
theorem e19_0 : zE 19 d Q 0 [some (.inr (.inr w9)), l1, l2] st G h k ↔ zE 19 d Q 1 [some (.inr (.inr w9)), l1, l2] (.inr (.inr w9) :: st) G h k := E_aload_n (by rfl) rfl
theorem e19_1 : zE 19 d Q 1 [l0, l1, l2] (zR (some r) :: st) G h k ↔ (G.2.1 r = 3 ∧ zE 19 d Q 4 [l0, l1, l2] (zI (h r 5) :: st) G h k) := E_getI (by rfl) (by decide)
theorem e19_4 : zE 19 d Q 4 [l0, l1, l2] st G h k ↔ zE 19 d Q 5 [l0, l1, l2] (zI 1 :: st) G h k := E_iconst (by rfl)
theorem e19_5 : zE 19 d Q 5 [l0, l1, l2] (zI y :: zI x :: st) G h k ↔ ((¬ x = y → zE 19 d Q 19 [l0, l1, l2] st G h k) ∧ (¬ (¬ x = y) → zE 19 d Q 8 [l0, l1, l2] st G h k)) := E_icmp_ne (by rfl)
theorem e19_8 : zE 19 d Q 8 [some (.inr (.inr w9)), l1, l2] st G h k ↔ zE 19 d Q 9 [some (.inr (.inr w9)), l1, l2] (.inr (.inr w9) :: st) G h k := E_aload_n (by rfl) rfl
theorem e19_9 : zE 19 d Q 9 [l0, l1, l2] (zR (some r) :: st) G h k ↔ (G.2.1 r = 3 ∧ zE 19 d Q 12 [l0, l1, l2] (zI (h r 7) :: st) G h k) := E_getI (by rfl) (by decide)
theorem e19_12 : zE 19 d Q 12 [l0, some (.inr (.inr w9)), l2] st G h k ↔ zE 19 d Q 13 [l0, some (.inr (.inr w9)), l2] (.inr (.inr w9) :: st) G h k := E_aload_n (by rfl) rfl
theorem e19_13 : zE 19 d Q 13 [l0, l1, l2] (zT q :: st) G h k ↔ (zsum st ≤ 8 ∧ q < 16 ∧ zE 19 d Q 16 [l0, l1, l2] (zI ((zstr.getD q []).length) :: st) G h k) := E_strlen2 (by rfl) rfl
theorem e19_16 : zE 19 d Q 16 [l0, l1, l2] (zI y :: zI x :: st) G h k ↔ ((x = y → zE 19 d Q 21 [l0, l1, l2] st G h k) ∧ (¬ (x = y) → zE 19 d Q 19 [l0, l1, l2] st G h k)) := E_icmp_eq (by rfl)
theorem e19_19 : zE 19 d Q 19 [l0, l1, l2] st G h k ↔ zE 19 d Q 20 [l0, l1, l2] (zI 0 :: st) G h k := E_iconst (by rfl)
theorem e19_20 : zE 19 d Q 20 [l0, l1, l2] [zI x] G h k ↔ ((x = 0 ∨ x = 1) ∧ Q (some (zI x)) G h) := E_zret (by rfl) rfl
theorem e19_21 : zE 19 d Q 21 [l0, l1, l2] st G h k ↔ zE 19 d Q 22 [l0, l1, l2] (zI 0 :: st) G h k := E_iconst (by rfl)
theorem e19_22 : zE 19 d Q 22 [l0, l1, l2] (zI x :: st) G h k ↔ zE 19 d Q 23 [l0, (zclr l1), some (zI x)] st G h k := E_istore_n (by rfl) (by decide)
theorem e19_23 : zE 19 d Q 23 [l0, l1, some (zI x)] st G h k ↔ zE 19 d Q 24 [l0, l1, some (zI x)] (zI x :: st) G h k := E_iload_n (by rfl) rfl
theorem e19_24 : zE 19 d Q 24 [some (.inr (.inr w9)), l1, l2] st G h k ↔ zE 19 d Q 25 [some (.inr (.inr w9)), l1, l2] (.inr (.inr w9) :: st) G h k := E_aload_n (by rfl) rfl
theorem e19_25 : zE 19 d Q 25 [l0, l1, l2] (zR (some r) :: st) G h k ↔ (G.2.1 r = 3 ∧ zE 19 d Q 28 [l0, l1, l2] (zI (h r 7) :: st) G h k) := E_getI (by rfl) (by decide)
theorem e19_28 : zE 19 d Q 28 [l0, l1, l2] (zI y :: zI x :: st) G h k ↔ ((y ≤ x → zE 19 d Q 58 [l0, l1, l2] st G h k) ∧ (¬ (y ≤ x) → zE 19 d Q 31 [l0, l1, l2] st G h k)) := E_icmp_ge (by rfl)
theorem e19_31 : zE 19 d Q 31 [some (.inr (.inr w9)), l1, l2] st G h k ↔ zE 19 d Q 32 [some (.inr (.inr w9)), l1, l2] (.inr (.inr w9) :: st) G h k := E_aload_n (by rfl) rfl
theorem e19_32 : zE 19 d Q 32 [l0, l1, l2] (zR (some r) :: st) G h k ↔ (G.2.1 r = 3 ∧ zE 19 d Q 35 [l0, l1, l2] (zR (G.2.2.2 r 2) :: st) G h k) := E_getR (by rfl) rfl
theorem e19_35 : zE 19 d Q 35 [some (.inr (.inr w9)), l1, l2] st G h k ↔ zE 19 d Q 36 [some (.inr (.inr w9)), l1, l2] (.inr (.inr w9) :: st) G h k := E_aload_n (by rfl) rfl
theorem e19_36 : zE 19 d Q 36 [l0, l1, l2] (zR (some r) :: st) G h k ↔ (G.2.1 r = 3 ∧ zE 19 d Q 39 [l0, l1, l2] (zI (h r 6) :: st) G h k) := E_getI (by rfl) (by decide)
theorem e19_39 : zE 19 d Q 39 [l0, l1, some (zI x)] st G h k ↔ zE 19 d Q 40 [l0, l1, some (zI x)] (zI x :: st) G h k := E_iload_n (by rfl) rfl
theorem e19_40 : zE 19 d Q 40 [l0, l1, l2] (zI y :: zI x :: st) G h k ↔ zE 19 d Q 41 [l0, l1, l2] (zI (wr (x + y)) :: st) G h k := E_iadd (by rfl)
theorem e19_41 : zE 19 d Q 41 [l0, l1, l2] (zI i :: zR (some r) :: st) G h k ↔ (G.2.1 r = 12 ∧ (0 ≤ i ∧ i < G.2.2.1 r) ∧ zE 19 d Q 42 [l0, l1, l2] (zI (h r i.toNat) :: st) G h k) := E_baload (by rfl) (by decide)
theorem e19_42 : zE 19 d Q 42 [l0, some (.inr (.inr w9)), l2] st G h k ↔ zE 19 d Q 43 [l0, some (.inr (.inr w9)), l2] (.inr (.inr w9) :: st) G h k := E_aload_n (by rfl) rfl
theorem e19_43 : zE 19 d Q 43 [l0, l1, some (zI x)] st G h k ↔ zE 19 d Q 44 [l0, l1, some (zI x)] (zI x :: st) G h k := E_iload_n (by rfl) rfl
theorem e19_44 : zE 19 d Q 44 [l0, l1, l2] (zI i :: zT q :: st) G h k ↔ (zsum st ≤ 8 ∧ q < 16 ∧ (0 ≤ i ∧ i < (zstr.getD q []).length) ∧ zE 19 d Q 47 [l0, l1, l2] (zI ((zstr.getD q []).getD i.toNat 0) :: st) G h k) := E_strat2 (by rfl) rfl
theorem e19_47 : zE 19 d Q 47 [l0, l1, l2] (zI y :: zI x :: st) G h k ↔ ((x = y → zE 19 d Q 52 [l0, l1, l2] st G h k) ∧ (¬ (x = y) → zE 19 d Q 50 [l0, l1, l2] st G h k)) := E_icmp_eq (by rfl)
theorem e19_50 : zE 19 d Q 50 [l0, l1, l2] st G h k ↔ zE 19 d Q 51 [l0, l1, l2] (zI 0 :: st) G h k := E_iconst (by rfl)
theorem e19_51 : zE 19 d Q 51 [l0, l1, l2] [zI x] G h k ↔ ((x = 0 ∨ x = 1) ∧ Q (some (zI x)) G h) := E_zret (by rfl) rfl
theorem e19_52 : zE 19 d Q 52 [l0, l1, some (zI x)] st G h k ↔ zE 19 d Q 55 [l0, (zclr l1), some (zI (wr (x + 1)))] st G h k := E_iinc (by rfl) rfl
theorem e19_55 : zE 19 d Q 55 [l0, l1, l2] st G h k ↔ zE 19 d Q 23 [l0, l1, l2] st G h k := E_goto (by rfl)
theorem e19_58 : zE 19 d Q 58 [l0, l1, l2] st G h k ↔ zE 19 d Q 59 [l0, l1, l2] (zI 1 :: st) G h k := E_iconst (by rfl)
theorem e19_59 : zE 19 d Q 59 [l0, l1, l2] [zI x] G h k ↔ ((x = 0 ∨ x = 1) ∧ Q (some (zI x)) G h) := E_zret (by rfl) rfl
theorem e20_0 : zE 20 d Q 0 [l0, some (.inr (.inr w9)), l2] st G h k ↔ zE 20 d Q 1 [l0, some (.inr (.inr w9)), l2] (.inr (.inr w9) :: st) G h k := E_aload_n (by rfl) rfl
theorem e20_1 : zE 20 d Q 1 [l0, l1, l2] (zR (some r) :: st) G h k ↔ (G.2.1 r = 5 ∧ zE 20 d Q 4 [l0, l1, l2] (zI (h r 9) :: st) G h k) := E_getI (by rfl) (by decide)
theorem e20_4 : zE 20 d Q 4 [l0, l1, l2] (zI x :: st) G h k ↔ zE 20 d Q 5 [l0, (zclr l1), some (zI x)] st G h k := E_istore_n (by rfl) (by decide)
theorem e20_5 : zE 20 d Q 5 [l0, l1, some (zI x)] st G h k ↔ zE 20 d Q 6 [l0, l1, some (zI x)] (zI x :: st) G h k := E_iload_n (by rfl) rfl
theorem e20_6 : zE 20 d Q 6 [l0, l1, l2] st G h k ↔ zE 20 d Q 7 [l0, l1, l2] (zI 3 :: st) G h k := E_iconst (by rfl)
theorem e20_7 : zE 20 d Q 7 [l0, l1, l2] (zI y :: zI x :: st) G h k ↔ ((x < y → zE 20 d Q 20 [l0, l1, l2] st G h k) ∧ (¬ (x < y) → zE 20 d Q 10 [l0, l1, l2] st G h k)) := E_icmp_lt (by rfl)
theorem e20_10 : zE 20 d Q 10 [some (.inr (.inr w9)), l1, l2] st G h k ↔ zE 20 d Q 11 [some (.inr (.inr w9)), l1, l2] (.inr (.inr w9) :: st) G h k := E_aload_n (by rfl) rfl
theorem e20_11 : zE 20 d Q 11 [l0, l1, l2] st G h k ↔ zE 20 d Q 12 [l0, l1, l2] (zI 5 :: st) G h k := E_iconst (by rfl)
theorem e20_12 : zE 20 d Q 12 [some (.inr (.inr w9)), l1, l2] st G h k ↔ zE 20 d Q 13 [some (.inr (.inr w9)), l1, l2] (.inr (.inr w9) :: st) G h k := E_aload_n (by rfl) rfl
theorem e20_13 : zE 20 d Q 13 [l0, l1, l2] (zR (some r) :: st) G h k ↔ (G.2.1 r = 3 ∧ zE 20 d Q 16 [l0, l1, l2] (zI (h r 6) :: st) G h k) := E_getI (by rfl) (by decide)
theorem e20_16 : zE 20 d Q 16 [l0, l1, l2] (v1 :: v0 :: zR (some r) :: st) G h k ↔ (zsum st ≤ 8 ∧ G.2.1 r = 3 ∧ zRunD ztb zmt' d 16 [zR (some r), v0, v1] G h (fun v G' h' => zE 20 d Q 19 [l0, l1, l2] (v.toList ++ st) G' h' k)) := E_invV2z (by rfl) (by decide) rfl
theorem e20_19 : zE 20 d Q 19 [l0, l1, l2] [] G h k ↔ Q none G h := E_vret (by rfl) rfl
theorem e20_20 : zE 20 d Q 20 [some (.inr (.inr w9)), l1, l2] st G h k ↔ zE 20 d Q 21 [some (.inr (.inr w9)), l1, l2] (.inr (.inr w9) :: st) G h k := E_aload_n (by rfl) rfl
theorem e20_21 : zE 20 d Q 21 [l0, l1, l2] (zR (some r) :: st) G h k ↔ (zsum st ≤ 8 ∧ G.2.1 r = 3 ∧ zRunD ztb zmt' d 17 [zR (some r)] G h (fun v G' h' => zE 20 d Q 24 [l0, l1, l2] (v.toList ++ st) G' h' k)) := E_invV2z (by rfl) (by decide) rfl
theorem e20_24 : zE 20 d Q 24 [some (.inr (.inr w9)), l1, l2] st G h k ↔ zE 20 d Q 25 [some (.inr (.inr w9)), l1, l2] (.inr (.inr w9) :: st) G h k := E_aload_n (by rfl) rfl
theorem e20_25 : zE 20 d Q 25 [l0, l1, l2] (zR (some r) :: st) G h k ↔ (zsum st ≤ 8 ∧ G.2.1 r = 3 ∧ zRunD ztb zmt' d 25 [zR (some r)] G h (fun v G' h' => zE 20 d Q 28 [l0, l1, l2] (v.toList ++ st) G' h' k)) := E_invV2z (by rfl) (by decide) rfl
theorem e20_28 : zE 20 d Q 28 [l0, some (.inr (.inr w9)), l2] st G h k ↔ zE 20 d Q 29 [l0, some (.inr (.inr w9)), l2] (.inr (.inr w9) :: st) G h k := E_aload_n (by rfl) rfl
theorem e20_29 : zE 20 d Q 29 [l0, l1, l2] (zR (some r) :: st) G h k ↔ (G.2.1 r = 5 ∧ zE 20 d Q 32 [l0, l1, l2] (zR (G.2.2.2 r 0) :: st) G h k) := E_getR (by rfl) rfl
theorem e20_32 : zE 20 d Q 32 [l0, l1, some (zI x)] st G h k ↔ zE 20 d Q 33 [l0, l1, some (zI x)] (zI x :: st) G h k := E_iload_n (by rfl) rfl
theorem e20_33 : zE 20 d Q 33 [some (.inr (.inr w9)), l1, l2] st G h k ↔ zE 20 d Q 34 [some (.inr (.inr w9)), l1, l2] (.inr (.inr w9) :: st) G h k := E_aload_n (by rfl) rfl
theorem e20_34 : zE 20 d Q 34 [l0, l1, l2] st G h k ↔ zE 20 d Q 36 [l0, l1, l2] (zT 4 :: st) G h k := E_ldcS (by rfl) (by decide)
theorem e20_36 : zE 20 d Q 36 [l0, l1, l2] st G h k ↔ zE 20 d Q 38 [l0, l1, l2] (zI 99 :: st) G h k := E_bipush (by rfl)
theorem e21_0 : zE 21 d Q 0 [l0, some (.inr (.inr w9)), l2] st G h k ↔ zE 21 d Q 1 [l0, some (.inr (.inr w9)), l2] (.inr (.inr w9) :: st) G h k := E_aload_n (by rfl) rfl
theorem e21_1 : zE 21 d Q 1 [l0, l1, l2] (zR (some r) :: st) G h k ↔ (G.2.1 r = 5 ∧ zE 21 d Q 4 [l0, l1, l2] (zI (h r 10) :: st) G h k) := E_getI (by rfl) (by decide)
theorem e21_4 : zE 21 d Q 4 [l0, l1, l2] (zI x :: st) G h k ↔ zE 21 d Q 5 [l0, (zclr l1), some (zI x)] st G h k := E_istore_n (by rfl) (by decide)
theorem e21_5 : zE 21 d Q 5 [l0, l1, some (zI x)] st G h k ↔ zE 21 d Q 6 [l0, l1, some (zI x)] (zI x :: st) G h k := E_iload_n (by rfl) rfl
theorem e21_6 : zE 21 d Q 6 [l0, l1, l2] st G h k ↔ zE 21 d Q 7 [l0, l1, l2] (zI 4 :: st) G h k := E_iconst (by rfl)
theorem e21_7 : zE 21 d Q 7 [l0, l1, l2] (zI y :: zI x :: st) G h k ↔ ((x < y → zE 21 d Q 20 [l0, l1, l2] st G h k) ∧ (¬ (x < y) → zE 21 d Q 10 [l0, l1, l2] st G h k)) := E_icmp_lt (by rfl)
theorem e21_10 : zE 21 d Q 10 [some (.inr (.inr w9)), l1, l2] st G h k ↔ zE 21 d Q 11 [some (.inr (.inr w9)), l1, l2] (.inr (.inr w9) :: st) G h k := E_aload_n (by rfl) rfl
theorem e21_11 : zE 21 d Q 11 [l0, l1, l2] st G h k ↔ zE 21 d Q 12 [l0, l1, l2] (zI 5 :: st) G h k := E_iconst (by rfl)
theorem e21_12 : zE 21 d Q 12 [some (.inr (.inr w9)), l1, l2] st G h k ↔ zE 21 d Q 13 [some (.inr (.inr w9)), l1, l2] (.inr (.inr w9) :: st) G h k := E_aload_n (by rfl) rfl
theorem e21_13 : zE 21 d Q 13 [l0, l1, l2] (zR (some r) :: st) G h k ↔ (G.2.1 r = 3 ∧ zE 21 d Q 16 [l0, l1, l2] (zI (h r 6) :: st) G h k) := E_getI (by rfl) (by decide)
theorem e21_16 : zE 21 d Q 16 [l0, l1, l2] (v1 :: v0 :: zR (some r) :: st) G h k ↔ (zsum st ≤ 8 ∧ G.2.1 r = 3 ∧ zRunD ztb zmt' d 16 [zR (some r), v0, v1] G h (fun v G' h' => zE 21 d Q 19 [l0, l1, l2] (v.toList ++ st) G' h' k)) := E_invV2z (by rfl) (by decide) rfl
theorem e21_19 : zE 21 d Q 19 [l0, l1, l2] [] G h k ↔ Q none G h := E_vret (by rfl) rfl
theorem e21_20 : zE 21 d Q 20 [some (.inr (.inr w9)), l1, l2] st G h k ↔ zE 21 d Q 21 [some (.inr (.inr w9)), l1, l2] (.inr (.inr w9) :: st) G h k := E_aload_n (by rfl) rfl
theorem e21_21 : zE 21 d Q 21 [l0, l1, l2] (zR (some r) :: st) G h k ↔ (zsum st ≤ 8 ∧ G.2.1 r = 3 ∧ zRunD ztb zmt' d 17 [zR (some r)] G h (fun v G' h' => zE 21 d Q 24 [l0, l1, l2] (v.toList ++ st) G' h' k)) := E_invV2z (by rfl) (by decide) rfl
theorem e21_24 : zE 21 d Q 24 [some (.inr (.inr w9)), l1, l2] st G h k ↔ zE 21 d Q 25 [some (.inr (.inr w9)), l1, l2] (.inr (.inr w9) :: st) G h k := E_aload_n (by rfl) rfl
theorem e21_25 : zE 21 d Q 25 [l0, l1, l2] (zR (some r) :: st) G h k ↔ (zsum st ≤ 8 ∧ G.2.1 r = 3 ∧ zRunD ztb zmt' d 25 [zR (some r)] G h (fun v G' h' => zE 21 d Q 28 [l0, l1, l2] (v.toList ++ st) G' h' k)) := E_invV2z (by rfl) (by decide) rfl
theorem e21_28 : zE 21 d Q 28 [l0, some (.inr (.inr w9)), l2] st G h k ↔ zE 21 d Q 29 [l0, some (.inr (.inr w9)), l2] (.inr (.inr w9) :: st) G h k := E_aload_n (by rfl) rfl
theorem e21_29 : zE 21 d Q 29 [l0, l1, l2] (zR (some r) :: st) G h k ↔ (G.2.1 r = 5 ∧ zE 21 d Q 32 [l0, l1, l2] (zR (G.2.2.2 r 3) :: st) G h k) := E_getR (by rfl) rfl
theorem e21_32 : zE 21 d Q 32 [l0, l1, some (zI x)] st G h k ↔ zE 21 d Q 33 [l0, l1, some (zI x)] (zI x :: st) G h k := E_iload_n (by rfl) rfl
theorem e21_33 : zE 21 d Q 33 [some (.inr (.inr w9)), l1, l2] st G h k ↔ zE 21 d Q 34 [some (.inr (.inr w9)), l1, l2] (.inr (.inr w9) :: st) G h k := E_aload_n (by rfl) rfl
theorem e21_34 : zE 21 d Q 34 [l0, l1, l2] st G h k ↔ zE 21 d Q 36 [l0, l1, l2] (zT 7 :: st) G h k := E_ldcS (by rfl) (by decide)
theorem e21_36 : zE 21 d Q 36 [l0, l1, l2] st G h k ↔ zE 21 d Q 38 [l0, l1, l2] (zI 99 :: st) G h k := E_bipush (by rfl)
theorem e22_0 : zE 22 d Q 0 [some (.inr (.inr w9)), l1, l2] st G h k ↔ zE 22 d Q 1 [some (.inr (.inr w9)), l1, l2] (.inr (.inr w9) :: st) G h k := E_aload_n (by rfl) rfl
theorem e22_1 : zE 22 d Q 1 [l0, l1, l2] (zR (some r) :: st) G h k ↔ (G.2.1 r = 3 ∧ zE 22 d Q 4 [l0, l1, l2] (zI (h r 12) :: st) G h k) := E_getI (by rfl) (by decide)
theorem e22_4 : zE 22 d Q 4 [l0, l1, l2] (zI x :: st) G h k ↔ ((x = 0 → zE 22 d Q 17 [l0, l1, l2] st G h k) ∧ (¬ (x = 0) → zE 22 d Q 7 [l0, l1, l2] st G h k)) := E_if_eq (by rfl)
theorem e22_7 : zE 22 d Q 7 [some (.inr (.inr w9)), l1, l2] st G h k ↔ zE 22 d Q 8 [some (.inr (.inr w9)), l1, l2] (.inr (.inr w9) :: st) G h k := E_aload_n (by rfl) rfl
theorem e22_8 : zE 22 d Q 8 [l0, l1, l2] st G h k ↔ zE 22 d Q 9 [l0, l1, l2] (zI 3 :: st) G h k := E_iconst (by rfl)
theorem e22_9 : zE 22 d Q 9 [some (.inr (.inr w9)), l1, l2] st G h k ↔ zE 22 d Q 10 [some (.inr (.inr w9)), l1, l2] (.inr (.inr w9) :: st) G h k := E_aload_n (by rfl) rfl
theorem e22_10 : zE 22 d Q 10 [l0, l1, l2] (zR (some r) :: st) G h k ↔ (G.2.1 r = 3 ∧ zE 22 d Q 13 [l0, l1, l2] (zI (h r 6) :: st) G h k) := E_getI (by rfl) (by decide)
theorem e22_13 : zE 22 d Q 13 [l0, l1, l2] (v1 :: v0 :: zR (some r) :: st) G h k ↔ (zsum st ≤ 8 ∧ G.2.1 r = 3 ∧ zRunD ztb zmt' d 16 [zR (some r), v0, v1] G h (fun v G' h' => zE 22 d Q 16 [l0, l1, l2] (v.toList ++ st) G' h' k)) := E_invV2z (by rfl) (by decide) rfl
theorem e22_16 : zE 22 d Q 16 [l0, l1, l2] [] G h k ↔ Q none G h := E_vret (by rfl) rfl
theorem e22_17 : zE 22 d Q 17 [some (.inr (.inr w9)), l1, l2] st G h k ↔ zE 22 d Q 18 [some (.inr (.inr w9)), l1, l2] (.inr (.inr w9) :: st) G h k := E_aload_n (by rfl) rfl
theorem e22_18 : zE 22 d Q 18 [l0, l1, l2] st G h k ↔ zE 22 d Q 19 [l0, l1, l2] (zI 1 :: st) G h k := E_iconst (by rfl)
theorem e22_19 : zE 22 d Q 19 [l0, l1, l2] (zI x :: zR (some r) :: st) G h k ↔ (G.2.1 r = 3 ∧ (x = 0 ∨ x = 1) ∧ zE 22 d Q 22 [l0, l1, l2] st G (zu h r 12 x) k) := E_putZ (by rfl) rfl
theorem e22_22 : zE 22 d Q 22 [some (.inr (.inr w9)), l1, l2] st G h k ↔ zE 22 d Q 23 [some (.inr (.inr w9)), l1, l2] (.inr (.inr w9) :: st) G h k := E_aload_n (by rfl) rfl
theorem e22_23 : zE 22 d Q 23 [l0, l1, l2] (zR (some r) :: st) G h k ↔ (zsum st ≤ 8 ∧ G.2.1 r = 3 ∧ zRunD ztb zmt' d 17 [zR (some r)] G h (fun v G' h' => zE 22 d Q 26 [l0, l1, l2] (v.toList ++ st) G' h' k)) := E_invV2z (by rfl) (by decide) rfl
theorem e22_26 : zE 22 d Q 26 [l0, some (.inr (.inr w9)), l2] st G h k ↔ zE 22 d Q 27 [l0, some (.inr (.inr w9)), l2] (.inr (.inr w9) :: st) G h k := E_aload_n (by rfl) rfl
theorem e22_27 : zE 22 d Q 27 [some (.inr (.inr w9)), l1, l2] st G h k ↔ zE 22 d Q 28 [some (.inr (.inr w9)), l1, l2] (.inr (.inr w9) :: st) G h k := E_aload_n (by rfl) rfl
theorem e22_28 : zE 22 d Q 28 [l0, l1, l2] st G h k ↔ zE 22 d Q 30 [l0, l1, l2] (zT 13 :: st) G h k := E_ldcS (by rfl) (by decide)
theorem e22_30 : zE 22 d Q 30 [l0, l1, l2] st G h k ↔ zE 22 d Q 32 [l0, l1, l2] (zT 14 :: st) G h k := E_ldcS (by rfl) (by decide)
theorem e22_32 : zE 22 d Q 32 [l0, l1, l2] (v1 :: v0 :: zR (some r) :: st) G h k ↔ (zsum st ≤ 8 ∧ G.2.1 r = 3 ∧ zRunD ztb zmt' d 29 [zR (some r), v0, v1] G h (fun v G' h' => zE 22 d Q 35 [l0, l1, l2] (v.toList ++ st) G' h' k)) := E_invV2z (by rfl) (by decide) rfl
theorem e22_35 : zE 22 d Q 35 [l0, l1, l2] (zI x :: zR (some r) :: st) G h k ↔ (G.2.1 r = 5 ∧ zE 22 d Q 38 [l0, l1, l2] st G (zu h r 12 x) k) := E_putI (by rfl) rfl
theorem e22_38 : zE 22 d Q 38 [some (.inr (.inr w9)), l1, l2] st G h k ↔ zE 22 d Q 39 [some (.inr (.inr w9)), l1, l2] (.inr (.inr w9) :: st) G h k := E_aload_n (by rfl) rfl
theorem e22_39 : zE 22 d Q 39 [l0, some (.inr (.inr w9)), l2] st G h k ↔ zE 22 d Q 40 [l0, some (.inr (.inr w9)), l2] (.inr (.inr w9) :: st) G h k := E_aload_n (by rfl) rfl
theorem e22_40 : zE 22 d Q 40 [l0, l1, l2] (v0 :: zR (some r) :: st) G h k ↔ (zsum st ≤ 8 ∧ G.2.1 r = 3 ∧ zRunD ztb zmt' d 23 [zR (some r), v0] G h (fun v G' h' => zE 22 d Q 43 [l0, l1, l2] (v.toList ++ st) G' h' k)) := E_invV2z (by rfl) (by decide) rfl
theorem e22_43 : zE 22 d Q 43 [l0, l1, l2] st G h k ↔ zE 22 d Q 44 [l0, l1, l2] (zI 0 :: st) G h k := E_iconst (by rfl)
theorem e22_44 : zE 22 d Q 44 [l0, l1, l2] (zI x :: st) G h k ↔ zE 22 d Q 45 [l0, (zclr l1), some (zI x)] st G h k := E_istore_n (by rfl) (by decide)
theorem e22_45 : zE 22 d Q 45 [l0, l1, some (zI x)] st G h k ↔ zE 22 d Q 46 [l0, l1, some (zI x)] (zI x :: st) G h k := E_iload_n (by rfl) rfl
theorem e22_46 : zE 22 d Q 46 [l0, l1, l2] st G h k ↔ zE 22 d Q 49 [l0, l1, l2] (zI 700 :: st) G h k := E_sipush (by rfl)
theorem e22_49 : zE 22 d Q 49 [l0, l1, l2] (zI y :: zI x :: st) G h k ↔ ((y ≤ x → zE 22 d Q 82 [l0, l1, l2] st G h k) ∧ (¬ (y ≤ x) → zE 22 d Q 52 [l0, l1, l2] st G h k)) := E_icmp_ge (by rfl)
theorem e22_52 : zE 22 d Q 52 [some (.inr (.inr w9)), l1, l2] st G h k ↔ zE 22 d Q 53 [some (.inr (.inr w9)), l1, l2] (.inr (.inr w9) :: st) G h k := E_aload_n (by rfl) rfl
theorem e22_53 : zE 22 d Q 53 [l0, l1, l2] (zR (some r) :: st) G h k ↔ (G.2.1 r = 3 ∧ zE 22 d Q 56 [l0, l1, l2] (zI (h r 1) :: st) G h k) := E_getI (by rfl) (by decide)
theorem e22_56 : zE 22 d Q 56 [l0, l1, l2] (zI x :: st) G h k ↔ ((¬ x = 0 → zE 22 d Q 82 [l0, l1, l2] st G h k) ∧ (¬ (¬ x = 0) → zE 22 d Q 59 [l0, l1, l2] st G h k)) := E_if_ne (by rfl)
theorem e22_59 : zE 22 d Q 59 [some (.inr (.inr w9)), l1, l2] st G h k ↔ zE 22 d Q 60 [some (.inr (.inr w9)), l1, l2] (.inr (.inr w9) :: st) G h k := E_aload_n (by rfl) rfl
theorem e22_60 : zE 22 d Q 60 [l0, l1, l2] (zR (some r) :: st) G h k ↔ (G.2.1 r = 3 ∧ zE 22 d Q 63 [l0, l1, l2] (zI (h r 5) :: st) G h k) := E_getI (by rfl) (by decide)
theorem e22_63 : zE 22 d Q 63 [l0, l1, l2] st G h k ↔ zE 22 d Q 64 [l0, l1, l2] (zI 4 :: st) G h k := E_iconst (by rfl)
theorem e22_64 : zE 22 d Q 64 [l0, l1, l2] (zI y :: zI x :: st) G h k ↔ ((¬ x = y → zE 22 d Q 82 [l0, l1, l2] st G h k) ∧ (¬ (¬ x = y) → zE 22 d Q 67 [l0, l1, l2] st G h k)) := E_icmp_ne (by rfl)
theorem e22_67 : zE 22 d Q 67 [some (.inr (.inr w9)), l1, l2] st G h k ↔ zE 22 d Q 68 [some (.inr (.inr w9)), l1, l2] (.inr (.inr w9) :: st) G h k := E_aload_n (by rfl) rfl
theorem e22_68 : zE 22 d Q 68 [l0, l1, l2] (zR (some r) :: st) G h k ↔ (zsum st ≤ 8 ∧ G.2.1 r = 3 ∧ zRunD ztb zmt' d 17 [zR (some r)] G h (fun v G' h' => zE 22 d Q 71 [l0, l1, l2] (v.toList ++ st) G' h' k)) := E_invV2z (by rfl) (by decide) rfl
theorem e22_71 : zE 22 d Q 71 [some (.inr (.inr w9)), l1, l2] st G h k ↔ zE 22 d Q 72 [some (.inr (.inr w9)), l1, l2] (.inr (.inr w9) :: st) G h k := E_aload_n (by rfl) rfl
theorem e22_72 : zE 22 d Q 72 [l0, some (.inr (.inr w9)), l2] st G h k ↔ zE 22 d Q 73 [l0, some (.inr (.inr w9)), l2] (.inr (.inr w9) :: st) G h k := E_aload_n (by rfl) rfl
theorem e22_73 : zE 22 d Q 73 [l0, l1, l2] (v0 :: zR (some r) :: st) G h k ↔ (zsum st ≤ 8 ∧ G.2.1 r = 3 ∧ zRunD ztb zmt' d 23 [zR (some r), v0] G h (fun v G' h' => zE 22 d Q 76 [l0, l1, l2] (v.toList ++ st) G' h' k)) := E_invV2z (by rfl) (by decide) rfl
theorem e22_76 : zE 22 d Q 76 [l0, l1, some (zI x)] st G h k ↔ zE 22 d Q 79 [l0, (zclr l1), some (zI (wr (x + 1)))] st G h k := E_iinc (by rfl) rfl
theorem e22_79 : zE 22 d Q 79 [l0, l1, l2] st G h k ↔ zE 22 d Q 45 [l0, l1, l2] st G h k := E_goto (by rfl)
theorem e22_82 : zE 22 d Q 82 [l0, l1, l2] [] G h k ↔ Q none G h := E_vret (by rfl) rfl
end SITES
