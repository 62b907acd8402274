section SITES
variable {d : Nat} {Q : zQ} {st : List zV} {G : zG} {h : zM} {k : zK} {x y i : Int} {r r1 r2 q : Nat} {w9 : Option Nat ⊕ Nat} {q9 : Option Nat} {v0 v1 v2 v3 v4 : zV} {l0 l1 l2 l3 l4 l5 l6 l7 l8 l9 l10 l11 l12 l13 l14 l15 : Option zV}
theorem e44_0 : zE 44 d Q 0 [some (.inr (.inr w9)), l1, l2, l3] st G h k ↔ zE 44 d Q 1 [some (.inr (.inr w9)), l1, l2, l3] (.inr (.inr w9) :: st) G h k := E_aload_n (by rfl) rfl
theorem e44_1 : zE 44 d Q 1 [l0, l1, l2, l3] st G h k ↔ zE 44 d Q 2 [l0, l1, l2, l3] (zI 1 :: st) G h k := E_iconst (by rfl)
theorem e44_2 : zE 44 d Q 2 [l0, l1, l2, l3] (v0 :: zR (some r) :: st) G h k ↔ (zsum st ≤ 8 ∧ G.2.1 r = 4 ∧ zRunD ztb zmt' d 40 [zR (some r), v0] G h (fun v G' h' => zE 44 d Q 5 [l0, l1, l2, l3] (v.toList ++ st) G' h' k)) := E_invV2z (by rfl) (by decide) rfl
theorem e44_5 : zE 44 d Q 5 [l0, l1, l2, l3] (zI x :: st) G h k ↔ zE 44 d Q 6 [(zclr l0), some (zI x), l2, l3] st G h k := E_istore_n (by rfl) (by decide)
theorem e44_6 : zE 44 d Q 6 [l0, l1, l2, l3] st G h k ↔ zE 44 d Q 7 [l0, l1, l2, l3] (zI 0 :: st) G h k := E_iconst (by rfl)
theorem e44_7 : zE 44 d Q 7 [l0, l1, l2, l3] (zI x :: st) G h k ↔ zE 44 d Q 8 [l0, (zclr l1), some (zI x), l3] st G h k := E_istore_n (by rfl) (by decide)
theorem e44_8 : zE 44 d Q 8 [l0, l1, some (zI x), l3] st G h k ↔ zE 44 d Q 9 [l0, l1, some (zI x), l3] (zI x :: st) G h k := E_iload_n (by rfl) rfl
theorem e44_9 : zE 44 d Q 9 [some (.inr (.inr w9)), l1, l2, l3] st G h k ↔ zE 44 d Q 10 [some (.inr (.inr w9)), l1, l2, l3] (.inr (.inr w9) :: st) G h k := E_aload_n (by rfl) rfl
theorem e44_10 : zE 44 d Q 10 [l0, l1, l2, l3] (zR (some r) :: st) G h k ↔ (G.2.1 r = 4 ∧ zE 44 d Q 13 [l0, l1, l2, l3] (zR (G.2.2.2 r 2) :: st) G h k) := E_getR (by rfl) rfl
theorem e44_13 : zE 44 d Q 13 [l0, l1, l2, l3] (zR (some r) :: st) G h k ↔ (G.2.1 r = 5 ∧ zE 44 d Q 16 [l0, l1, l2, l3] (zI (h r 9) :: st) G h k) := E_getI (by rfl) (by decide)
theorem e44_16 : zE 44 d Q 16 [l0, l1, l2, l3] (zI y :: zI x :: st) G h k ↔ ((y ≤ x → zE 44 d Q 53 [l0, l1, l2, l3] st G h k) ∧ (¬ (y ≤ x) → zE 44 d Q 19 [l0, l1, l2, l3] st G h k)) := E_icmp_ge (by rfl)
theorem e44_19 : zE 44 d Q 19 [some (.inr (.inr w9)), l1, l2, l3] st G h k ↔ zE 44 d Q 20 [some (.inr (.inr w9)), l1, l2, l3] (.inr (.inr w9) :: st) G h k := E_aload_n (by rfl) rfl
theorem e44_20 : zE 44 d Q 20 [l0, some (zI x), l2, l3] st G h k ↔ zE 44 d Q 21 [l0, some (zI x), l2, l3] (zI x :: st) G h k := E_iload_n (by rfl) rfl
theorem e44_21 : zE 44 d Q 21 [l0, l1, some (zI x), l3] st G h k ↔ zE 44 d Q 22 [l0, l1, some (zI x), l3] (zI x :: st) G h k := E_iload_n (by rfl) rfl
theorem e44_22 : zE 44 d Q 22 [l0, l1, l2, l3] (v1 :: v0 :: zR (some r) :: st) G h k ↔ (zsum st ≤ 8 ∧ G.2.1 r = 4 ∧ zRunD ztb zmt' d 38 [zR (some r), v0, v1] G h (fun v G' h' => zE 44 d Q 25 [l0, l1, l2, l3] (v.toList ++ st) G' h' k)) := E_invV2z (by rfl) (by decide) rfl
theorem e44_25 : zE 44 d Q 25 [l0, l1, l2, l3] (zI x :: st) G h k ↔ zE 44 d Q 26 [l0, l1, (zclr l2), some (zI x)] st G h k := E_istore_n (by rfl) (by decide)
theorem e44_26 : zE 44 d Q 26 [some (.inr (.inr w9)), l1, l2, l3] st G h k ↔ zE 44 d Q 27 [some (.inr (.inr w9)), l1, l2, l3] (.inr (.inr w9) :: st) G h k := E_aload_n (by rfl) rfl
theorem e44_27 : zE 44 d Q 27 [l0, l1, l2, l3] (zR (some r) :: st) G h k ↔ (G.2.1 r = 4 ∧ zE 44 d Q 30 [l0, l1, l2, l3] (zR (G.2.2.2 r 2) :: st) G h k) := E_getR (by rfl) rfl
theorem e44_30 : zE 44 d Q 30 [l0, l1, l2, some (zI x)] st G h k ↔ zE 44 d Q 31 [l0, l1, l2, some (zI x)] (zI x :: st) G h k := E_iload_n (by rfl) rfl
theorem e44_31 : zE 44 d Q 31 [l0, l1, l2, l3] (v0 :: zR (some r) :: st) G h k ↔ (zsum st ≤ 8 ∧ G.2.1 r = 5 ∧ zRunD ztb zmt' d 50 [zR (some r), v0] G h (fun v G' h' => zE 44 d Q 34 [l0, l1, l2, l3] (v.toList ++ st) G' h' k)) := E_invV2z (by rfl) (by decide) rfl
theorem e44_34 : zE 44 d Q 34 [some (.inr (.inr w9)), l1, l2, l3] st G h k ↔ zE 44 d Q 35 [some (.inr (.inr w9)), l1, l2, l3] (.inr (.inr w9) :: st) G h k := E_aload_n (by rfl) rfl
theorem e44_35 : zE 44 d Q 35 [l0, l1, l2, l3] (zR (some r) :: st) G h k ↔ (G.2.1 r = 4 ∧ zE 44 d Q 38 [l0, l1, l2, l3] (zR (G.2.2.2 r 2) :: st) G h k) := E_getR (by rfl) rfl
theorem e44_38 : zE 44 d Q 38 [l0, l1, l2, some (zI x)] st G h k ↔ zE 44 d Q 39 [l0, l1, l2, some (zI x)] (zI x :: st) G h k := E_iload_n (by rfl) rfl
theorem e44_39 : zE 44 d Q 39 [l0, l1, l2, l3] (v0 :: zR (some r) :: st) G h k ↔ (zsum st ≤ 8 ∧ G.2.1 r = 5 ∧ zRunD ztb zmt' d 49 [zR (some r), v0] G h (fun v G' h' => zE 44 d Q 42 [l0, l1, l2, l3] (v.toList ++ st) G' h' k)) := E_invV2z (by rfl) (by decide) rfl
theorem e44_42 : zE 44 d Q 42 [l0, l1, l2, l3] (zI y :: zI x :: st) G h k ↔ ((y ≤ x → zE 44 d Q 47 [l0, l1, l2, l3] st G h k) ∧ (¬ (y ≤ x) → zE 44 d Q 45 [l0, l1, l2, l3] st G h k)) := E_icmp_ge (by rfl)
theorem e44_45 : zE 44 d Q 45 [l0, l1, l2, l3] st G h k ↔ zE 44 d Q 46 [l0, l1, l2, l3] (zI 1 :: st) G h k := E_iconst (by rfl)
theorem e44_46 : zE 44 d Q 46 [l0, l1, l2, l3] [zI x] G h k ↔ ((x = 0 ∨ x = 1) ∧ Q (some (zI x)) G h) := E_zret (by rfl) rfl
theorem e44_47 : zE 44 d Q 47 [l0, l1, some (zI x), l3] st G h k ↔ zE 44 d Q 50 [l0, (zclr l1), some (zI (wr (x + 1))), l3] st G h k := E_iinc (by rfl) rfl
theorem e44_50 : zE 44 d Q 50 [l0, l1, l2, l3] st G h k ↔ zE 44 d Q 8 [l0, l1, l2, l3] st G h k := E_goto (by rfl)
theorem e44_53 : zE 44 d Q 53 [l0, l1, l2, l3] st G h k ↔ zE 44 d Q 54 [l0, l1, l2, l3] (zI 0 :: st) G h k := E_iconst (by rfl)
theorem e44_54 : zE 44 d Q 54 [l0, l1, l2, l3] [zI x] G h k ↔ ((x = 0 ∨ x = 1) ∧ Q (some (zI x)) G h) := E_zret (by rfl) rfl
theorem e45_0 : zE 45 d Q 0 [some (.inr (.inr w9))] st G h k ↔ zE 45 d Q 1 [some (.inr (.inr w9))] (.inr (.inr w9) :: st) G h k := E_aload_n (by rfl) rfl
theorem e45_1 : zE 45 d Q 1 [l0] (zR (some r) :: []) G h k ↔ zE 45 d Q 4 [l0] [] G h k := E_objInit (by rfl) rfl (by decide)
theorem e45_4 : zE 45 d Q 4 [some (.inr (.inr w9))] st G h k ↔ zE 45 d Q 5 [some (.inr (.inr w9))] (.inr (.inr w9) :: st) G h k := E_aload_n (by rfl) rfl
theorem e45_5 : zE 45 d Q 5 [l0] st G h k ↔ zE 45 d Q 6 [l0] (zI 3 :: st) G h k := E_iconst (by rfl)
theorem e45_6 : zE 45 d Q 6 [l0] (zI i :: st) G h k ↔ (0 ≤ i ∧ i ≤ 1000000 ∧ k.1 + 1 ≤ 9 ∧ k.2 + i.toNat ≤ 32 ∧ zE 45 d Q 8 [l0] (zR (some G.1) :: st) (zgn G 10 i.toNat) (zhn h G.1) (k.1 + 1, k.2 + i.toNat)) := E_newarray (by rfl)
theorem e45_8 : zE 45 d Q 8 [l0] (zR q9 :: zR (some r) :: st) G h k ↔ (G.2.1 r = 5 ∧ zE 45 d Q 11 [l0] st (zgu G r 0 q9) h k) := E_putR (by rfl) rfl
theorem e45_11 : zE 45 d Q 11 [some (.inr (.inr w9))] st G h k ↔ zE 45 d Q 12 [some (.inr (.inr w9))] (.inr (.inr w9) :: st) G h k := E_aload_n (by rfl) rfl
theorem e45_12 : zE 45 d Q 12 [l0] st G h k ↔ zE 45 d Q 13 [l0] (zI 3 :: st) G h k := E_iconst (by rfl)
theorem e45_13 : zE 45 d Q 13 [l0] (zI i :: st) G h k ↔ (0 ≤ i ∧ i ≤ 1000000 ∧ k.1 + 1 ≤ 9 ∧ k.2 + i.toNat ≤ 32 ∧ zE 45 d Q 15 [l0] (zR (some G.1) :: st) (zgn G 10 i.toNat) (zhn h G.1) (k.1 + 1, k.2 + i.toNat)) := E_newarray (by rfl)
theorem e45_15 : zE 45 d Q 15 [l0] (zR q9 :: zR (some r) :: st) G h k ↔ (G.2.1 r = 5 ∧ zE 45 d Q 18 [l0] st (zgu G r 1 q9) h k) := E_putR (by rfl) rfl
theorem e45_18 : zE 45 d Q 18 [some (.inr (.inr w9))] st G h k ↔ zE 45 d Q 19 [some (.inr (.inr w9))] (.inr (.inr w9) :: st) G h k := E_aload_n (by rfl) rfl
theorem e45_19 : zE 45 d Q 19 [l0] st G h k ↔ zE 45 d Q 20 [l0] (zI 3 :: st) G h k := E_iconst (by rfl)
theorem e45_20 : zE 45 d Q 20 [l0] (zI i :: st) G h k ↔ (0 ≤ i ∧ i ≤ 1000000 ∧ k.1 + 1 ≤ 9 ∧ k.2 + i.toNat ≤ 32 ∧ zE 45 d Q 22 [l0] (zR (some G.1) :: st) (zgn G 10 i.toNat) (zhn h G.1) (k.1 + 1, k.2 + i.toNat)) := E_newarray (by rfl)
theorem e45_22 : zE 45 d Q 22 [l0] (zR q9 :: zR (some r) :: st) G h k ↔ (G.2.1 r = 5 ∧ zE 45 d Q 25 [l0] st (zgu G r 2 q9) h k) := E_putR (by rfl) rfl
theorem e45_25 : zE 45 d Q 25 [some (.inr (.inr w9))] st G h k ↔ zE 45 d Q 26 [some (.inr (.inr w9))] (.inr (.inr w9) :: st) G h k := E_aload_n (by rfl) rfl
theorem e45_26 : zE 45 d Q 26 [l0] st G h k ↔ zE 45 d Q 27 [l0] (zI 4 :: st) G h k := E_iconst (by rfl)
theorem e45_27 : zE 45 d Q 27 [l0] (zI i :: st) G h k ↔ (0 ≤ i ∧ i ≤ 1000000 ∧ k.1 + 1 ≤ 9 ∧ k.2 + i.toNat ≤ 32 ∧ zE 45 d Q 29 [l0] (zR (some G.1) :: st) (zgn G 10 i.toNat) (zhn h G.1) (k.1 + 1, k.2 + i.toNat)) := E_newarray (by rfl)
theorem e45_29 : zE 45 d Q 29 [l0] (zR q9 :: zR (some r) :: st) G h k ↔ (G.2.1 r = 5 ∧ zE 45 d Q 32 [l0] st (zgu G r 3 q9) h k) := E_putR (by rfl) rfl
theorem e45_32 : zE 45 d Q 32 [some (.inr (.inr w9))] st G h k ↔ zE 45 d Q 33 [some (.inr (.inr w9))] (.inr (.inr w9) :: st) G h k := E_aload_n (by rfl) rfl
theorem e45_33 : zE 45 d Q 33 [l0] st G h k ↔ zE 45 d Q 34 [l0] (zI 4 :: st) G h k := E_iconst (by rfl)
theorem e45_34 : zE 45 d Q 34 [l0] (zI i :: st) G h k ↔ (0 ≤ i ∧ i ≤ 1000000 ∧ k.1 + 1 ≤ 9 ∧ k.2 + i.toNat ≤ 32 ∧ zE 45 d Q 36 [l0] (zR (some G.1) :: st) (zgn G 10 i.toNat) (zhn h G.1) (k.1 + 1, k.2 + i.toNat)) := E_newarray (by rfl)
theorem e45_36 : zE 45 d Q 36 [l0] (zR q9 :: zR (some r) :: st) G h k ↔ (G.2.1 r = 5 ∧ zE 45 d Q 39 [l0] st (zgu G r 4 q9) h k) := E_putR (by rfl) rfl
theorem e45_39 : zE 45 d Q 39 [some (.inr (.inr w9))] st G h k ↔ zE 45 d Q 40 [some (.inr (.inr w9))] (.inr (.inr w9) :: st) G h k := E_aload_n (by rfl) rfl
theorem e45_40 : zE 45 d Q 40 [l0] st G h k ↔ zE 45 d Q 41 [l0] (zI 4 :: st) G h k := E_iconst (by rfl)
theorem e45_41 : zE 45 d Q 41 [l0] (zI i :: st) G h k ↔ (0 ≤ i ∧ i ≤ 1000000 ∧ k.1 + 1 ≤ 9 ∧ k.2 + i.toNat ≤ 32 ∧ zE 45 d Q 43 [l0] (zR (some G.1) :: st) (zgn G 10 i.toNat) (zhn h G.1) (k.1 + 1, k.2 + i.toNat)) := E_newarray (by rfl)
theorem e45_43 : zE 45 d Q 43 [l0] (zR q9 :: zR (some r) :: st) G h k ↔ (G.2.1 r = 5 ∧ zE 45 d Q 46 [l0] st (zgu G r 5 q9) h k) := E_putR (by rfl) rfl
theorem e45_46 : zE 45 d Q 46 [some (.inr (.inr w9))] st G h k ↔ zE 45 d Q 47 [some (.inr (.inr w9))] (.inr (.inr w9) :: st) G h k := E_aload_n (by rfl) rfl
theorem e45_47 : zE 45 d Q 47 [l0] st G h k ↔ zE 45 d Q 48 [l0] (zI 4 :: st) G h k := E_iconst (by rfl)
theorem e45_48 : zE 45 d Q 48 [l0] (zI i :: st) G h k ↔ (0 ≤ i ∧ i ≤ 1000000 ∧ k.1 + 1 ≤ 9 ∧ k.2 + i.toNat ≤ 32 ∧ zE 45 d Q 50 [l0] (zR (some G.1) :: st) (zgn G 10 i.toNat) (zhn h G.1) (k.1 + 1, k.2 + i.toNat)) := E_newarray (by rfl)
theorem e45_50 : zE 45 d Q 50 [l0] (zR q9 :: zR (some r) :: st) G h k ↔ (G.2.1 r = 5 ∧ zE 45 d Q 53 [l0] st (zgu G r 6 q9) h k) := E_putR (by rfl) rfl
theorem e45_53 : zE 45 d Q 53 [some (.inr (.inr w9))] st G h k ↔ zE 45 d Q 54 [some (.inr (.inr w9))] (.inr (.inr w9) :: st) G h k := E_aload_n (by rfl) rfl
theorem e45_54 : zE 45 d Q 54 [l0] st G h k ↔ zE 45 d Q 55 [l0] (zI 4 :: st) G h k := E_iconst (by rfl)
theorem e45_55 : zE 45 d Q 55 [l0] (zI i :: st) G h k ↔ (0 ≤ i ∧ i ≤ 1000000 ∧ k.1 + 1 ≤ 9 ∧ k.2 + i.toNat ≤ 32 ∧ zE 45 d Q 57 [l0] (zR (some G.1) :: st) (zgn G 10 i.toNat) (zhn h G.1) (k.1 + 1, k.2 + i.toNat)) := E_newarray (by rfl)
theorem e45_57 : zE 45 d Q 57 [l0] (zR q9 :: zR (some r) :: st) G h k ↔ (G.2.1 r = 5 ∧ zE 45 d Q 60 [l0] st (zgu G r 7 q9) h k) := E_putR (by rfl) rfl
theorem e45_60 : zE 45 d Q 60 [some (.inr (.inr w9))] st G h k ↔ zE 45 d Q 61 [some (.inr (.inr w9))] (.inr (.inr w9) :: st) G h k := E_aload_n (by rfl) rfl
theorem e45_61 : zE 45 d Q 61 [l0] st G h k ↔ zE 45 d Q 62 [l0] (zI 3 :: st) G h k := E_iconst (by rfl)
theorem e45_62 : zE 45 d Q 62 [l0] (zI i :: st) G h k ↔ (0 ≤ i ∧ i ≤ 1000000 ∧ k.1 + 1 ≤ 9 ∧ k.2 + i.toNat ≤ 32 ∧ zE 45 d Q 64 [l0] (zR (some G.1) :: st) (zgn G 10 i.toNat) (zhn h G.1) (k.1 + 1, k.2 + i.toNat)) := E_newarray (by rfl)
theorem e45_64 : zE 45 d Q 64 [l0] (zR q9 :: zR (some r) :: st) G h k ↔ (G.2.1 r = 5 ∧ zE 45 d Q 67 [l0] st (zgu G r 8 q9) h k) := E_putR (by rfl) rfl
theorem e45_67 : zE 45 d Q 67 [some (.inr (.inr w9))] st G h k ↔ zE 45 d Q 68 [some (.inr (.inr w9))] (.inr (.inr w9) :: st) G h k := E_aload_n (by rfl) rfl
theorem e45_68 : zE 45 d Q 68 [l0] st G h k ↔ zE 45 d Q 69 [l0] (zI 0 :: st) G h k := E_iconst (by rfl)
theorem e45_69 : zE 45 d Q 69 [l0] (zI x :: zR (some r) :: st) G h k ↔ (G.2.1 r = 5 ∧ zE 45 d Q 72 [l0] st G (zu h r 9 x) k) := E_putI (by rfl) rfl
theorem e45_72 : zE 45 d Q 72 [some (.inr (.inr w9))] st G h k ↔ zE 45 d Q 73 [some (.inr (.inr w9))] (.inr (.inr w9) :: st) G h k := E_aload_n (by rfl) rfl
theorem e45_73 : zE 45 d Q 73 [l0] st G h k ↔ zE 45 d Q 74 [l0] (zI 0 :: st) G h k := E_iconst (by rfl)
theorem e45_74 : zE 45 d Q 74 [l0] (zI x :: zR (some r) :: st) G h k ↔ (G.2.1 r = 5 ∧ zE 45 d Q 77 [l0] st G (zu h r 10 x) k) := E_putI (by rfl) rfl
theorem e45_77 : zE 45 d Q 77 [some (.inr (.inr w9))] st G h k ↔ zE 45 d Q 78 [some (.inr (.inr w9))] (.inr (.inr w9) :: st) G h k := E_aload_n (by rfl) rfl
theorem e45_78 : zE 45 d Q 78 [l0] st G h k ↔ zE 45 d Q 79 [l0] (zI 0 :: st) G h k := E_iconst (by rfl)
theorem e45_79 : zE 45 d Q 79 [l0] (zI x :: zR (some r) :: st) G h k ↔ (G.2.1 r = 5 ∧ zE 45 d Q 82 [l0] st G (zu h r 11 x) k) := E_putI (by rfl) rfl
theorem e45_82 : zE 45 d Q 82 [some (.inr (.inr w9))] st G h k ↔ zE 45 d Q 83 [some (.inr (.inr w9))] (.inr (.inr w9) :: st) G h k := E_aload_n (by rfl) rfl
theorem e45_83 : zE 45 d Q 83 [l0] st G h k ↔ zE 45 d Q 84 [l0] (zI 0 :: st) G h k := E_iconst (by rfl)
theorem e45_84 : zE 45 d Q 84 [l0] (zI x :: zR (some r) :: st) G h k ↔ (G.2.1 r = 5 ∧ zE 45 d Q 87 [l0] st G (zu h r 12 x) k) := E_putI (by rfl) rfl
theorem e45_87 : zE 45 d Q 87 [some (.inr (.inr w9))] st G h k ↔ zE 45 d Q 88 [some (.inr (.inr w9))] (.inr (.inr w9) :: st) G h k := E_aload_n (by rfl) rfl
theorem e45_88 : zE 45 d Q 88 [l0] st G h k ↔ zE 45 d Q 89 [l0] (zI 0 :: st) G h k := E_iconst (by rfl)
theorem e45_89 : zE 45 d Q 89 [l0] (zI x :: zR (some r) :: st) G h k ↔ (G.2.1 r = 5 ∧ zE 45 d Q 92 [l0] st G (zu h r 13 x) k) := E_putI (by rfl) rfl
theorem e45_92 : zE 45 d Q 92 [l0] [] G h k ↔ Q none G h := E_vret (by rfl) rfl
theorem e46_0 : zE 46 d Q 0 [l0, some (.inr (.inr w9))] st G h k ↔ zE 46 d Q 1 [l0, some (.inr (.inr w9))] (.inr (.inr w9) :: st) G h k := E_aload_n (by rfl) rfl
theorem e46_1 : zE 46 d Q 1 [l0, l1] (zR (some r) :: st) G h k ↔ (G.2.1 r = 5 ∧ zE 46 d Q 4 [l0, l1] (zR (G.2.2.2 r 0) :: st) G h k) := E_getR (by rfl) rfl
theorem e46_4 : zE 46 d Q 4 [l0, l1] st G h k ↔ zE 46 d Q 5 [l0, l1] (zI 0 :: st) G h k := E_iconst (by rfl)
theorem e46_5 : zE 46 d Q 5 [some (.inr (.inr w9)), l1] st G h k ↔ zE 46 d Q 6 [some (.inr (.inr w9)), l1] (.inr (.inr w9) :: st) G h k := E_aload_n (by rfl) rfl
theorem e46_6 : zE 46 d Q 6 [l0, l1] (zR (some r) :: st) G h k ↔ (G.2.1 r = 5 ∧ zE 46 d Q 9 [l0, l1] (zR (G.2.2.2 r 0) :: st) G h k) := E_getR (by rfl) rfl
theorem e46_9 : zE 46 d Q 9 [l0, l1] st G h k ↔ zE 46 d Q 10 [l0, l1] (zI 0 :: st) G h k := E_iconst (by rfl)
theorem e46_10 : zE 46 d Q 10 [l0, l1] st G h k ↔ zE 46 d Q 11 [l0, l1] (zI 3 :: st) G h k := E_iconst (by rfl)
theorem e46_11 : zE 46 d Q 11 [l0, l1] (zI i :: zI y :: zR (some r2) :: zI x :: zR (some r1) :: st) G h k ↔ (zsum st ≤ 8 ∧ G.2.1 r1 = 10 ∧ G.2.1 r2 = 10 ∧ 0 ≤ x ∧ 0 ≤ y ∧ 0 ≤ i ∧ x + i ≤ G.2.2.1 r1 ∧ y + i ≤ G.2.2.1 r2 ∧ zE 46 d Q 14 [l0, l1] st G (zcp h r1 x.toNat r2 y.toNat i.toNat) k) := E_copy2 (by rfl) rfl (by decide)
theorem e46_14 : zE 46 d Q 14 [l0, some (.inr (.inr w9))] st G h k ↔ zE 46 d Q 15 [l0, some (.inr (.inr w9))] (.inr (.inr w9) :: st) G h k := E_aload_n (by rfl) rfl
theorem e46_15 : zE 46 d Q 15 [l0, l1] (zR (some r) :: st) G h k ↔ (G.2.1 r = 5 ∧ zE 46 d Q 18 [l0, l1] (zR (G.2.2.2 r 1) :: st) G h k) := E_getR (by rfl) rfl
theorem e46_18 : zE 46 d Q 18 [l0, l1] st G h k ↔ zE 46 d Q 19 [l0, l1] (zI 0 :: st) G h k := E_iconst (by rfl)
theorem e46_19 : zE 46 d Q 19 [some (.inr (.inr w9)), l1] st G h k ↔ zE 46 d Q 20 [some (.inr (.inr w9)), l1] (.inr (.inr w9) :: st) G h k := E_aload_n (by rfl) rfl
theorem e46_20 : zE 46 d Q 20 [l0, l1] (zR (some r) :: st) G h k ↔ (G.2.1 r = 5 ∧ zE 46 d Q 23 [l0, l1] (zR (G.2.2.2 r 1) :: st) G h k) := E_getR (by rfl) rfl
theorem e46_23 : zE 46 d Q 23 [l0, l1] st G h k ↔ zE 46 d Q 24 [l0, l1] (zI 0 :: st) G h k := E_iconst (by rfl)
theorem e46_24 : zE 46 d Q 24 [l0, l1] st G h k ↔ zE 46 d Q 25 [l0, l1] (zI 3 :: st) G h k := E_iconst (by rfl)
theorem e46_25 : zE 46 d Q 25 [l0, l1] (zI i :: zI y :: zR (some r2) :: zI x :: zR (some r1) :: st) G h k ↔ (zsum st ≤ 8 ∧ G.2.1 r1 = 10 ∧ G.2.1 r2 = 10 ∧ 0 ≤ x ∧ 0 ≤ y ∧ 0 ≤ i ∧ x + i ≤ G.2.2.1 r1 ∧ y + i ≤ G.2.2.1 r2 ∧ zE 46 d Q 28 [l0, l1] st G (zcp h r1 x.toNat r2 y.toNat i.toNat) k) := E_copy2 (by rfl) rfl (by decide)
theorem e46_28 : zE 46 d Q 28 [l0, some (.inr (.inr w9))] st G h k ↔ zE 46 d Q 29 [l0, some (.inr (.inr w9))] (.inr (.inr w9) :: st) G h k := E_aload_n (by rfl) rfl
theorem e46_29 : zE 46 d Q 29 [l0, l1] (zR (some r) :: st) G h k ↔ (G.2.1 r = 5 ∧ zE 46 d Q 32 [l0, l1] (zR (G.2.2.2 r 2) :: st) G h k) := E_getR (by rfl) rfl
theorem e46_32 : zE 46 d Q 32 [l0, l1] st G h k ↔ zE 46 d Q 33 [l0, l1] (zI 0 :: st) G h k := E_iconst (by rfl)
theorem e46_33 : zE 46 d Q 33 [some (.inr (.inr w9)), l1] st G h k ↔ zE 46 d Q 34 [some (.inr (.inr w9)), l1] (.inr (.inr w9) :: st) G h k := E_aload_n (by rfl) rfl
theorem e46_34 : zE 46 d Q 34 [l0, l1] (zR (some r) :: st) G h k ↔ (G.2.1 r = 5 ∧ zE 46 d Q 37 [l0, l1] (zR (G.2.2.2 r 2) :: st) G h k) := E_getR (by rfl) rfl
theorem e46_37 : zE 46 d Q 37 [l0, l1] st G h k ↔ zE 46 d Q 38 [l0, l1] (zI 0 :: st) G h k := E_iconst (by rfl)
theorem e46_38 : zE 46 d Q 38 [l0, l1] st G h k ↔ zE 46 d Q 39 [l0, l1] (zI 3 :: st) G h k := E_iconst (by rfl)
theorem e46_39 : zE 46 d Q 39 [l0, l1] (zI i :: zI y :: zR (some r2) :: zI x :: zR (some r1) :: st) G h k ↔ (zsum st ≤ 8 ∧ G.2.1 r1 = 10 ∧ G.2.1 r2 = 10 ∧ 0 ≤ x ∧ 0 ≤ y ∧ 0 ≤ i ∧ x + i ≤ G.2.2.1 r1 ∧ y + i ≤ G.2.2.1 r2 ∧ zE 46 d Q 42 [l0, l1] st G (zcp h r1 x.toNat r2 y.toNat i.toNat) k) := E_copy2 (by rfl) rfl (by decide)
theorem e46_42 : zE 46 d Q 42 [l0, some (.inr (.inr w9))] st G h k ↔ zE 46 d Q 43 [l0, some (.inr (.inr w9))] (.inr (.inr w9) :: st) G h k := E_aload_n (by rfl) rfl
theorem e46_43 : zE 46 d Q 43 [l0, l1] (zR (some r) :: st) G h k ↔ (G.2.1 r = 5 ∧ zE 46 d Q 46 [l0, l1] (zR (G.2.2.2 r 3) :: st) G h k) := E_getR (by rfl) rfl
theorem e46_46 : zE 46 d Q 46 [l0, l1] st G h k ↔ zE 46 d Q 47 [l0, l1] (zI 0 :: st) G h k := E_iconst (by rfl)
theorem e46_47 : zE 46 d Q 47 [some (.inr (.inr w9)), l1] st G h k ↔ zE 46 d Q 48 [some (.inr (.inr w9)), l1] (.inr (.inr w9) :: st) G h k := E_aload_n (by rfl) rfl
theorem e46_48 : zE 46 d Q 48 [l0, l1] (zR (some r) :: st) G h k ↔ (G.2.1 r = 5 ∧ zE 46 d Q 51 [l0, l1] (zR (G.2.2.2 r 3) :: st) G h k) := E_getR (by rfl) rfl
theorem e46_51 : zE 46 d Q 51 [l0, l1] st G h k ↔ zE 46 d Q 52 [l0, l1] (zI 0 :: st) G h k := E_iconst (by rfl)
theorem e46_52 : zE 46 d Q 52 [l0, l1] st G h k ↔ zE 46 d Q 53 [l0, l1] (zI 4 :: st) G h k := E_iconst (by rfl)
theorem e46_53 : zE 46 d Q 53 [l0, l1] (zI i :: zI y :: zR (some r2) :: zI x :: zR (some r1) :: st) G h k ↔ (zsum st ≤ 8 ∧ G.2.1 r1 = 10 ∧ G.2.1 r2 = 10 ∧ 0 ≤ x ∧ 0 ≤ y ∧ 0 ≤ i ∧ x + i ≤ G.2.2.1 r1 ∧ y + i ≤ G.2.2.1 r2 ∧ zE 46 d Q 56 [l0, l1] st G (zcp h r1 x.toNat r2 y.toNat i.toNat) k) := E_copy2 (by rfl) rfl (by decide)
theorem e46_56 : zE 46 d Q 56 [l0, some (.inr (.inr w9))] st G h k ↔ zE 46 d Q 57 [l0, some (.inr (.inr w9))] (.inr (.inr w9) :: st) G h k := E_aload_n (by rfl) rfl
theorem e46_57 : zE 46 d Q 57 [l0, l1] (zR (some r) :: st) G h k ↔ (G.2.1 r = 5 ∧ zE 46 d Q 60 [l0, l1] (zR (G.2.2.2 r 4) :: st) G h k) := E_getR (by rfl) rfl
theorem e46_60 : zE 46 d Q 60 [l0, l1] st G h k ↔ zE 46 d Q 61 [l0, l1] (zI 0 :: st) G h k := E_iconst (by rfl)
theorem e46_61 : zE 46 d Q 61 [some (.inr (.inr w9)), l1] st G h k ↔ zE 46 d Q 62 [some (.inr (.inr w9)), l1] (.inr (.inr w9) :: st) G h k := E_aload_n (by rfl) rfl
theorem e46_62 : zE 46 d Q 62 [l0, l1] (zR (some r) :: st) G h k ↔ (G.2.1 r = 5 ∧ zE 46 d Q 65 [l0, l1] (zR (G.2.2.2 r 4) :: st) G h k) := E_getR (by rfl) rfl
theorem e46_65 : zE 46 d Q 65 [l0, l1] st G h k ↔ zE 46 d Q 66 [l0, l1] (zI 0 :: st) G h k := E_iconst (by rfl)
theorem e46_66 : zE 46 d Q 66 [l0, l1] st G h k ↔ zE 46 d Q 67 [l0, l1] (zI 4 :: st) G h k := E_iconst (by rfl)
theorem e46_67 : zE 46 d Q 67 [l0, l1] (zI i :: zI y :: zR (some r2) :: zI x :: zR (some r1) :: st) G h k ↔ (zsum st ≤ 8 ∧ G.2.1 r1 = 10 ∧ G.2.1 r2 = 10 ∧ 0 ≤ x ∧ 0 ≤ y ∧ 0 ≤ i ∧ x + i ≤ G.2.2.1 r1 ∧ y + i ≤ G.2.2.1 r2 ∧ zE 46 d Q 70 [l0, l1] st G (zcp h r1 x.toNat r2 y.toNat i.toNat) k) := E_copy2 (by rfl) rfl (by decide)
theorem e46_70 : zE 46 d Q 70 [l0, some (.inr (.inr w9))] st G h k ↔ zE 46 d Q 71 [l0, some (.inr (.inr w9))] (.inr (.inr w9) :: st) G h k := E_aload_n (by rfl) rfl
theorem e46_71 : zE 46 d Q 71 [l0, l1] (zR (some r) :: st) G h k ↔ (G.2.1 r = 5 ∧ zE 46 d Q 74 [l0, l1] (zR (G.2.2.2 r 5) :: st) G h k) := E_getR (by rfl) rfl
theorem e46_74 : zE 46 d Q 74 [l0, l1] st G h k ↔ zE 46 d Q 75 [l0, l1] (zI 0 :: st) G h k := E_iconst (by rfl)
theorem e46_75 : zE 46 d Q 75 [some (.inr (.inr w9)), l1] st G h k ↔ zE 46 d Q 76 [some (.inr (.inr w9)), l1] (.inr (.inr w9) :: st) G h k := E_aload_n (by rfl) rfl
theorem e46_76 : zE 46 d Q 76 [l0, l1] (zR (some r) :: st) G h k ↔ (G.2.1 r = 5 ∧ zE 46 d Q 79 [l0, l1] (zR (G.2.2.2 r 5) :: st) G h k) := E_getR (by rfl) rfl
theorem e46_79 : zE 46 d Q 79 [l0, l1] st G h k ↔ zE 46 d Q 80 [l0, l1] (zI 0 :: st) G h k := E_iconst (by rfl)
theorem e46_80 : zE 46 d Q 80 [l0, l1] st G h k ↔ zE 46 d Q 81 [l0, l1] (zI 4 :: st) G h k := E_iconst (by rfl)
theorem e46_81 : zE 46 d Q 81 [l0, l1] (zI i :: zI y :: zR (some r2) :: zI x :: zR (some r1) :: st) G h k ↔ (zsum st ≤ 8 ∧ G.2.1 r1 = 10 ∧ G.2.1 r2 = 10 ∧ 0 ≤ x ∧ 0 ≤ y ∧ 0 ≤ i ∧ x + i ≤ G.2.2.1 r1 ∧ y + i ≤ G.2.2.1 r2 ∧ zE 46 d Q 84 [l0, l1] st G (zcp h r1 x.toNat r2 y.toNat i.toNat) k) := E_copy2 (by rfl) rfl (by decide)
theorem e46_84 : zE 46 d Q 84 [l0, some (.inr (.inr w9))] st G h k ↔ zE 46 d Q 85 [l0, some (.inr (.inr w9))] (.inr (.inr w9) :: st) G h k := E_aload_n (by rfl) rfl
theorem e46_85 : zE 46 d Q 85 [l0, l1] (zR (some r) :: st) G h k ↔ (G.2.1 r = 5 ∧ zE 46 d Q 88 [l0, l1] (zR (G.2.2.2 r 6) :: st) G h k) := E_getR (by rfl) rfl
theorem e46_88 : zE 46 d Q 88 [l0, l1] st G h k ↔ zE 46 d Q 89 [l0, l1] (zI 0 :: st) G h k := E_iconst (by rfl)
theorem e46_89 : zE 46 d Q 89 [some (.inr (.inr w9)), l1] st G h k ↔ zE 46 d Q 90 [some (.inr (.inr w9)), l1] (.inr (.inr w9) :: st) G h k := E_aload_n (by rfl) rfl
theorem e46_90 : zE 46 d Q 90 [l0, l1] (zR (some r) :: st) G h k ↔ (G.2.1 r = 5 ∧ zE 46 d Q 93 [l0, l1] (zR (G.2.2.2 r 6) :: st) G h k) := E_getR (by rfl) rfl
theorem e46_93 : zE 46 d Q 93 [l0, l1] st G h k ↔ zE 46 d Q 94 [l0, l1] (zI 0 :: st) G h k := E_iconst (by rfl)
theorem e46_94 : zE 46 d Q 94 [l0, l1] st G h k ↔ zE 46 d Q 95 [l0, l1] (zI 4 :: st) G h k := E_iconst (by rfl)
theorem e46_95 : zE 46 d Q 95 [l0, l1] (zI i :: zI y :: zR (some r2) :: zI x :: zR (some r1) :: st) G h k ↔ (zsum st ≤ 8 ∧ G.2.1 r1 = 10 ∧ G.2.1 r2 = 10 ∧ 0 ≤ x ∧ 0 ≤ y ∧ 0 ≤ i ∧ x + i ≤ G.2.2.1 r1 ∧ y + i ≤ G.2.2.1 r2 ∧ zE 46 d Q 98 [l0, l1] st G (zcp h r1 x.toNat r2 y.toNat i.toNat) k) := E_copy2 (by rfl) rfl (by decide)
theorem e46_98 : zE 46 d Q 98 [l0, some (.inr (.inr w9))] st G h k ↔ zE 46 d Q 99 [l0, some (.inr (.inr w9))] (.inr (.inr w9) :: st) G h k := E_aload_n (by rfl) rfl
theorem e46_99 : zE 46 d Q 99 [l0, l1] (zR (some r) :: st) G h k ↔ (G.2.1 r = 5 ∧ zE 46 d Q 102 [l0, l1] (zR (G.2.2.2 r 7) :: st) G h k) := E_getR (by rfl) rfl
theorem e46_102 : zE 46 d Q 102 [l0, l1] st G h k ↔ zE 46 d Q 103 [l0, l1] (zI 0 :: st) G h k := E_iconst (by rfl)
theorem e46_103 : zE 46 d Q 103 [some (.inr (.inr w9)), l1] st G h k ↔ zE 46 d Q 104 [some (.inr (.inr w9)), l1] (.inr (.inr w9) :: st) G h k := E_aload_n (by rfl) rfl
theorem e46_104 : zE 46 d Q 104 [l0, l1] (zR (some r) :: st) G h k ↔ (G.2.1 r = 5 ∧ zE 46 d Q 107 [l0, l1] (zR (G.2.2.2 r 7) :: st) G h k) := E_getR (by rfl) rfl
theorem e46_107 : zE 46 d Q 107 [l0, l1] st G h k ↔ zE 46 d Q 108 [l0, l1] (zI 0 :: st) G h k := E_iconst (by rfl)
theorem e46_108 : zE 46 d Q 108 [l0, l1] st G h k ↔ zE 46 d Q 109 [l0, l1] (zI 4 :: st) G h k := E_iconst (by rfl)
theorem e46_109 : zE 46 d Q 109 [l0, l1] (zI i :: zI y :: zR (some r2) :: zI x :: zR (some r1) :: st) G h k ↔ (zsum st ≤ 8 ∧ G.2.1 r1 = 10 ∧ G.2.1 r2 = 10 ∧ 0 ≤ x ∧ 0 ≤ y ∧ 0 ≤ i ∧ x + i ≤ G.2.2.1 r1 ∧ y + i ≤ G.2.2.1 r2 ∧ zE 46 d Q 112 [l0, l1] st G (zcp h r1 x.toNat r2 y.toNat i.toNat) k) := E_copy2 (by rfl) rfl (by decide)
theorem e46_112 : zE 46 d Q 112 [l0, some (.inr (.inr w9))] st G h k ↔ zE 46 d Q 113 [l0, some (.inr (.inr w9))] (.inr (.inr w9) :: st) G h k := E_aload_n (by rfl) rfl
theorem e46_113 : zE 46 d Q 113 [l0, l1] (zR (some r) :: st) G h k ↔ (G.2.1 r = 5 ∧ zE 46 d Q 116 [l0, l1] (zR (G.2.2.2 r 8) :: st) G h k) := E_getR (by rfl) rfl
theorem e46_116 : zE 46 d Q 116 [l0, l1] st G h k ↔ zE 46 d Q 117 [l0, l1] (zI 0 :: st) G h k := E_iconst (by rfl)
theorem e46_117 : zE 46 d Q 117 [some (.inr (.inr w9)), l1] st G h k ↔ zE 46 d Q 118 [some (.inr (.inr w9)), l1] (.inr (.inr w9) :: st) G h k := E_aload_n (by rfl) rfl
theorem e46_118 : zE 46 d Q 118 [l0, l1] (zR (some r) :: st) G h k ↔ (G.2.1 r = 5 ∧ zE 46 d Q 121 [l0, l1] (zR (G.2.2.2 r 8) :: st) G h k) := E_getR (by rfl) rfl
theorem e46_121 : zE 46 d Q 121 [l0, l1] st G h k ↔ zE 46 d Q 122 [l0, l1] (zI 0 :: st) G h k := E_iconst (by rfl)
theorem e46_122 : zE 46 d Q 122 [l0, l1] st G h k ↔ zE 46 d Q 123 [l0, l1] (zI 3 :: st) G h k := E_iconst (by rfl)
theorem e46_123 : zE 46 d Q 123 [l0, l1] (zI i :: zI y :: zR (some r2) :: zI x :: zR (some r1) :: st) G h k ↔ (zsum st ≤ 8 ∧ G.2.1 r1 = 10 ∧ G.2.1 r2 = 10 ∧ 0 ≤ x ∧ 0 ≤ y ∧ 0 ≤ i ∧ x + i ≤ G.2.2.1 r1 ∧ y + i ≤ G.2.2.1 r2 ∧ zE 46 d Q 126 [l0, l1] st G (zcp h r1 x.toNat r2 y.toNat i.toNat) k) := E_copy2 (by rfl) rfl (by decide)
theorem e46_126 : zE 46 d Q 126 [some (.inr (.inr w9)), l1] st G h k ↔ zE 46 d Q 127 [some (.inr (.inr w9)), l1] (.inr (.inr w9) :: st) G h k := E_aload_n (by rfl) rfl
theorem e46_127 : zE 46 d Q 127 [l0, some (.inr (.inr w9))] st G h k ↔ zE 46 d Q 128 [l0, some (.inr (.inr w9))] (.inr (.inr w9) :: st) G h k := E_aload_n (by rfl) rfl
theorem e46_128 : zE 46 d Q 128 [l0, l1] (zR (some r) :: st) G h k ↔ (G.2.1 r = 5 ∧ zE 46 d Q 131 [l0, l1] (zI (h r 9) :: st) G h k) := E_getI (by rfl) (by decide)
theorem e46_131 : zE 46 d Q 131 [l0, l1] (zI x :: zR (some r) :: st) G h k ↔ (G.2.1 r = 5 ∧ zE 46 d Q 134 [l0, l1] st G (zu h r 9 x) k) := E_putI (by rfl) rfl
theorem e46_134 : zE 46 d Q 134 [some (.inr (.inr w9)), l1] st G h k ↔ zE 46 d Q 135 [some (.inr (.inr w9)), l1] (.inr (.inr w9) :: st) G h k := E_aload_n (by rfl) rfl
theorem e46_135 : zE 46 d Q 135 [l0, some (.inr (.inr w9))] st G h k ↔ zE 46 d Q 136 [l0, some (.inr (.inr w9))] (.inr (.inr w9) :: st) G h k := E_aload_n (by rfl) rfl
theorem e46_136 : zE 46 d Q 136 [l0, l1] (zR (some r) :: st) G h k ↔ (G.2.1 r = 5 ∧ zE 46 d Q 139 [l0, l1] (zI (h r 10) :: st) G h k) := E_getI (by rfl) (by decide)
theorem e46_139 : zE 46 d Q 139 [l0, l1] (zI x :: zR (some r) :: st) G h k ↔ (G.2.1 r = 5 ∧ zE 46 d Q 142 [l0, l1] st G (zu h r 10 x) k) := E_putI (by rfl) rfl
theorem e46_142 : zE 46 d Q 142 [some (.inr (.inr w9)), l1] st G h k ↔ zE 46 d Q 143 [some (.inr (.inr w9)), l1] (.inr (.inr w9) :: st) G h k := E_aload_n (by rfl) rfl
theorem e46_143 : zE 46 d Q 143 [l0, some (.inr (.inr w9))] st G h k ↔ zE 46 d Q 144 [l0, some (.inr (.inr w9))] (.inr (.inr w9) :: st) G h k := E_aload_n (by rfl) rfl
theorem e46_144 : zE 46 d Q 144 [l0, l1] (zR (some r) :: st) G h k ↔ (G.2.1 r = 5 ∧ zE 46 d Q 147 [l0, l1] (zI (h r 11) :: st) G h k) := E_getI (by rfl) (by decide)
theorem e46_147 : zE 46 d Q 147 [l0, l1] (zI x :: zR (some r) :: st) G h k ↔ (G.2.1 r = 5 ∧ zE 46 d Q 150 [l0, l1] st G (zu h r 11 x) k) := E_putI (by rfl) rfl
theorem e46_150 : zE 46 d Q 150 [some (.inr (.inr w9)), l1] st G h k ↔ zE 46 d Q 151 [some (.inr (.inr w9)), l1] (.inr (.inr w9) :: st) G h k := E_aload_n (by rfl) rfl
theorem e46_151 : zE 46 d Q 151 [l0, some (.inr (.inr w9))] st G h k ↔ zE 46 d Q 152 [l0, some (.inr (.inr w9))] (.inr (.inr w9) :: st) G h k := E_aload_n (by rfl) rfl
theorem e46_152 : zE 46 d Q 152 [l0, l1] (zR (some r) :: st) G h k ↔ (G.2.1 r = 5 ∧ zE 46 d Q 155 [l0, l1] (zI (h r 12) :: st) G h k) := E_getI (by rfl) (by decide)
theorem e46_155 : zE 46 d Q 155 [l0, l1] (zI x :: zR (some r) :: st) G h k ↔ (G.2.1 r = 5 ∧ zE 46 d Q 158 [l0, l1] st G (zu h r 12 x) k) := E_putI (by rfl) rfl
theorem e46_158 : zE 46 d Q 158 [some (.inr (.inr w9)), l1] st G h k ↔ zE 46 d Q 159 [some (.inr (.inr w9)), l1] (.inr (.inr w9) :: st) G h k := E_aload_n (by rfl) rfl
theorem e46_159 : zE 46 d Q 159 [l0, some (.inr (.inr w9))] st G h k ↔ zE 46 d Q 160 [l0, some (.inr (.inr w9))] (.inr (.inr w9) :: st) G h k := E_aload_n (by rfl) rfl
theorem e46_160 : zE 46 d Q 160 [l0, l1] (zR (some r) :: st) G h k ↔ (G.2.1 r = 5 ∧ zE 46 d Q 163 [l0, l1] (zI (h r 13) :: st) G h k) := E_getI (by rfl) (by decide)
theorem e46_163 : zE 46 d Q 163 [l0, l1] (zI x :: zR (some r) :: st) G h k ↔ (G.2.1 r = 5 ∧ zE 46 d Q 166 [l0, l1] st G (zu h r 13 x) k) := E_putI (by rfl) rfl
theorem e46_166 : zE 46 d Q 166 [l0, l1] [] G h k ↔ Q none G h := E_vret (by rfl) rfl
theorem e47_0 : zE 47 d Q 0 [l0, some (zI x), l2] st G h k ↔ zE 47 d Q 1 [l0, some (zI x), l2] (zI x :: st) G h k := E_iload_n (by rfl) rfl
theorem e47_1 : zE 47 d Q 1 [l0, l1, l2] st G h k ↔ zE 47 d Q 2 [l0, l1, l2] (zI 1 :: st) G h k := E_iconst (by rfl)
theorem e47_2 : zE 47 d Q 2 [l0, l1, l2] (zI y :: zI x :: st) G h k ↔ ((¬ x = y → zE 47 d Q 10 [l0, l1, l2] st G h k) ∧ (¬ (¬ x = y) → zE 47 d Q 5 [l0, l1, l2] st G h k)) := E_icmp_ne (by rfl)
theorem e47_5 : zE 47 d Q 5 [some (.inr (.inr w9)), l1, l2] st G h k ↔ zE 47 d Q 6 [some (.inr (.inr w9)), l1, l2] (.inr (.inr w9) :: st) G h k := E_aload_n (by rfl) rfl
theorem e47_6 : zE 47 d Q 6 [l0, l1, l2] st G h k ↔ zE 47 d Q 7 [l0, l1, l2] (zI 0 :: st) G h k := E_iconst (by rfl)
theorem e47_7 : zE 47 d Q 7 [l0, l1, l2] (zI x :: zR (some r) :: st) G h k ↔ (G.2.1 r = 5 ∧ zE 47 d Q 10 [l0, l1, l2] st G (zu h r 12 x) k) := E_putI (by rfl) rfl
theorem e47_10 : zE 47 d Q 10 [l0, l1, l2] st G h k ↔ zE 47 d Q 11 [l0, l1, l2] (zI 0 :: st) G h k := E_iconst (by rfl)
theorem e47_11 : zE 47 d Q 11 [l0, l1, l2] (zI x :: st) G h k ↔ zE 47 d Q 12 [l0, (zclr l1), some (zI x)] st G h k := E_istore_n (by rfl) (by decide)
theorem e47_12 : zE 47 d Q 12 [l0, l1, some (zI x)] st G h k ↔ zE 47 d Q 13 [l0, l1, some (zI x)] (zI x :: st) G h k := E_iload_n (by rfl) rfl
theorem e47_13 : zE 47 d Q 13 [some (.inr (.inr w9)), l1, l2] st G h k ↔ zE 47 d Q 14 [some (.inr (.inr w9)), l1, l2] (.inr (.inr w9) :: st) G h k := E_aload_n (by rfl) rfl
theorem e47_14 : zE 47 d Q 14 [l0, l1, l2] (zR (some r) :: st) G h k ↔ (G.2.1 r = 5 ∧ zE 47 d Q 17 [l0, l1, l2] (zI (h r 10) :: st) G h k) := E_getI (by rfl) (by decide)
theorem e47_17 : zE 47 d Q 17 [l0, l1, l2] (zI y :: zI x :: st) G h k ↔ ((y ≤ x → zE 47 d Q 90 [l0, l1, l2] st G h k) ∧ (¬ (y ≤ x) → zE 47 d Q 20 [l0, l1, l2] st G h k)) := E_icmp_ge (by rfl)
theorem e47_20 : zE 47 d Q 20 [l0, some (zI x), l2] st G h k ↔ zE 47 d Q 21 [l0, some (zI x), l2] (zI x :: st) G h k := E_iload_n (by rfl) rfl
theorem e47_21 : zE 47 d Q 21 [l0, l1, l2] st G h k ↔ zE 47 d Q 22 [l0, l1, l2] (zI 2 :: st) G h k := E_iconst (by rfl)
theorem e47_22 : zE 47 d Q 22 [l0, l1, l2] (zI y :: zI x :: st) G h k ↔ ((¬ x = y → zE 47 d Q 42 [l0, l1, l2] st G h k) ∧ (¬ (¬ x = y) → zE 47 d Q 25 [l0, l1, l2] st G h k)) := E_icmp_ne (by rfl)
theorem e47_25 : zE 47 d Q 25 [some (.inr (.inr w9)), l1, l2] st G h k ↔ zE 47 d Q 26 [some (.inr (.inr w9)), l1, l2] (.inr (.inr w9) :: st) G h k := E_aload_n (by rfl) rfl
theorem e47_26 : zE 47 d Q 26 [l0, l1, l2] (zR (some r) :: st) G h k ↔ (G.2.1 r = 5 ∧ zE 47 d Q 29 [l0, l1, l2] (zR (G.2.2.2 r 5) :: st) G h k) := E_getR (by rfl) rfl
theorem e47_29 : zE 47 d Q 29 [l0, l1, some (zI x)] st G h k ↔ zE 47 d Q 30 [l0, l1, some (zI x)] (zI x :: st) G h k := E_iload_n (by rfl) rfl
theorem e47_30 : zE 47 d Q 30 [some (.inr (.inr w9)), l1, l2] st G h k ↔ zE 47 d Q 31 [some (.inr (.inr w9)), l1, l2] (.inr (.inr w9) :: st) G h k := E_aload_n (by rfl) rfl
theorem e47_31 : zE 47 d Q 31 [l0, l1, l2] (zR (some r) :: st) G h k ↔ (G.2.1 r = 5 ∧ zE 47 d Q 34 [l0, l1, l2] (zR (G.2.2.2 r 5) :: st) G h k) := E_getR (by rfl) rfl
theorem e47_34 : zE 47 d Q 34 [l0, l1, some (zI x)] st G h k ↔ zE 47 d Q 35 [l0, l1, some (zI x)] (zI x :: st) G h k := E_iload_n (by rfl) rfl
theorem e47_35 : zE 47 d Q 35 [l0, l1, l2] (zI i :: zR (some r) :: st) G h k ↔ (G.2.1 r = 10 ∧ (0 ≤ i ∧ i < G.2.2.1 r) ∧ zE 47 d Q 36 [l0, l1, l2] (zI (h r i.toNat) :: st) G h k) := E_iaload (by rfl)
theorem e47_36 : zE 47 d Q 36 [l0, l1, l2] st G h k ↔ zE 47 d Q 37 [l0, l1, l2] (zI 2 :: st) G h k := E_iconst (by rfl)
theorem e47_37 : zE 47 d Q 37 [l0, l1, l2] (zI y :: zI x :: st) G h k ↔ (y ≠ 0 ∧ zE 47 d Q 38 [l0, l1, l2] (zI (wr (x.tdiv y)) :: st) G h k) := E_idiv (by rfl)
theorem e47_38 : zE 47 d Q 38 [l0, l1, l2] (zI x :: zI i :: zR (some r) :: st) G h k ↔ (G.2.1 r = 10 ∧ (0 ≤ i ∧ i < G.2.2.1 r) ∧ zE 47 d Q 39 [l0, l1, l2] st G (zu h r i.toNat x) k) := E_iastore (by rfl)
theorem e47_39 : zE 47 d Q 39 [l0, l1, l2] st G h k ↔ zE 47 d Q 84 [l0, l1, l2] st G h k := E_goto (by rfl)
theorem e47_42 : zE 47 d Q 42 [l0, some (zI x), l2] st G h k ↔ zE 47 d Q 43 [l0, some (zI x), l2] (zI x :: st) G h k := E_iload_n (by rfl) rfl
theorem e47_43 : zE 47 d Q 43 [l0, l1, l2] st G h k ↔ zE 47 d Q 44 [l0, l1, l2] (zI 3 :: st) G h k := E_iconst (by rfl)
theorem e47_44 : zE 47 d Q 44 [l0, l1, l2] (zI y :: zI x :: st) G h k ↔ ((¬ x = y → zE 47 d Q 57 [l0, l1, l2] st G h k) ∧ (¬ (¬ x = y) → zE 47 d Q 47 [l0, l1, l2] st G h k)) := E_icmp_ne (by rfl)
theorem e47_47 : zE 47 d Q 47 [some (.inr (.inr w9)), l1, l2] st G h k ↔ zE 47 d Q 48 [some (.inr (.inr w9)), l1, l2] (.inr (.inr w9) :: st) G h k := E_aload_n (by rfl) rfl
theorem e47_48 : zE 47 d Q 48 [l0, l1, l2] (zR (some r) :: st) G h k ↔ (G.2.1 r = 5 ∧ zE 47 d Q 51 [l0, l1, l2] (zR (G.2.2.2 r 5) :: st) G h k) := E_getR (by rfl) rfl
theorem e47_51 : zE 47 d Q 51 [l0, l1, some (zI x)] st G h k ↔ zE 47 d Q 52 [l0, l1, some (zI x)] (zI x :: st) G h k := E_iload_n (by rfl) rfl
theorem e47_52 : zE 47 d Q 52 [l0, l1, l2] st G h k ↔ zE 47 d Q 53 [l0, l1, l2] (zI 0 :: st) G h k := E_iconst (by rfl)
theorem e47_53 : zE 47 d Q 53 [l0, l1, l2] (zI x :: zI i :: zR (some r) :: st) G h k ↔ (G.2.1 r = 10 ∧ (0 ≤ i ∧ i < G.2.2.1 r) ∧ zE 47 d Q 54 [l0, l1, l2] st G (zu h r i.toNat x) k) := E_iastore (by rfl)
theorem e47_54 : zE 47 d Q 54 [l0, l1, l2] st G h k ↔ zE 47 d Q 84 [l0, l1, l2] st G h k := E_goto (by rfl)
theorem e47_57 : zE 47 d Q 57 [l0, some (zI x), l2] st G h k ↔ zE 47 d Q 58 [l0, some (zI x), l2] (zI x :: st) G h k := E_iload_n (by rfl) rfl
theorem e47_58 : zE 47 d Q 58 [l0, l1, l2] st G h k ↔ zE 47 d Q 59 [l0, l1, l2] (zI 4 :: st) G h k := E_iconst (by rfl)
theorem e47_59 : zE 47 d Q 59 [l0, l1, l2] (zI y :: zI x :: st) G h k ↔ ((¬ x = y → zE 47 d Q 72 [l0, l1, l2] st G h k) ∧ (¬ (¬ x = y) → zE 47 d Q 62 [l0, l1, l2] st G h k)) := E_icmp_ne (by rfl)
theorem e47_62 : zE 47 d Q 62 [some (.inr (.inr w9)), l1, l2] st G h k ↔ zE 47 d Q 63 [some (.inr (.inr w9)), l1, l2] (.inr (.inr w9) :: st) G h k := E_aload_n (by rfl) rfl
theorem e47_63 : zE 47 d Q 63 [l0, l1, l2] (zR (some r) :: st) G h k ↔ (G.2.1 r = 5 ∧ zE 47 d Q 66 [l0, l1, l2] (zR (G.2.2.2 r 7) :: st) G h k) := E_getR (by rfl) rfl
theorem e47_66 : zE 47 d Q 66 [l0, l1, some (zI x)] st G h k ↔ zE 47 d Q 67 [l0, l1, some (zI x)] (zI x :: st) G h k := E_iload_n (by rfl) rfl
theorem e47_67 : zE 47 d Q 67 [l0, l1, l2] st G h k ↔ zE 47 d Q 68 [l0, l1, l2] (zI 1 :: st) G h k := E_iconst (by rfl)
theorem e47_68 : zE 47 d Q 68 [l0, l1, l2] (zI x :: zI i :: zR (some r) :: st) G h k ↔ (G.2.1 r = 10 ∧ (0 ≤ i ∧ i < G.2.2.1 r) ∧ zE 47 d Q 69 [l0, l1, l2] st G (zu h r i.toNat x) k) := E_iastore (by rfl)
theorem e47_69 : zE 47 d Q 69 [l0, l1, l2] st G h k ↔ zE 47 d Q 84 [l0, l1, l2] st G h k := E_goto (by rfl)
theorem e47_72 : zE 47 d Q 72 [l0, some (zI x), l2] st G h k ↔ zE 47 d Q 73 [l0, some (zI x), l2] (zI x :: st) G h k := E_iload_n (by rfl) rfl
theorem e47_73 : zE 47 d Q 73 [l0, l1, l2] st G h k ↔ zE 47 d Q 74 [l0, l1, l2] (zI 5 :: st) G h k := E_iconst (by rfl)
theorem e47_74 : zE 47 d Q 74 [l0, l1, l2] (zI y :: zI x :: st) G h k ↔ ((¬ x = y → zE 47 d Q 84 [l0, l1, l2] st G h k) ∧ (¬ (¬ x = y) → zE 47 d Q 77 [l0, l1, l2] st G h k)) := E_icmp_ne (by rfl)
theorem e47_77 : zE 47 d Q 77 [some (.inr (.inr w9)), l1, l2] st G h k ↔ zE 47 d Q 78 [some (.inr (.inr w9)), l1, l2] (.inr (.inr w9) :: st) G h k := E_aload_n (by rfl) rfl
theorem e47_78 : zE 47 d Q 78 [l0, l1, l2] (zR (some r) :: st) G h k ↔ (G.2.1 r = 5 ∧ zE 47 d Q 81 [l0, l1, l2] (zR (G.2.2.2 r 7) :: st) G h k) := E_getR (by rfl) rfl
theorem e47_81 : zE 47 d Q 81 [l0, l1, some (zI x)] st G h k ↔ zE 47 d Q 82 [l0, l1, some (zI x)] (zI x :: st) G h k := E_iload_n (by rfl) rfl
theorem e47_82 : zE 47 d Q 82 [l0, l1, l2] st G h k ↔ zE 47 d Q 83 [l0, l1, l2] (zI 0 :: st) G h k := E_iconst (by rfl)
theorem e47_83 : zE 47 d Q 83 [l0, l1, l2] (zI x :: zI i :: zR (some r) :: st) G h k ↔ (G.2.1 r = 10 ∧ (0 ≤ i ∧ i < G.2.2.1 r) ∧ zE 47 d Q 84 [l0, l1, l2] st G (zu h r i.toNat x) k) := E_iastore (by rfl)
theorem e47_84 : zE 47 d Q 84 [l0, l1, some (zI x)] st G h k ↔ zE 47 d Q 87 [l0, (zclr l1), some (zI (wr (x + 1)))] st G h k := E_iinc (by rfl) rfl
theorem e47_87 : zE 47 d Q 87 [l0, l1, l2] st G h k ↔ zE 47 d Q 12 [l0, l1, l2] st G h k := E_goto (by rfl)
theorem e47_90 : zE 47 d Q 90 [l0, l1, l2] [] G h k ↔ Q none G h := E_vret (by rfl) rfl
theorem e48_0 : zE 48 d Q 0 [some (.inr (.inr w9))] st G h k ↔ zE 48 d Q 1 [some (.inr (.inr w9))] (.inr (.inr w9) :: st) G h k := E_aload_n (by rfl) rfl
theorem e48_1 : zE 48 d Q 1 [l0] (zR (some r) :: st) G h k ↔ (G.2.1 r = 5 ∧ zE 48 d Q 4 [l0] (zI (h r 12) :: st) G h k) := E_getI (by rfl) (by decide)
theorem e48_4 : zE 48 d Q 4 [l0] st G h k ↔ zE 48 d Q 5 [l0] (zI 1 :: st) G h k := E_iconst (by rfl)
theorem e48_5 : zE 48 d Q 5 [l0] (zI y :: zI x :: st) G h k ↔ ((¬ x = y → zE 48 d Q 20 [l0] st G h k) ∧ (¬ (¬ x = y) → zE 48 d Q 8 [l0] st G h k)) := E_icmp_ne (by rfl)
theorem e48_8 : zE 48 d Q 8 [some (.inr (.inr w9))] st G h k ↔ zE 48 d Q 9 [some (.inr (.inr w9))] (.inr (.inr w9) :: st) G h k := E_aload_n (by rfl) rfl
theorem e48_9 : zE 48 d Q 9 [l0] (zR (some r) :: st) G h k ↔ (G.2.1 r = 5 ∧ zE 48 d Q 12 [l0] (zI (h r 11) :: st) G h k) := E_getI (by rfl) (by decide)
theorem e48_12 : zE 48 d Q 12 [some (.inr (.inr w9))] st G h k ↔ zE 48 d Q 13 [some (.inr (.inr w9))] (.inr (.inr w9) :: st) G h k := E_aload_n (by rfl) rfl
theorem e48_13 : zE 48 d Q 13 [l0] (zR (some r) :: st) G h k ↔ (G.2.1 r = 5 ∧ zE 48 d Q 16 [l0] (zI (h r 11) :: st) G h k) := E_getI (by rfl) (by decide)
theorem e48_16 : zE 48 d Q 16 [l0] (zI y :: zI x :: st) G h k ↔ zE 48 d Q 17 [l0] (zI (wr (x * y)) :: st) G h k := E_imul (by rfl)
theorem e48_17 : zE 48 d Q 17 [l0] st G h k ↔ zE 48 d Q 24 [l0] st G h k := E_goto (by rfl)
theorem e48_20 : zE 48 d Q 20 [some (.inr (.inr w9))] st G h k ↔ zE 48 d Q 21 [some (.inr (.inr w9))] (.inr (.inr w9) :: st) G h k := E_aload_n (by rfl) rfl
theorem e48_21 : zE 48 d Q 21 [l0] (zR (some r) :: st) G h k ↔ (G.2.1 r = 5 ∧ zE 48 d Q 24 [l0] (zI (h r 11) :: st) G h k) := E_getI (by rfl) (by decide)
theorem e48_24 : zE 48 d Q 24 [l0] [zI x] G h k ↔ Q (some (zI x)) G h := E_iret (by rfl) rfl
theorem e49_0 : zE 49 d Q 0 [some (.inr (.inr w9)), l1] st G h k ↔ zE 49 d Q 1 [some (.inr (.inr w9)), l1] (.inr (.inr w9) :: st) G h k := E_aload_n (by rfl) rfl
theorem e49_1 : zE 49 d Q 1 [l0, l1] (zR (some r) :: st) G h k ↔ (G.2.1 r = 5 ∧ zE 49 d Q 4 [l0, l1] (zI (h r 12) :: st) G h k) := E_getI (by rfl) (by decide)
theorem e49_4 : zE 49 d Q 4 [l0, l1] st G h k ↔ zE 49 d Q 5 [l0, l1] (zI 1 :: st) G h k := E_iconst (by rfl)
theorem e49_5 : zE 49 d Q 5 [l0, l1] (zI y :: zI x :: st) G h k ↔ ((¬ x = y → zE 49 d Q 24 [l0, l1] st G h k) ∧ (¬ (¬ x = y) → zE 49 d Q 8 [l0, l1] st G h k)) := E_icmp_ne (by rfl)
theorem e49_8 : zE 49 d Q 8 [some (.inr (.inr w9)), l1] st G h k ↔ zE 49 d Q 9 [some (.inr (.inr w9)), l1] (.inr (.inr w9) :: st) G h k := E_aload_n (by rfl) rfl
theorem e49_9 : zE 49 d Q 9 [l0, l1] (zR (some r) :: st) G h k ↔ (G.2.1 r = 5 ∧ zE 49 d Q 12 [l0, l1] (zI (h r 11) :: st) G h k) := E_getI (by rfl) (by decide)
theorem e49_12 : zE 49 d Q 12 [l0, l1] (zI x :: st) G h k ↔ ((x ≤ 0 → zE 49 d Q 24 [l0, l1] st G h k) ∧ (¬ (x ≤ 0) → zE 49 d Q 15 [l0, l1] st G h k)) := E_if_le (by rfl)
theorem e49_15 : zE 49 d Q 15 [l0, some (zI x)] st G h k ↔ zE 49 d Q 16 [l0, some (zI x)] (zI x :: st) G h k := E_iload_n (by rfl) rfl
theorem e49_16 : zE 49 d Q 16 [some (.inr (.inr w9)), l1] st G h k ↔ zE 49 d Q 17 [some (.inr (.inr w9)), l1] (.inr (.inr w9) :: st) G h k := E_aload_n (by rfl) rfl
theorem e49_17 : zE 49 d Q 17 [l0, l1] (zR (some r) :: st) G h k ↔ (G.2.1 r = 5 ∧ zE 49 d Q 20 [l0, l1] (zI (h r 11) :: st) G h k) := E_getI (by rfl) (by decide)
theorem e49_20 : zE 49 d Q 20 [l0, l1] (zI y :: zI x :: st) G h k ↔ (y ≠ 0 ∧ zE 49 d Q 21 [l0, l1] (zI (wr (x.tdiv y)) :: st) G h k) := E_idiv (by rfl)
theorem e49_21 : zE 49 d Q 21 [l0, l1] st G h k ↔ zE 49 d Q 25 [l0, l1] st G h k := E_goto (by rfl)
theorem e49_24 : zE 49 d Q 24 [l0, some (zI x)] st G h k ↔ zE 49 d Q 25 [l0, some (zI x)] (zI x :: st) G h k := E_iload_n (by rfl) rfl
theorem e49_25 : zE 49 d Q 25 [l0, l1] [zI x] G h k ↔ Q (some (zI x)) G h := E_iret (by rfl) rfl
theorem e50_0 : zE 50 d Q 0 [some (.inr (.inr w9)), l1] st G h k ↔ zE 50 d Q 1 [some (.inr (.inr w9)), l1] (.inr (.inr w9) :: st) G h k := E_aload_n (by rfl) rfl
theorem e50_1 : zE 50 d Q 1 [l0, l1] (zR (some r) :: st) G h k ↔ (G.2.1 r = 5 ∧ zE 50 d Q 4 [l0, l1] (zI (h r 12) :: st) G h k) := E_getI (by rfl) (by decide)
theorem e50_4 : zE 50 d Q 4 [l0, l1] st G h k ↔ zE 50 d Q 5 [l0, l1] (zI 1 :: st) G h k := E_iconst (by rfl)
theorem e50_5 : zE 50 d Q 5 [l0, l1] (zI y :: zI x :: st) G h k ↔ ((¬ x = y → zE 50 d Q 24 [l0, l1] st G h k) ∧ (¬ (¬ x = y) → zE 50 d Q 8 [l0, l1] st G h k)) := E_icmp_ne (by rfl)
theorem e50_8 : zE 50 d Q 8 [some (.inr (.inr w9)), l1] st G h k ↔ zE 50 d Q 9 [some (.inr (.inr w9)), l1] (.inr (.inr w9) :: st) G h k := E_aload_n (by rfl) rfl
theorem e50_9 : zE 50 d Q 9 [l0, l1] (zR (some r) :: st) G h k ↔ (G.2.1 r = 5 ∧ zE 50 d Q 12 [l0, l1] (zI (h r 11) :: st) G h k) := E_getI (by rfl) (by decide)
theorem e50_12 : zE 50 d Q 12 [l0, l1] (zI x :: st) G h k ↔ ((x ≤ 0 → zE 50 d Q 24 [l0, l1] st G h k) ∧ (¬ (x ≤ 0) → zE 50 d Q 15 [l0, l1] st G h k)) := E_if_le (by rfl)
theorem e50_15 : zE 50 d Q 15 [l0, some (zI x)] st G h k ↔ zE 50 d Q 16 [l0, some (zI x)] (zI x :: st) G h k := E_iload_n (by rfl) rfl
theorem e50_16 : zE 50 d Q 16 [some (.inr (.inr w9)), l1] st G h k ↔ zE 50 d Q 17 [some (.inr (.inr w9)), l1] (.inr (.inr w9) :: st) G h k := E_aload_n (by rfl) rfl
theorem e50_17 : zE 50 d Q 17 [l0, l1] (zR (some r) :: st) G h k ↔ (G.2.1 r = 5 ∧ zE 50 d Q 20 [l0, l1] (zI (h r 11) :: st) G h k) := E_getI (by rfl) (by decide)
theorem e50_20 : zE 50 d Q 20 [l0, l1] (zI y :: zI x :: st) G h k ↔ (y ≠ 0 ∧ zE 50 d Q 21 [l0, l1] (zI (x.tmod y) :: st) G h k) := E_irem (by rfl)
theorem e50_21 : zE 50 d Q 21 [l0, l1] st G h k ↔ zE 50 d Q 25 [l0, l1] st G h k := E_goto (by rfl)
theorem e50_24 : zE 50 d Q 24 [l0, some (zI x)] st G h k ↔ zE 50 d Q 25 [l0, some (zI x)] (zI x :: st) G h k := E_iload_n (by rfl) rfl
theorem e50_25 : zE 50 d Q 25 [l0, l1] [zI x] G h k ↔ Q (some (zI x)) G h := E_iret (by rfl) rfl
theorem e51_0 : zE 51 d Q 0 [some (.inr (.inr w9)), l1, l2] st G h k ↔ zE 51 d Q 1 [some (.inr (.inr w9)), l1, l2] (.inr (.inr w9) :: st) G h k := E_aload_n (by rfl) rfl
theorem e51_1 : zE 51 d Q 1 [l0, l1, l2] (zR (some r) :: st) G h k ↔ (G.2.1 r = 5 ∧ zE 51 d Q 4 [l0, l1, l2] (zI (h r 12) :: st) G h k) := E_getI (by rfl) (by decide)
theorem e51_4 : zE 51 d Q 4 [l0, l1, l2] st G h k ↔ zE 51 d Q 5 [l0, l1, l2] (zI 1 :: st) G h k := E_iconst (by rfl)
theorem e51_5 : zE 51 d Q 5 [l0, l1, l2] (zI y :: zI x :: st) G h k ↔ ((¬ x = y → zE 51 d Q 19 [l0, l1, l2] st G h k) ∧ (¬ (¬ x = y) → zE 51 d Q 8 [l0, l1, l2] st G h k)) := E_icmp_ne (by rfl)
theorem e51_8 : zE 51 d Q 8 [l0, some (zI x), l2] st G h k ↔ zE 51 d Q 9 [l0, some (zI x), l2] (zI x :: st) G h k := E_iload_n (by rfl) rfl
theorem e51_9 : zE 51 d Q 9 [some (.inr (.inr w9)), l1, l2] st G h k ↔ zE 51 d Q 10 [some (.inr (.inr w9)), l1, l2] (.inr (.inr w9) :: st) G h k := E_aload_n (by rfl) rfl
theorem e51_10 : zE 51 d Q 10 [l0, l1, l2] (zR (some r) :: st) G h k ↔ (G.2.1 r = 5 ∧ zE 51 d Q 13 [l0, l1, l2] (zI (h r 11) :: st) G h k) := E_getI (by rfl) (by decide)
theorem e51_13 : zE 51 d Q 13 [l0, l1, l2] (zI y :: zI x :: st) G h k ↔ zE 51 d Q 14 [l0, l1, l2] (zI (wr (x * y)) :: st) G h k := E_imul (by rfl)
theorem e51_14 : zE 51 d Q 14 [l0, l1, some (zI x)] st G h k ↔ zE 51 d Q 15 [l0, l1, some (zI x)] (zI x :: st) G h k := E_iload_n (by rfl) rfl
theorem e51_15 : zE 51 d Q 15 [l0, l1, l2] (zI y :: zI x :: st) G h k ↔ zE 51 d Q 16 [l0, l1, l2] (zI (wr (x + y)) :: st) G h k := E_iadd (by rfl)
theorem e51_16 : zE 51 d Q 16 [l0, l1, l2] st G h k ↔ zE 51 d Q 20 [l0, l1, l2] st G h k := E_goto (by rfl)
theorem e51_19 : zE 51 d Q 19 [l0, some (zI x), l2] st G h k ↔ zE 51 d Q 20 [l0, some (zI x), l2] (zI x :: st) G h k := E_iload_n (by rfl) rfl
theorem e51_20 : zE 51 d Q 20 [l0, l1, l2] [zI x] G h k ↔ Q (some (zI x)) G h := E_iret (by rfl) rfl
theorem e52_0 : zE 52 d Q 0 [some (.inr (.inr w9))] st G h k ↔ zE 52 d Q 1 [some (.inr (.inr w9))] (.inr (.inr w9) :: st) G h k := E_aload_n (by rfl) rfl
theorem e52_1 : zE 52 d Q 1 [l0] (zR (some r) :: []) G h k ↔ zE 52 d Q 4 [l0] [] G h k := E_objInit (by rfl) rfl (by decide)
theorem e52_4 : zE 52 d Q 4 [some (.inr (.inr w9))] st G h k ↔ zE 52 d Q 5 [some (.inr (.inr w9))] (.inr (.inr w9) :: st) G h k := E_aload_n (by rfl) rfl
theorem e52_5 : zE 52 d Q 5 [l0] st G h k ↔ (k.1 + 1 ≤ 21 ∧ k.2 + 5 ≤ 95 ∧ zE 52 d Q 8 [l0] (zR (some G.1) :: st) (zgn G 1 5) (zhn h G.1) (k.1 + 1, k.2 + 5)) := E_new (by rfl) (by decide)
theorem e52_8 : zE 52 d Q 8 [l0] (.inr (.inr w9) :: st) G h k ↔ zE 52 d Q 9 [l0] (.inr (.inr w9) :: .inr (.inr w9) :: st) G h k := E_dup (by rfl) rfl
theorem e52_9 : zE 52 d Q 9 [l0] (zR (some r) :: st) G h k ↔ (zsum st ≤ 8 ∧ G.2.1 r = 1 ∧ k.1 + 13 ≤ 21 ∧ k.2 + 56 ≤ 95 ∧ zRunD ztb zmt' d 5 [zR (some r)] G h (fun v G' h' => v = none ∧ zE 52 d Q 12 [l0] st G' h' (k.1 + 13, k.2 + 56))) := E_invI2b (by rfl) (by decide) rfl
theorem e52_12 : zE 52 d Q 12 [l0] (zR q9 :: zR (some r) :: st) G h k ↔ (G.2.1 r = 6 ∧ zE 52 d Q 15 [l0] st (zgu G r 0 q9) h k) := E_putR (by rfl) rfl
theorem e52_15 : zE 52 d Q 15 [some (.inr (.inr w9))] st G h k ↔ zE 52 d Q 16 [some (.inr (.inr w9))] (.inr (.inr w9) :: st) G h k := E_aload_n (by rfl) rfl
theorem e52_16 : zE 52 d Q 16 [some (.inr (.inr w9))] st G h k ↔ zE 52 d Q 17 [some (.inr (.inr w9))] (.inr (.inr w9) :: st) G h k := E_aload_n (by rfl) rfl
theorem e52_17 : zE 52 d Q 17 [l0] (zR (some r) :: st) G h k ↔ (G.2.1 r = 6 ∧ zE 52 d Q 20 [l0] (zR (G.2.2.2 r 0) :: st) G h k) := E_getR (by rfl) rfl
theorem e52_20 : zE 52 d Q 20 [l0] (zR (some r) :: st) G h k ↔ (G.2.1 r = 1 ∧ zE 52 d Q 23 [l0] (zR (G.2.2.2 r 0) :: st) G h k) := E_getR (by rfl) rfl
theorem e52_23 : zE 52 d Q 23 [l0] (zR q9 :: zR (some r) :: st) G h k ↔ (G.2.1 r = 6 ∧ zE 52 d Q 26 [l0] st (zgu G r 1 q9) h k) := E_putR (by rfl) rfl
theorem e52_26 : zE 52 d Q 26 [some (.inr (.inr w9))] st G h k ↔ zE 52 d Q 27 [some (.inr (.inr w9))] (.inr (.inr w9) :: st) G h k := E_aload_n (by rfl) rfl
theorem e52_27 : zE 52 d Q 27 [l0] st G h k ↔ zE 52 d Q 28 [l0] (zI 4 :: st) G h k := E_iconst (by rfl)
theorem e52_28 : zE 52 d Q 28 [l0] (zI i :: st) G h k ↔ (0 ≤ i ∧ i ≤ 1000000 ∧ k.1 + 1 ≤ 21 ∧ k.2 + i.toNat ≤ 95 ∧ zE 52 d Q 30 [l0] (zR (some G.1) :: st) (zgn G 10 i.toNat) (zhn h G.1) (k.1 + 1, k.2 + i.toNat)) := E_newarray (by rfl)
theorem e52_30 : zE 52 d Q 30 [l0] (zR q9 :: zR (some r) :: st) G h k ↔ (G.2.1 r = 6 ∧ zE 52 d Q 33 [l0] st (zgu G r 2 q9) h k) := E_putR (by rfl) rfl
theorem e52_33 : zE 52 d Q 33 [some (.inr (.inr w9))] st G h k ↔ zE 52 d Q 34 [some (.inr (.inr w9))] (.inr (.inr w9) :: st) G h k := E_aload_n (by rfl) rfl
theorem e52_34 : zE 52 d Q 34 [l0] st G h k ↔ zE 52 d Q 35 [l0] (zI 4 :: st) G h k := E_iconst (by rfl)
theorem e52_35 : zE 52 d Q 35 [l0] (zI i :: st) G h k ↔ (0 ≤ i ∧ i ≤ 1000000 ∧ k.1 + 1 ≤ 21 ∧ k.2 + i.toNat ≤ 95 ∧ zE 52 d Q 37 [l0] (zR (some G.1) :: st) (zgn G 10 i.toNat) (zhn h G.1) (k.1 + 1, k.2 + i.toNat)) := E_newarray (by rfl)
theorem e52_37 : zE 52 d Q 37 [l0] (zR q9 :: zR (some r) :: st) G h k ↔ (G.2.1 r = 6 ∧ zE 52 d Q 40 [l0] st (zgu G r 3 q9) h k) := E_putR (by rfl) rfl
theorem e52_40 : zE 52 d Q 40 [some (.inr (.inr w9))] st G h k ↔ zE 52 d Q 41 [some (.inr (.inr w9))] (.inr (.inr w9) :: st) G h k := E_aload_n (by rfl) rfl
theorem e52_41 : zE 52 d Q 41 [l0] st G h k ↔ zE 52 d Q 42 [l0] (zI 3 :: st) G h k := E_iconst (by rfl)
theorem e52_42 : zE 52 d Q 42 [l0] (zI i :: st) G h k ↔ (0 ≤ i ∧ i ≤ 1000000 ∧ k.1 + 1 ≤ 21 ∧ k.2 + i.toNat ≤ 95 ∧ zE 52 d Q 44 [l0] (zR (some G.1) :: st) (zgn G 10 i.toNat) (zhn h G.1) (k.1 + 1, k.2 + i.toNat)) := E_newarray (by rfl)
theorem e52_44 : zE 52 d Q 44 [l0] (zR q9 :: zR (some r) :: st) G h k ↔ (G.2.1 r = 6 ∧ zE 52 d Q 47 [l0] st (zgu G r 4 q9) h k) := E_putR (by rfl) rfl
theorem e52_47 : zE 52 d Q 47 [some (.inr (.inr w9))] st G h k ↔ zE 52 d Q 48 [some (.inr (.inr w9))] (.inr (.inr w9) :: st) G h k := E_aload_n (by rfl) rfl
theorem e52_48 : zE 52 d Q 48 [l0] st G h k ↔ zE 52 d Q 49 [l0] (zI 3 :: st) G h k := E_iconst (by rfl)
theorem e52_49 : zE 52 d Q 49 [l0] (zI i :: st) G h k ↔ (0 ≤ i ∧ i ≤ 1000000 ∧ k.1 + 1 ≤ 21 ∧ k.2 + i.toNat ≤ 95 ∧ zE 52 d Q 51 [l0] (zR (some G.1) :: st) (zgn G 11 i.toNat) (zhn h G.1) (k.1 + 1, k.2 + i.toNat)) := E_newarray (by rfl)
theorem e52_51 : zE 52 d Q 51 [l0] (zR q9 :: zR (some r) :: st) G h k ↔ (G.2.1 r = 6 ∧ zE 52 d Q 54 [l0] st (zgu G r 5 q9) h k) := E_putR (by rfl) rfl
theorem e52_54 : zE 52 d Q 54 [some (.inr (.inr w9))] st G h k ↔ zE 52 d Q 55 [some (.inr (.inr w9))] (.inr (.inr w9) :: st) G h k := E_aload_n (by rfl) rfl
theorem e52_55 : zE 52 d Q 55 [l0] st G h k ↔ zE 52 d Q 56 [l0] (zI 4 :: st) G h k := E_iconst (by rfl)
theorem e52_56 : zE 52 d Q 56 [l0] (zI i :: st) G h k ↔ (0 ≤ i ∧ i ≤ 1000000 ∧ k.1 + 1 ≤ 21 ∧ k.2 + i.toNat ≤ 95 ∧ zE 52 d Q 58 [l0] (zR (some G.1) :: st) (zgn G 11 i.toNat) (zhn h G.1) (k.1 + 1, k.2 + i.toNat)) := E_newarray (by rfl)
theorem e52_58 : zE 52 d Q 58 [l0] (zR q9 :: zR (some r) :: st) G h k ↔ (G.2.1 r = 6 ∧ zE 52 d Q 61 [l0] st (zgu G r 6 q9) h k) := E_putR (by rfl) rfl
theorem e52_61 : zE 52 d Q 61 [some (.inr (.inr w9))] st G h k ↔ zE 52 d Q 62 [some (.inr (.inr w9))] (.inr (.inr w9) :: st) G h k := E_aload_n (by rfl) rfl
theorem e52_62 : zE 52 d Q 62 [l0] st G h k ↔ zE 52 d Q 63 [l0] (zI 4 :: st) G h k := E_iconst (by rfl)
theorem e52_63 : zE 52 d Q 63 [l0] (zI i :: st) G h k ↔ (0 ≤ i ∧ i ≤ 1000000 ∧ k.1 + 1 ≤ 21 ∧ k.2 + i.toNat ≤ 95 ∧ zE 52 d Q 65 [l0] (zR (some G.1) :: st) (zgn G 10 i.toNat) (zhn h G.1) (k.1 + 1, k.2 + i.toNat)) := E_newarray (by rfl)
theorem e52_65 : zE 52 d Q 65 [l0] (zR q9 :: zR (some r) :: st) G h k ↔ (G.2.1 r = 6 ∧ zE 52 d Q 68 [l0] st (zgu G r 7 q9) h k) := E_putR (by rfl) rfl
theorem e52_68 : zE 52 d Q 68 [some (.inr (.inr w9))] st G h k ↔ zE 52 d Q 69 [some (.inr (.inr w9))] (.inr (.inr w9) :: st) G h k := E_aload_n (by rfl) rfl
theorem e52_69 : zE 52 d Q 69 [l0] st G h k ↔ zE 52 d Q 71 [l0] (zI 12 :: st) G h k := E_bipush (by rfl)
theorem e52_71 : zE 52 d Q 71 [l0] (zI i :: st) G h k ↔ (0 ≤ i ∧ i ≤ 1000000 ∧ k.1 + 1 ≤ 21 ∧ k.2 + i.toNat ≤ 95 ∧ zE 52 d Q 73 [l0] (zR (some G.1) :: st) (zgn G 10 i.toNat) (zhn h G.1) (k.1 + 1, k.2 + i.toNat)) := E_newarray (by rfl)
theorem e52_73 : zE 52 d Q 73 [l0] (zR q9 :: zR (some r) :: st) G h k ↔ (G.2.1 r = 6 ∧ zE 52 d Q 76 [l0] st (zgu G r 8 q9) h k) := E_putR (by rfl) rfl
theorem e52_76 : zE 52 d Q 76 [l0] [] G h k ↔ Q none G h := E_vret (by rfl) rfl
theorem e53_0 : zE 53 d Q 0 [l0, l1] st G h k ↔ zE 53 d Q 1 [l0, l1] (zI 0 :: st) G h k := E_iconst (by rfl)
theorem e53_1 : zE 53 d Q 1 [l0, l1] (zI x :: st) G h k ↔ zE 53 d Q 2 [(zclr l0), some (zI x)] st G h k := E_istore_n (by rfl) (by decide)
theorem e53_2 : zE 53 d Q 2 [l0, some (zI x)] st G h k ↔ zE 53 d Q 3 [l0, some (zI x)] (zI x :: st) G h k := E_iload_n (by rfl) rfl
theorem e53_3 : zE 53 d Q 3 [some (.inr (.inr w9)), l1] st G h k ↔ zE 53 d Q 4 [some (.inr (.inr w9)), l1] (.inr (.inr w9) :: st) G h k := E_aload_n (by rfl) rfl
theorem e53_4 : zE 53 d Q 4 [l0, l1] (zR (some r) :: st) G h k ↔ (G.2.1 r = 6 ∧ zE 53 d Q 7 [l0, l1] (zR (G.2.2.2 r 1) :: st) G h k) := E_getR (by rfl) rfl
theorem e53_7 : zE 53 d Q 7 [l0, l1] (zR (some r) :: st) G h k ↔ (G.2.1 r = 5 ∧ zE 53 d Q 10 [l0, l1] (zI (h r 10) :: st) G h k) := E_getI (by rfl) (by decide)
theorem e53_10 : zE 53 d Q 10 [l0, l1] (zI y :: zI x :: st) G h k ↔ ((y ≤ x → zE 53 d Q 60 [l0, l1] st G h k) ∧ (¬ (y ≤ x) → zE 53 d Q 13 [l0, l1] st G h k)) := E_icmp_ge (by rfl)
theorem e53_13 : zE 53 d Q 13 [some (.inr (.inr w9)), l1] st G h k ↔ zE 53 d Q 14 [some (.inr (.inr w9)), l1] (.inr (.inr w9) :: st) G h k := E_aload_n (by rfl) rfl
theorem e53_14 : zE 53 d Q 14 [l0, some (zI x)] st G h k ↔ zE 53 d Q 15 [l0, some (zI x)] (zI x :: st) G h k := E_iload_n (by rfl) rfl
theorem e53_15 : zE 53 d Q 15 [some (.inr (.inr w9)), l1] st G h k ↔ zE 53 d Q 16 [some (.inr (.inr w9)), l1] (.inr (.inr w9) :: st) G h k := E_aload_n (by rfl) rfl
theorem e53_16 : zE 53 d Q 16 [l0, l1] (zR (some r) :: st) G h k ↔ (G.2.1 r = 6 ∧ zE 53 d Q 19 [l0, l1] (zR (G.2.2.2 r 1) :: st) G h k) := E_getR (by rfl) rfl
theorem e53_19 : zE 53 d Q 19 [l0, l1] (zR (some r) :: st) G h k ↔ (G.2.1 r = 5 ∧ zE 53 d Q 22 [l0, l1] (zR (G.2.2.2 r 3) :: st) G h k) := E_getR (by rfl) rfl
theorem e53_22 : zE 53 d Q 22 [l0, some (zI x)] st G h k ↔ zE 53 d Q 23 [l0, some (zI x)] (zI x :: st) G h k := E_iload_n (by rfl) rfl
theorem e53_23 : zE 53 d Q 23 [l0, l1] (zI i :: zR (some r) :: st) G h k ↔ (G.2.1 r = 10 ∧ (0 ≤ i ∧ i < G.2.2.1 r) ∧ zE 53 d Q 24 [l0, l1] (zI (h r i.toNat) :: st) G h k) := E_iaload (by rfl)
theorem e53_24 : zE 53 d Q 24 [some (.inr (.inr w9)), l1] st G h k ↔ zE 53 d Q 25 [some (.inr (.inr w9)), l1] (.inr (.inr w9) :: st) G h k := E_aload_n (by rfl) rfl
theorem e53_25 : zE 53 d Q 25 [l0, l1] (zR (some r) :: st) G h k ↔ (G.2.1 r = 6 ∧ zE 53 d Q 28 [l0, l1] (zR (G.2.2.2 r 1) :: st) G h k) := E_getR (by rfl) rfl
theorem e53_28 : zE 53 d Q 28 [l0, l1] (zR (some r) :: st) G h k ↔ (G.2.1 r = 5 ∧ zE 53 d Q 31 [l0, l1] (zR (G.2.2.2 r 7) :: st) G h k) := E_getR (by rfl) rfl
theorem e53_31 : zE 53 d Q 31 [l0, some (zI x)] st G h k ↔ zE 53 d Q 32 [l0, some (zI x)] (zI x :: st) G h k := E_iload_n (by rfl) rfl
theorem e53_32 : zE 53 d Q 32 [l0, l1] (zI i :: zR (some r) :: st) G h k ↔ (G.2.1 r = 10 ∧ (0 ≤ i ∧ i < G.2.2.1 r) ∧ zE 53 d Q 33 [l0, l1] (zI (h r i.toNat) :: st) G h k) := E_iaload (by rfl)
theorem e53_33 : zE 53 d Q 33 [l0, l1] st G h k ↔ zE 53 d Q 34 [l0, l1] (zI 1 :: st) G h k := E_iconst (by rfl)
theorem e53_34 : zE 53 d Q 34 [l0, l1] (zI y :: zI x :: st) G h k ↔ ((¬ x = y → zE 53 d Q 49 [l0, l1] st G h k) ∧ (¬ (¬ x = y) → zE 53 d Q 37 [l0, l1] st G h k)) := E_icmp_ne (by rfl)
theorem e53_37 : zE 53 d Q 37 [some (.inr (.inr w9)), l1] st G h k ↔ zE 53 d Q 38 [some (.inr (.inr w9)), l1] (.inr (.inr w9) :: st) G h k := E_aload_n (by rfl) rfl
theorem e53_38 : zE 53 d Q 38 [l0, l1] (zR (some r) :: st) G h k ↔ (G.2.1 r = 6 ∧ zE 53 d Q 41 [l0, l1] (zR (G.2.2.2 r 1) :: st) G h k) := E_getR (by rfl) rfl
theorem e53_41 : zE 53 d Q 41 [l0, l1] (zR (some r) :: st) G h k ↔ (G.2.1 r = 5 ∧ zE 53 d Q 44 [l0, l1] (zR (G.2.2.2 r 3) :: st) G h k) := E_getR (by rfl) rfl
theorem e53_44 : zE 53 d Q 44 [l0, some (zI x)] st G h k ↔ zE 53 d Q 45 [l0, some (zI x)] (zI x :: st) G h k := E_iload_n (by rfl) rfl
theorem e53_45 : zE 53 d Q 45 [l0, l1] (zI i :: zR (some r) :: st) G h k ↔ (G.2.1 r = 10 ∧ (0 ≤ i ∧ i < G.2.2.1 r) ∧ zE 53 d Q 46 [l0, l1] (zI (h r i.toNat) :: st) G h k) := E_iaload (by rfl)
theorem e53_46 : zE 53 d Q 46 [l0, l1] st G h k ↔ zE 53 d Q 50 [l0, l1] st G h k := E_goto (by rfl)
theorem e53_49 : zE 53 d Q 49 [l0, l1] st G h k ↔ zE 53 d Q 50 [l0, l1] (zI 0 :: st) G h k := E_iconst (by rfl)
theorem e53_50 : zE 53 d Q 50 [l0, l1] (v2 :: v1 :: v0 :: zR (some r) :: st) G h k ↔ (zsum st ≤ 8 ∧ G.2.1 r = 6 ∧ zRunD ztb zmt' d 54 [zR (some r), v0, v1, v2] G h (fun v G' h' => zE 53 d Q 53 [l0, l1] (v.toList ++ st) G' h' k)) := E_invV2z (by rfl) (by decide) rfl
theorem e53_53 : zE 53 d Q 53 [l0, l1] (zI x :: st) G h k ↔ zE 53 d Q 54 [l0, l1] st G h k := E_pop (by rfl) rfl
theorem e53_54 : zE 53 d Q 54 [l0, some (zI x)] st G h k ↔ zE 53 d Q 57 [(zclr l0), some (zI (wr (x + 1)))] st G h k := E_iinc (by rfl) rfl
theorem e53_57 : zE 53 d Q 57 [l0, l1] st G h k ↔ zE 53 d Q 2 [l0, l1] st G h k := E_goto (by rfl)
theorem e53_60 : zE 53 d Q 60 [l0, l1] [] G h k ↔ Q none G h := E_vret (by rfl) rfl
theorem e54_0 : zE 54 d Q 0 [some (.inr (.inr w9)), l1, l2, l3, l4] st G h k ↔ zE 54 d Q 1 [some (.inr (.inr w9)), l1, l2, l3, l4] (.inr (.inr w9) :: st) G h k := E_aload_n (by rfl) rfl
theorem e54_1 : zE 54 d Q 1 [l0, l1, l2, l3, l4] (zR (some r) :: st) G h k ↔ (G.2.1 r = 6 ∧ zE 54 d Q 4 [l0, l1, l2, l3, l4] (zR (G.2.2.2 r 3) :: st) G h k) := E_getR (by rfl) rfl
theorem e54_4 : zE 54 d Q 4 [l0, some (zI x), l2, l3, l4] st G h k ↔ zE 54 d Q 5 [l0, some (zI x), l2, l3, l4] (zI x :: st) G h k := E_iload_n (by rfl) rfl
theorem e54_5 : zE 54 d Q 5 [l0, l1, l2, l3, l4] (zI i :: zR (some r) :: st) G h k ↔ (G.2.1 r = 10 ∧ (0 ≤ i ∧ i < G.2.2.1 r) ∧ zE 54 d Q 6 [l0, l1, l2, l3, l4] (zI (h r i.toNat) :: st) G h k) := E_iaload (by rfl)
theorem e54_6 : zE 54 d Q 6 [l0, l1, l2, some (zI x), l4] st G h k ↔ zE 54 d Q 7 [l0, l1, l2, some (zI x), l4] (zI x :: st) G h k := E_iload_n (by rfl) rfl
theorem e54_7 : zE 54 d Q 7 [l0, l1, l2, l3, l4] (zI y :: zI x :: st) G h k ↔ ((¬ x = y → zE 54 d Q 22 [l0, l1, l2, l3, l4] st G h k) ∧ (¬ (¬ x = y) → zE 54 d Q 10 [l0, l1, l2, l3, l4] st G h k)) := E_icmp_ne (by rfl)
theorem e54_10 : zE 54 d Q 10 [some (.inr (.inr w9)), l1, l2, l3, l4] st G h k ↔ zE 54 d Q 11 [some (.inr (.inr w9)), l1, l2, l3, l4] (.inr (.inr w9) :: st) G h k := E_aload_n (by rfl) rfl
theorem e54_11 : zE 54 d Q 11 [l0, l1, l2, l3, l4] (zR (some r) :: st) G h k ↔ (G.2.1 r = 6 ∧ zE 54 d Q 14 [l0, l1, l2, l3, l4] (zR (G.2.2.2 r 2) :: st) G h k) := E_getR (by rfl) rfl
theorem e54_14 : zE 54 d Q 14 [l0, some (zI x), l2, l3, l4] st G h k ↔ zE 54 d Q 15 [l0, some (zI x), l2, l3, l4] (zI x :: st) G h k := E_iload_n (by rfl) rfl
theorem e54_15 : zE 54 d Q 15 [l0, l1, l2, l3, l4] (zI i :: zR (some r) :: st) G h k ↔ (G.2.1 r = 10 ∧ (0 ≤ i ∧ i < G.2.2.1 r) ∧ zE 54 d Q 16 [l0, l1, l2, l3, l4] (zI (h r i.toNat) :: st) G h k) := E_iaload (by rfl)
theorem e54_16 : zE 54 d Q 16 [l0, l1, some (zI x), l3, l4] st G h k ↔ zE 54 d Q 17 [l0, l1, some (zI x), l3, l4] (zI x :: st) G h k := E_iload_n (by rfl) rfl
theorem e54_17 : zE 54 d Q 17 [l0, l1, l2, some (zI x), l4] st G h k ↔ zE 54 d Q 18 [l0, l1, l2, some (zI x), l4] (zI x :: st) G h k := E_iload_n (by rfl) rfl
theorem e54_18 : zE 54 d Q 18 [l0, l1, l2, l3, l4] (zI y :: zI x :: st) G h k ↔ zE 54 d Q 19 [l0, l1, l2, l3, l4] (zI (wr (x - y)) :: st) G h k := E_isub (by rfl)
theorem e54_19 : zE 54 d Q 19 [l0, l1, l2, l3, l4] (zI y :: zI x :: st) G h k ↔ ((x = y → zE 54 d Q 26 [l0, l1, l2, l3, l4] st G h k) ∧ (¬ (x = y) → zE 54 d Q 22 [l0, l1, l2, l3, l4] st G h k)) := E_icmp_eq (by rfl)
theorem e54_22 : zE 54 d Q 22 [l0, l1, l2, l3, l4] st G h k ↔ zE 54 d Q 23 [l0, l1, l2, l3, l4] (zI 1 :: st) G h k := E_iconst (by rfl)
theorem e54_23 : zE 54 d Q 23 [l0, l1, l2, l3, l4] st G h k ↔ zE 54 d Q 27 [l0, l1, l2, l3, l4] st G h k := E_goto (by rfl)
theorem e54_26 : zE 54 d Q 26 [l0, l1, l2, l3, l4] st G h k ↔ zE 54 d Q 27 [l0, l1, l2, l3, l4] (zI 0 :: st) G h k := E_iconst (by rfl)
theorem e54_27 : zE 54 d Q 27 [l0, l1, l2, l3, l4] (zI x :: st) G h k ↔ zE 54 d Q 29 [l0, l1, l2, (zclr l3), some (zI x)] st G h k := E_istore (by rfl) (by decide)
theorem e54_29 : zE 54 d Q 29 [some (.inr (.inr w9)), l1, l2, l3, l4] st G h k ↔ zE 54 d Q 30 [some (.inr (.inr w9)), l1, l2, l3, l4] (.inr (.inr w9) :: st) G h k := E_aload_n (by rfl) rfl
theorem e54_30 : zE 54 d Q 30 [l0, l1, l2, l3, l4] (zR (some r) :: st) G h k ↔ (G.2.1 r = 6 ∧ zE 54 d Q 33 [l0, l1, l2, l3, l4] (zR (G.2.2.2 r 3) :: st) G h k) := E_getR (by rfl) rfl
theorem e54_33 : zE 54 d Q 33 [l0, some (zI x), l2, l3, l4] st G h k ↔ zE 54 d Q 34 [l0, some (zI x), l2, l3, l4] (zI x :: st) G h k := E_iload_n (by rfl) rfl
theorem e54_34 : zE 54 d Q 34 [l0, l1, l2, some (zI x), l4] st G h k ↔ zE 54 d Q 35 [l0, l1, l2, some (zI x), l4] (zI x :: st) G h k := E_iload_n (by rfl) rfl
theorem e54_35 : zE 54 d Q 35 [l0, l1, l2, l3, l4] (zI x :: zI i :: zR (some r) :: st) G h k ↔ (G.2.1 r = 10 ∧ (0 ≤ i ∧ i < G.2.2.1 r) ∧ zE 54 d Q 36 [l0, l1, l2, l3, l4] st G (zu h r i.toNat x) k) := E_iastore (by rfl)
theorem e54_36 : zE 54 d Q 36 [some (.inr (.inr w9)), l1, l2, l3, l4] st G h k ↔ zE 54 d Q 37 [some (.inr (.inr w9)), l1, l2, l3, l4] (.inr (.inr w9) :: st) G h k := E_aload_n (by rfl) rfl
theorem e54_37 : zE 54 d Q 37 [l0, l1, l2, l3, l4] (zR (some r) :: st) G h k ↔ (G.2.1 r = 6 ∧ zE 54 d Q 40 [l0, l1, l2, l3, l4] (zR (G.2.2.2 r 2) :: st) G h k) := E_getR (by rfl) rfl
theorem e54_40 : zE 54 d Q 40 [l0, some (zI x), l2, l3, l4] st G h k ↔ zE 54 d Q 41 [l0, some (zI x), l2, l3, l4] (zI x :: st) G h k := E_iload_n (by rfl) rfl
theorem e54_41 : zE 54 d Q 41 [l0, l1, some (zI x), l3, l4] st G h k ↔ zE 54 d Q 42 [l0, l1, some (zI x), l3, l4] (zI x :: st) G h k := E_iload_n (by rfl) rfl
theorem e54_42 : zE 54 d Q 42 [l0, l1, l2, some (zI x), l4] st G h k ↔ zE 54 d Q 43 [l0, l1, l2, some (zI x), l4] (zI x :: st) G h k := E_iload_n (by rfl) rfl
theorem e54_43 : zE 54 d Q 43 [l0, l1, l2, l3, l4] (zI y :: zI x :: st) G h k ↔ zE 54 d Q 44 [l0, l1, l2, l3, l4] (zI (wr (x - y)) :: st) G h k := E_isub (by rfl)
theorem e54_44 : zE 54 d Q 44 [l0, l1, l2, l3, l4] (zI x :: zI i :: zR (some r) :: st) G h k ↔ (G.2.1 r = 10 ∧ (0 ≤ i ∧ i < G.2.2.1 r) ∧ zE 54 d Q 45 [l0, l1, l2, l3, l4] st G (zu h r i.toNat x) k) := E_iastore (by rfl)
theorem e54_45 : zE 54 d Q 45 [l0, l1, l2, l3, some (zI x)] st G h k ↔ zE 54 d Q 47 [l0, l1, l2, l3, some (zI x)] (zI x :: st) G h k := E_iload (by rfl) rfl
theorem e54_47 : zE 54 d Q 47 [l0, l1, l2, l3, l4] [zI x] G h k ↔ ((x = 0 ∨ x = 1) ∧ Q (some (zI x)) G h) := E_zret (by rfl) rfl
theorem e55_0 : zE 55 d Q 0 [some (.inr (.inr w9)), l1, l2, l3, l4, l5, l6, l7] st G h k ↔ zE 55 d Q 1 [some (.inr (.inr w9)), l1, l2, l3, l4, l5, l6, l7] (.inr (.inr w9) :: st) G h k := E_aload_n (by rfl) rfl
theorem e55_1 : zE 55 d Q 1 [l0, l1, l2, l3, l4, l5, l6, l7] (zR (some r) :: st) G h k ↔ (G.2.1 r = 6 ∧ zE 55 d Q 4 [l0, l1, l2, l3, l4, l5, l6, l7] (zR (G.2.2.2 r 5) :: st) G h k) := E_getR (by rfl) rfl
theorem e55_4 : zE 55 d Q 4 [l0, l1, l2, l3, l4, l5, l6, l7] st G h k ↔ zE 55 d Q 5 [l0, l1, l2, l3, l4, l5, l6, l7] (zL 0 :: st) G h k := E_lconst (by rfl)
theorem e55_5 : zE 55 d Q 5 [l0, l1, l2, l3, l4, l5, l6, l7] (v1 :: v0 :: st) G h k ↔ (zsum st ≤ 8 ∧ zRunD ztb zmt' d 218 [v0, v1] G h (fun v G' h' => zE 55 d Q 8 [l0, l1, l2, l3, l4, l5, l6, l7] (v.toList ++ st) G' h' k)) := E_invS2z (by rfl) (by decide) rfl
theorem e55_8 : zE 55 d Q 8 [l0, l1, l2, l3, l4, l5, l6, l7] st G h k ↔ zE 55 d Q 9 [l0, l1, l2, l3, l4, l5, l6, l7] (zI 0 :: st) G h k := E_iconst (by rfl)
theorem e55_9 : zE 55 d Q 9 [l0, l1, l2, l3, l4, l5, l6, l7] (zI x :: st) G h k ↔ zE 55 d Q 11 [l0, l1, l2, l3, (zclr l4), some (zI x), l6, l7] st G h k := E_istore (by rfl) (by decide)
theorem e55_11 : zE 55 d Q 11 [l0, l1, l2, l3, l4, some (zI x), l6, l7] st G h k ↔ zE 55 d Q 13 [l0, l1, l2, l3, l4, some (zI x), l6, l7] (zI x :: st) G h k := E_iload (by rfl) rfl
theorem e55_13 : zE 55 d Q 13 [some (.inr (.inr w9)), l1, l2, l3, l4, l5, l6, l7] st G h k ↔ zE 55 d Q 14 [some (.inr (.inr w9)), l1, l2, l3, l4, l5, l6, l7] (.inr (.inr w9) :: st) G h k := E_aload_n (by rfl) rfl
theorem e55_14 : zE 55 d Q 14 [l0, l1, l2, l3, l4, l5, l6, l7] (zR (some r) :: st) G h k ↔ (G.2.1 r = 6 ∧ zE 55 d Q 17 [l0, l1, l2, l3, l4, l5, l6, l7] (zR (G.2.2.2 r 1) :: st) G h k) := E_getR (by rfl) rfl
theorem e55_17 : zE 55 d Q 17 [l0, l1, l2, l3, l4, l5, l6, l7] (zR (some r) :: st) G h k ↔ (G.2.1 r = 5 ∧ zE 55 d Q 20 [l0, l1, l2, l3, l4, l5, l6, l7] (zI (h r 10) :: st) G h k) := E_getI (by rfl) (by decide)
theorem e55_20 : zE 55 d Q 20 [l0, l1, l2, l3, l4, l5, l6, l7] (zI y :: zI x :: st) G h k ↔ ((y ≤ x → zE 55 d Q 190 [l0, l1, l2, l3, l4, l5, l6, l7] st G h k) ∧ (¬ (y ≤ x) → zE 55 d Q 23 [l0, l1, l2, l3, l4, l5, l6, l7] st G h k)) := E_icmp_ge (by rfl)
theorem e55_23 : zE 55 d Q 23 [some (.inr (.inr w9)), l1, l2, l3, l4, l5, l6, l7] st G h k ↔ zE 55 d Q 24 [some (.inr (.inr w9)), l1, l2, l3, l4, l5, l6, l7] (.inr (.inr w9) :: st) G h k := E_aload_n (by rfl) rfl
theorem e55_24 : zE 55 d Q 24 [l0, l1, l2, l3, l4, l5, l6, l7] (zR (some r) :: st) G h k ↔ (G.2.1 r = 6 ∧ zE 55 d Q 27 [l0, l1, l2, l3, l4, l5, l6, l7] (zR (G.2.2.2 r 6) :: st) G h k) := E_getR (by rfl) rfl
theorem e55_27 : zE 55 d Q 27 [l0, l1, l2, l3, l4, some (zI x), l6, l7] st G h k ↔ zE 55 d Q 29 [l0, l1, l2, l3, l4, some (zI x), l6, l7] (zI x :: st) G h k := E_iload (by rfl) rfl
theorem e55_29 : zE 55 d Q 29 [l0, l1, l2, l3, l4, l5, l6, l7] st G h k ↔ zE 55 d Q 30 [l0, l1, l2, l3, l4, l5, l6, l7] (zL 0 :: st) G h k := E_lconst (by rfl)
theorem e55_30 : zE 55 d Q 30 [l0, l1, l2, l3, l4, l5, l6, l7] (zL x :: zI i :: zR (some r) :: st) G h k ↔ (G.2.1 r = 11 ∧ (0 ≤ i ∧ i < G.2.2.1 r) ∧ zE 55 d Q 31 [l0, l1, l2, l3, l4, l5, l6, l7] st G (zu h r i.toNat x) k) := E_lastore (by rfl)
theorem e55_31 : zE 55 d Q 31 [some (.inr (.inr w9)), l1, l2, l3, l4, l5, l6, l7] st G h k ↔ zE 55 d Q 32 [some (.inr (.inr w9)), l1, l2, l3, l4, l5, l6, l7] (.inr (.inr w9) :: st) G h k := E_aload_n (by rfl) rfl
theorem e55_32 : zE 55 d Q 32 [l0, l1, l2, l3, l4, l5, l6, l7] (zR (some r) :: st) G h k ↔ (G.2.1 r = 6 ∧ zE 55 d Q 35 [l0, l1, l2, l3, l4, l5, l6, l7] (zR (G.2.2.2 r 7) :: st) G h k) := E_getR (by rfl) rfl
theorem e55_35 : zE 55 d Q 35 [l0, l1, l2, l3, l4, some (zI x), l6, l7] st G h k ↔ zE 55 d Q 37 [l0, l1, l2, l3, l4, some (zI x), l6, l7] (zI x :: st) G h k := E_iload (by rfl) rfl
theorem e55_37 : zE 55 d Q 37 [l0, l1, l2, l3, l4, l5, l6, l7] st G h k ↔ zE 55 d Q 38 [l0, l1, l2, l3, l4, l5, l6, l7] (zI 0 :: st) G h k := E_iconst (by rfl)
theorem e55_38 : zE 55 d Q 38 [l0, l1, l2, l3, l4, l5, l6, l7] (zI x :: zI i :: zR (some r) :: st) G h k ↔ (G.2.1 r = 10 ∧ (0 ≤ i ∧ i < G.2.2.1 r) ∧ zE 55 d Q 39 [l0, l1, l2, l3, l4, l5, l6, l7] st G (zu h r i.toNat x) k) := E_iastore (by rfl)
theorem e55_39 : zE 55 d Q 39 [some (.inr (.inr w9)), l1, l2, l3, l4, l5, l6, l7] st G h k ↔ zE 55 d Q 40 [some (.inr (.inr w9)), l1, l2, l3, l4, l5, l6, l7] (.inr (.inr w9) :: st) G h k := E_aload_n (by rfl) rfl
theorem e55_40 : zE 55 d Q 40 [l0, l1, l2, l3, l4, l5, l6, l7] (zR (some r) :: st) G h k ↔ (G.2.1 r = 6 ∧ zE 55 d Q 43 [l0, l1, l2, l3, l4, l5, l6, l7] (zR (G.2.2.2 r 4) :: st) G h k) := E_getR (by rfl) rfl
theorem e55_43 : zE 55 d Q 43 [l0, l1, l2, l3, l4, l5, l6, l7] st G h k ↔ zE 55 d Q 44 [l0, l1, l2, l3, l4, l5, l6, l7] (zI 0 :: st) G h k := E_iconst (by rfl)
theorem e55_44 : zE 55 d Q 44 [l0, l1, l2, l3, l4, l5, l6, l7] (v1 :: v0 :: st) G h k ↔ (zsum st ≤ 8 ∧ zRunD ztb zmt' d 219 [v0, v1] G h (fun v G' h' => zE 55 d Q 47 [l0, l1, l2, l3, l4, l5, l6, l7] (v.toList ++ st) G' h' k)) := E_invS2z (by rfl) (by decide) rfl
theorem e55_47 : zE 55 d Q 47 [l0, l1, l2, l3, l4, l5, l6, l7] st G h k ↔ zE 55 d Q 48 [l0, l1, l2, l3, l4, l5, l6, l7] (zI 0 :: st) G h k := E_iconst (by rfl)
theorem e55_48 : zE 55 d Q 48 [l0, l1, l2, l3, l4, l5, l6, l7] (zI x :: st) G h k ↔ zE 55 d Q 50 [l0, l1, l2, l3, l4, (zclr l5), some (zI x), l7] st G h k := E_istore (by rfl) (by decide)
theorem e55_50 : zE 55 d Q 50 [l0, l1, l2, l3, l4, l5, some (zI x), l7] st G h k ↔ zE 55 d Q 52 [l0, l1, l2, l3, l4, l5, some (zI x), l7] (zI x :: st) G h k := E_iload (by rfl) rfl
theorem e55_52 : zE 55 d Q 52 [l0, l1, l2, l3, l4, l5, l6, l7] st G h k ↔ zE 55 d Q 53 [l0, l1, l2, l3, l4, l5, l6, l7] (zI 5 :: st) G h k := E_iconst (by rfl)
theorem e55_53 : zE 55 d Q 53 [l0, l1, l2, l3, l4, l5, l6, l7] (zI y :: zI x :: st) G h k ↔ ((y ≤ x → zE 55 d Q 136 [l0, l1, l2, l3, l4, l5, l6, l7] st G h k) ∧ (¬ (y ≤ x) → zE 55 d Q 56 [l0, l1, l2, l3, l4, l5, l6, l7] st G h k)) := E_icmp_ge (by rfl)
theorem e55_56 : zE 55 d Q 56 [l0, l1, l2, l3, l4, l5, some (zI x), l7] st G h k ↔ zE 55 d Q 58 [l0, l1, l2, l3, l4, l5, some (zI x), l7] (zI x :: st) G h k := E_iload (by rfl) rfl
theorem e55_58 : zE 55 d Q 58 [l0, l1, l2, l3, l4, l5, l6, l7] st G h k ↔ zE 55 d Q 59 [l0, l1, l2, l3, l4, l5, l6, l7] (zI 3 :: st) G h k := E_iconst (by rfl)
theorem e55_59 : zE 55 d Q 59 [l0, l1, l2, l3, l4, l5, l6, l7] (zI y :: zI x :: st) G h k ↔ ((¬ x = y → zE 55 d Q 72 [l0, l1, l2, l3, l4, l5, l6, l7] st G h k) ∧ (¬ (¬ x = y) → zE 55 d Q 62 [l0, l1, l2, l3, l4, l5, l6, l7] st G h k)) := E_icmp_ne (by rfl)
theorem e55_62 : zE 55 d Q 62 [some (.inr (.inr w9)), l1, l2, l3, l4, l5, l6, l7] st G h k ↔ zE 55 d Q 63 [some (.inr (.inr w9)), l1, l2, l3, l4, l5, l6, l7] (.inr (.inr w9) :: st) G h k := E_aload_n (by rfl) rfl
theorem e55_63 : zE 55 d Q 63 [l0, l1, l2, l3, l4, l5, l6, l7] (zR (some r) :: st) G h k ↔ (G.2.1 r = 6 ∧ zE 55 d Q 66 [l0, l1, l2, l3, l4, l5, l6, l7] (zR (G.2.2.2 r 2) :: st) G h k) := E_getR (by rfl) rfl
theorem e55_66 : zE 55 d Q 66 [l0, l1, l2, l3, l4, some (zI x), l6, l7] st G h k ↔ zE 55 d Q 68 [l0, l1, l2, l3, l4, some (zI x), l6, l7] (zI x :: st) G h k := E_iload (by rfl) rfl
theorem e55_68 : zE 55 d Q 68 [l0, l1, l2, l3, l4, l5, l6, l7] (zI i :: zR (some r) :: st) G h k ↔ (G.2.1 r = 10 ∧ (0 ≤ i ∧ i < G.2.2.1 r) ∧ zE 55 d Q 69 [l0, l1, l2, l3, l4, l5, l6, l7] (zI (h r i.toNat) :: st) G h k) := E_iaload (by rfl)
theorem e55_69 : zE 55 d Q 69 [l0, l1, l2, l3, l4, l5, l6, l7] st G h k ↔ zE 55 d Q 99 [l0, l1, l2, l3, l4, l5, l6, l7] st G h k := E_goto (by rfl)
theorem e55_72 : zE 55 d Q 72 [l0, l1, l2, l3, l4, l5, some (zI x), l7] st G h k ↔ zE 55 d Q 74 [l0, l1, l2, l3, l4, l5, some (zI x), l7] (zI x :: st) G h k := E_iload (by rfl) rfl
theorem e55_74 : zE 55 d Q 74 [l0, l1, l2, l3, l4, l5, l6, l7] st G h k ↔ zE 55 d Q 75 [l0, l1, l2, l3, l4, l5, l6, l7] (zI 4 :: st) G h k := E_iconst (by rfl)
theorem e55_75 : zE 55 d Q 75 [l0, l1, l2, l3, l4, l5, l6, l7] (zI y :: zI x :: st) G h k ↔ ((¬ x = y → zE 55 d Q 88 [l0, l1, l2, l3, l4, l5, l6, l7] st G h k) ∧ (¬ (¬ x = y) → zE 55 d Q 78 [l0, l1, l2, l3, l4, l5, l6, l7] st G h k)) := E_icmp_ne (by rfl)
theorem e55_78 : zE 55 d Q 78 [some (.inr (.inr w9)), l1, l2, l3, l4, l5, l6, l7] st G h k ↔ zE 55 d Q 79 [some (.inr (.inr w9)), l1, l2, l3, l4, l5, l6, l7] (.inr (.inr w9) :: st) G h k := E_aload_n (by rfl) rfl
theorem e55_79 : zE 55 d Q 79 [l0, l1, l2, l3, l4, l5, l6, l7] (zR (some r) :: st) G h k ↔ (G.2.1 r = 6 ∧ zE 55 d Q 82 [l0, l1, l2, l3, l4, l5, l6, l7] (zR (G.2.2.2 r 3) :: st) G h k) := E_getR (by rfl) rfl
theorem e55_82 : zE 55 d Q 82 [l0, l1, l2, l3, l4, some (zI x), l6, l7] st G h k ↔ zE 55 d Q 84 [l0, l1, l2, l3, l4, some (zI x), l6, l7] (zI x :: st) G h k := E_iload (by rfl) rfl
theorem e55_84 : zE 55 d Q 84 [l0, l1, l2, l3, l4, l5, l6, l7] (zI i :: zR (some r) :: st) G h k ↔ (G.2.1 r = 10 ∧ (0 ≤ i ∧ i < G.2.2.1 r) ∧ zE 55 d Q 85 [l0, l1, l2, l3, l4, l5, l6, l7] (zI (h r i.toNat) :: st) G h k) := E_iaload (by rfl)
theorem e55_85 : zE 55 d Q 85 [l0, l1, l2, l3, l4, l5, l6, l7] st G h k ↔ zE 55 d Q 99 [l0, l1, l2, l3, l4, l5, l6, l7] st G h k := E_goto (by rfl)
theorem e55_88 : zE 55 d Q 88 [l0, some (.inr (.inr w9)), l2, l3, l4, l5, l6, l7] st G h k ↔ zE 55 d Q 89 [l0, some (.inr (.inr w9)), l2, l3, l4, l5, l6, l7] (.inr (.inr w9) :: st) G h k := E_aload_n (by rfl) rfl
theorem e55_89 : zE 55 d Q 89 [l0, l1, some (zI x), l3, l4, l5, l6, l7] st G h k ↔ zE 55 d Q 90 [l0, l1, some (zI x), l3, l4, l5, l6, l7] (zI x :: st) G h k := E_iload_n (by rfl) rfl
theorem e55_90 : zE 55 d Q 90 [l0, l1, l2, l3, l4, l5, some (zI x), l7] st G h k ↔ zE 55 d Q 92 [l0, l1, l2, l3, l4, l5, some (zI x), l7] (zI x :: st) G h k := E_iload (by rfl) rfl
theorem e55_92 : zE 55 d Q 92 [l0, l1, l2, l3, l4, l5, l6, l7] st G h k ↔ zE 55 d Q 93 [l0, l1, l2, l3, l4, l5, l6, l7] (zI 4 :: st) G h k := E_iconst (by rfl)
theorem e55_93 : zE 55 d Q 93 [l0, l1, l2, l3, l4, l5, l6, l7] (zI y :: zI x :: st) G h k ↔ zE 55 d Q 94 [l0, l1, l2, l3, l4, l5, l6, l7] (zI (wr (x * y)) :: st) G h k := E_imul (by rfl)
theorem e55_94 : zE 55 d Q 94 [l0, l1, l2, l3, l4, l5, l6, l7] (zI y :: zI x :: st) G h k ↔ zE 55 d Q 95 [l0, l1, l2, l3, l4, l5, l6, l7] (zI (wr (x + y)) :: st) G h k := E_iadd (by rfl)
theorem e55_95 : zE 55 d Q 95 [l0, l1, l2, l3, l4, some (zI x), l6, l7] st G h k ↔ zE 55 d Q 97 [l0, l1, l2, l3, l4, some (zI x), l6, l7] (zI x :: st) G h k := E_iload (by rfl) rfl
theorem e55_97 : zE 55 d Q 97 [l0, l1, l2, l3, l4, l5, l6, l7] (zI y :: zI x :: st) G h k ↔ zE 55 d Q 98 [l0, l1, l2, l3, l4, l5, l6, l7] (zI (wr (x + y)) :: st) G h k := E_iadd (by rfl)
theorem e55_98 : zE 55 d Q 98 [l0, l1, l2, l3, l4, l5, l6, l7] (zI i :: zR (some r) :: st) G h k ↔ (G.2.1 r = 10 ∧ (0 ≤ i ∧ i < G.2.2.1 r) ∧ zE 55 d Q 99 [l0, l1, l2, l3, l4, l5, l6, l7] (zI (h r i.toNat) :: st) G h k) := E_iaload (by rfl)
theorem e55_99 : zE 55 d Q 99 [l0, l1, l2, l3, l4, l5, l6, l7] (zI x :: st) G h k ↔ zE 55 d Q 101 [l0, l1, l2, l3, l4, l5, (zclr l6), some (zI x)] st G h k := E_istore (by rfl) (by decide)
theorem e55_101 : zE 55 d Q 101 [l0, l1, l2, l3, l4, l5, l6, some (zI x)] st G h k ↔ zE 55 d Q 103 [l0, l1, l2, l3, l4, l5, l6, some (zI x)] (zI x :: st) G h k := E_iload (by rfl) rfl
theorem e55_103 : zE 55 d Q 103 [l0, l1, l2, l3, l4, l5, l6, l7] (zI x :: st) G h k ↔ ((x ≤ 0 → zE 55 d Q 130 [l0, l1, l2, l3, l4, l5, l6, l7] st G h k) ∧ (¬ (x ≤ 0) → zE 55 d Q 106 [l0, l1, l2, l3, l4, l5, l6, l7] st G h k)) := E_if_le (by rfl)
theorem e55_106 : zE 55 d Q 106 [some (.inr (.inr w9)), l1, l2, l3, l4, l5, l6, l7] st G h k ↔ zE 55 d Q 107 [some (.inr (.inr w9)), l1, l2, l3, l4, l5, l6, l7] (.inr (.inr w9) :: st) G h k := E_aload_n (by rfl) rfl
theorem e55_107 : zE 55 d Q 107 [l0, l1, l2, l3, l4, some (zI x), l6, l7] st G h k ↔ zE 55 d Q 109 [l0, l1, l2, l3, l4, some (zI x), l6, l7] (zI x :: st) G h k := E_iload (by rfl) rfl
theorem e55_109 : zE 55 d Q 109 [l0, l1, l2, l3, l4, l5, l6, some (zI x)] st G h k ↔ zE 55 d Q 111 [l0, l1, l2, l3, l4, l5, l6, some (zI x)] (zI x :: st) G h k := E_iload (by rfl) rfl
theorem e55_111 : zE 55 d Q 111 [l0, l1, l2, l3, l4, l5, some (zI x), l7] st G h k ↔ zE 55 d Q 113 [l0, l1, l2, l3, l4, l5, some (zI x), l7] (zI x :: st) G h k := E_iload (by rfl) rfl
theorem e55_113 : zE 55 d Q 113 [l0, l1, l2, some (.inr (.inr w9)), l4, l5, l6, l7] st G h k ↔ zE 55 d Q 114 [l0, l1, l2, some (.inr (.inr w9)), l4, l5, l6, l7] (.inr (.inr w9) :: st) G h k := E_aload_n (by rfl) rfl
theorem e55_114 : zE 55 d Q 114 [l0, l1, l2, l3, some (zI x), l5, l6, l7] st G h k ↔ zE 55 d Q 116 [l0, l1, l2, l3, some (zI x), l5, l6, l7] (zI x :: st) G h k := E_iload (by rfl) rfl
theorem e55_116 : zE 55 d Q 116 [l0, l1, l2, l3, l4, some (zI x), l6, l7] st G h k ↔ zE 55 d Q 118 [l0, l1, l2, l3, l4, some (zI x), l6, l7] (zI x :: st) G h k := E_iload (by rfl) rfl
theorem e55_118 : zE 55 d Q 118 [l0, l1, l2, l3, l4, l5, l6, l7] (zI y :: zI x :: st) G h k ↔ zE 55 d Q 119 [l0, l1, l2, l3, l4, l5, l6, l7] (zI (wr (x + y)) :: st) G h k := E_iadd (by rfl)
theorem e55_119 : zE 55 d Q 119 [l0, l1, l2, l3, l4, l5, l6, l7] (zI i :: zR (some r) :: st) G h k ↔ (G.2.1 r = 10 ∧ (0 ≤ i ∧ i < G.2.2.1 r) ∧ zE 55 d Q 120 [l0, l1, l2, l3, l4, l5, l6, l7] (zI (h r i.toNat) :: st) G h k) := E_iaload (by rfl)
theorem e55_120 : zE 55 d Q 120 [l0, l1, l2, l3, l4, l5, l6, l7] st G h k ↔ zE 55 d Q 121 [l0, l1, l2, l3, l4, l5, l6, l7] (zI 2 :: st) G h k := E_iconst (by rfl)
theorem e55_121 : zE 55 d Q 121 [l0, l1, l2, l3, l4, l5, some (zI x), l7] st G h k ↔ zE 55 d Q 123 [l0, l1, l2, l3, l4, l5, some (zI x), l7] (zI x :: st) G h k := E_iload (by rfl) rfl
theorem e55_123 : zE 55 d Q 123 [l0, l1, l2, l3, l4, l5, l6, l7] (zI y :: zI x :: st) G h k ↔ zE 55 d Q 124 [l0, l1, l2, l3, l4, l5, l6, l7] (zI (wr (x * y)) :: st) G h k := E_imul (by rfl)
theorem e55_124 : zE 55 d Q 124 [l0, l1, l2, l3, l4, l5, l6, l7] (zI y :: zI x :: st) G h k ↔ ((0 ≤ y ∧ y < 32) ∧ zE 55 d Q 125 [l0, l1, l2, l3, l4, l5, l6, l7] (zI (x / 2 ^ y.toNat) :: st) G h k) := E_ishr (by rfl)
theorem e55_125 : zE 55 d Q 125 [l0, l1, l2, l3, l4, l5, l6, l7] st G h k ↔ zE 55 d Q 126 [l0, l1, l2, l3, l4, l5, l6, l7] (zI 3 :: st) G h k := E_iconst (by rfl)
theorem e55_126 : zE 55 d Q 126 [l0, l1, l2, l3, l4, l5, l6, l7] (zI y :: zI x :: st) G h k ↔ zE 55 d Q 127 [l0, l1, l2, l3, l4, l5, l6, l7] (zI (zand x y) :: st) G h k := E_iand (by rfl)
theorem e55_127 : zE 55 d Q 127 [l0, l1, l2, l3, l4, l5, l6, l7] (v3 :: v2 :: v1 :: v0 :: zR (some r) :: st) G h k ↔ (zsum st ≤ 8 ∧ G.2.1 r = 6 ∧ zRunD ztb zmt' d 56 [zR (some r), v0, v1, v2, v3] G h (fun v G' h' => zE 55 d Q 130 [l0, l1, l2, l3, l4, l5, l6, l7] (v.toList ++ st) G' h' k)) := E_invV2z (by rfl) (by decide) rfl
theorem e55_130 : zE 55 d Q 130 [l0, l1, l2, l3, l4, l5, some (zI x), l7] st G h k ↔ zE 55 d Q 133 [l0, l1, l2, l3, l4, (zclr l5), some (zI (wr (x + 1))), l7] st G h k := E_iinc (by rfl) rfl
theorem e55_133 : zE 55 d Q 133 [l0, l1, l2, l3, l4, l5, l6, l7] st G h k ↔ zE 55 d Q 50 [l0, l1, l2, l3, l4, l5, l6, l7] st G h k := E_goto (by rfl)
theorem e55_136 : zE 55 d Q 136 [l0, l1, l2, l3, l4, l5, l6, l7] st G h k ↔ zE 55 d Q 137 [l0, l1, l2, l3, l4, l5, l6, l7] (zI 0 :: st) G h k := E_iconst (by rfl)
theorem e55_137 : zE 55 d Q 137 [l0, l1, l2, l3, l4, l5, l6, l7] (zI x :: st) G h k ↔ zE 55 d Q 139 [l0, l1, l2, l3, l4, (zclr l5), some (zI x), l7] st G h k := E_istore (by rfl) (by decide)
theorem e55_139 : zE 55 d Q 139 [l0, l1, l2, l3, l4, l5, some (zI x), l7] st G h k ↔ zE 55 d Q 141 [l0, l1, l2, l3, l4, l5, some (zI x), l7] (zI x :: st) G h k := E_iload (by rfl) rfl
theorem e55_141 : zE 55 d Q 141 [l0, l1, l2, l3, l4, l5, l6, l7] st G h k ↔ zE 55 d Q 142 [l0, l1, l2, l3, l4, l5, l6, l7] (zI 3 :: st) G h k := E_iconst (by rfl)
theorem e55_142 : zE 55 d Q 142 [l0, l1, l2, l3, l4, l5, l6, l7] (zI y :: zI x :: st) G h k ↔ ((y ≤ x → zE 55 d Q 184 [l0, l1, l2, l3, l4, l5, l6, l7] st G h k) ∧ (¬ (y ≤ x) → zE 55 d Q 145 [l0, l1, l2, l3, l4, l5, l6, l7] st G h k)) := E_icmp_ge (by rfl)
theorem e55_145 : zE 55 d Q 145 [some (.inr (.inr w9)), l1, l2, l3, l4, l5, l6, l7] st G h k ↔ zE 55 d Q 146 [some (.inr (.inr w9)), l1, l2, l3, l4, l5, l6, l7] (.inr (.inr w9) :: st) G h k := E_aload_n (by rfl) rfl
theorem e55_146 : zE 55 d Q 146 [l0, l1, l2, l3, l4, l5, l6, l7] (zR (some r) :: st) G h k ↔ (G.2.1 r = 6 ∧ zE 55 d Q 149 [l0, l1, l2, l3, l4, l5, l6, l7] (zR (G.2.2.2 r 8) :: st) G h k) := E_getR (by rfl) rfl
theorem e55_149 : zE 55 d Q 149 [l0, l1, l2, l3, l4, l5, some (zI x), l7] st G h k ↔ zE 55 d Q 151 [l0, l1, l2, l3, l4, l5, some (zI x), l7] (zI x :: st) G h k := E_iload (by rfl) rfl
theorem e55_151 : zE 55 d Q 151 [l0, l1, l2, l3, l4, l5, l6, l7] st G h k ↔ zE 55 d Q 152 [l0, l1, l2, l3, l4, l5, l6, l7] (zI 4 :: st) G h k := E_iconst (by rfl)
theorem e55_152 : zE 55 d Q 152 [l0, l1, l2, l3, l4, l5, l6, l7] (zI y :: zI x :: st) G h k ↔ zE 55 d Q 153 [l0, l1, l2, l3, l4, l5, l6, l7] (zI (wr (x * y)) :: st) G h k := E_imul (by rfl)
theorem e55_153 : zE 55 d Q 153 [l0, l1, l2, l3, l4, some (zI x), l6, l7] st G h k ↔ zE 55 d Q 155 [l0, l1, l2, l3, l4, some (zI x), l6, l7] (zI x :: st) G h k := E_iload (by rfl) rfl
theorem e55_155 : zE 55 d Q 155 [l0, l1, l2, l3, l4, l5, l6, l7] (zI y :: zI x :: st) G h k ↔ zE 55 d Q 156 [l0, l1, l2, l3, l4, l5, l6, l7] (zI (wr (x + y)) :: st) G h k := E_iadd (by rfl)
theorem e55_156 : zE 55 d Q 156 [some (.inr (.inr w9)), l1, l2, l3, l4, l5, l6, l7] st G h k ↔ zE 55 d Q 157 [some (.inr (.inr w9)), l1, l2, l3, l4, l5, l6, l7] (.inr (.inr w9) :: st) G h k := E_aload_n (by rfl) rfl
theorem e55_157 : zE 55 d Q 157 [l0, l1, l2, l3, l4, l5, l6, l7] (zR (some r) :: st) G h k ↔ (G.2.1 r = 6 ∧ zE 55 d Q 160 [l0, l1, l2, l3, l4, l5, l6, l7] (zR (G.2.2.2 r 4) :: st) G h k) := E_getR (by rfl) rfl
theorem e55_160 : zE 55 d Q 160 [l0, l1, l2, l3, l4, l5, some (zI x), l7] st G h k ↔ zE 55 d Q 162 [l0, l1, l2, l3, l4, l5, some (zI x), l7] (zI x :: st) G h k := E_iload (by rfl) rfl
theorem e55_162 : zE 55 d Q 162 [l0, l1, l2, l3, l4, l5, l6, l7] (zI i :: zR (some r) :: st) G h k ↔ (G.2.1 r = 10 ∧ (0 ≤ i ∧ i < G.2.2.1 r) ∧ zE 55 d Q 163 [l0, l1, l2, l3, l4, l5, l6, l7] (zI (h r i.toNat) :: st) G h k) := E_iaload (by rfl)
theorem e55_163 : zE 55 d Q 163 [some (.inr (.inr w9)), l1, l2, l3, l4, l5, l6, l7] st G h k ↔ zE 55 d Q 164 [some (.inr (.inr w9)), l1, l2, l3, l4, l5, l6, l7] (.inr (.inr w9) :: st) G h k := E_aload_n (by rfl) rfl
theorem e55_164 : zE 55 d Q 164 [l0, l1, l2, l3, l4, l5, l6, l7] (zR (some r) :: st) G h k ↔ (G.2.1 r = 6 ∧ zE 55 d Q 167 [l0, l1, l2, l3, l4, l5, l6, l7] (zR (G.2.2.2 r 1) :: st) G h k) := E_getR (by rfl) rfl
theorem e55_167 : zE 55 d Q 167 [l0, l1, l2, l3, l4, l5, l6, l7] (zR (some r) :: st) G h k ↔ (G.2.1 r = 5 ∧ zE 55 d Q 170 [l0, l1, l2, l3, l4, l5, l6, l7] (zR (G.2.2.2 r 6) :: st) G h k) := E_getR (by rfl) rfl
theorem e55_170 : zE 55 d Q 170 [l0, l1, l2, l3, l4, some (zI x), l6, l7] st G h k ↔ zE 55 d Q 172 [l0, l1, l2, l3, l4, some (zI x), l6, l7] (zI x :: st) G h k := E_iload (by rfl) rfl
theorem e55_172 : zE 55 d Q 172 [l0, l1, l2, l3, l4, l5, l6, l7] (zI i :: zR (some r) :: st) G h k ↔ (G.2.1 r = 10 ∧ (0 ≤ i ∧ i < G.2.2.1 r) ∧ zE 55 d Q 173 [l0, l1, l2, l3, l4, l5, l6, l7] (zI (h r i.toNat) :: st) G h k) := E_iaload (by rfl)
theorem e55_173 : zE 55 d Q 173 [l0, l1, l2, l3, l4, l5, l6, l7] (zI y :: zI x :: st) G h k ↔ zE 55 d Q 174 [l0, l1, l2, l3, l4, l5, l6, l7] (zI (wr (x * y)) :: st) G h k := E_imul (by rfl)
theorem e55_174 : zE 55 d Q 174 [l0, l1, l2, l3, l4, l5, l6, l7] st G h k ↔ zE 55 d Q 176 [l0, l1, l2, l3, l4, l5, l6, l7] (zI 100 :: st) G h k := E_bipush (by rfl)
theorem e55_176 : zE 55 d Q 176 [l0, l1, l2, l3, l4, l5, l6, l7] (zI y :: zI x :: st) G h k ↔ (y ≠ 0 ∧ zE 55 d Q 177 [l0, l1, l2, l3, l4, l5, l6, l7] (zI (wr (x.tdiv y)) :: st) G h k) := E_idiv (by rfl)
theorem e55_177 : zE 55 d Q 177 [l0, l1, l2, l3, l4, l5, l6, l7] (zI x :: zI i :: zR (some r) :: st) G h k ↔ (G.2.1 r = 10 ∧ (0 ≤ i ∧ i < G.2.2.1 r) ∧ zE 55 d Q 178 [l0, l1, l2, l3, l4, l5, l6, l7] st G (zu h r i.toNat x) k) := E_iastore (by rfl)
theorem e55_178 : zE 55 d Q 178 [l0, l1, l2, l3, l4, l5, some (zI x), l7] st G h k ↔ zE 55 d Q 181 [l0, l1, l2, l3, l4, (zclr l5), some (zI (wr (x + 1))), l7] st G h k := E_iinc (by rfl) rfl
theorem e55_181 : zE 55 d Q 181 [l0, l1, l2, l3, l4, l5, l6, l7] st G h k ↔ zE 55 d Q 139 [l0, l1, l2, l3, l4, l5, l6, l7] st G h k := E_goto (by rfl)
theorem e55_184 : zE 55 d Q 184 [l0, l1, l2, l3, l4, some (zI x), l6, l7] st G h k ↔ zE 55 d Q 187 [l0, l1, l2, l3, (zclr l4), some (zI (wr (x + 1))), l6, l7] st G h k := E_iinc (by rfl) rfl
theorem e55_187 : zE 55 d Q 187 [l0, l1, l2, l3, l4, l5, l6, l7] st G h k ↔ zE 55 d Q 11 [l0, l1, l2, l3, l4, l5, l6, l7] st G h k := E_goto (by rfl)
theorem e55_190 : zE 55 d Q 190 [l0, l1, l2, l3, l4, l5, l6, l7] [] G h k ↔ Q none G h := E_vret (by rfl) rfl
theorem e56_0 : zE 56 d Q 0 [l0, l1, l2, some (zI x), l4, l5, l6] st G h k ↔ zE 56 d Q 1 [l0, l1, l2, some (zI x), l4, l5, l6] (zI x :: st) G h k := E_iload_n (by rfl) rfl
theorem e56_1 : zE 56 d Q 1 [l0, l1, l2, l3, l4, l5, l6] st G h k ↔ zE 56 d Q 2 [l0, l1, l2, l3, l4, l5, l6] (zI 3 :: st) G h k := E_iconst (by rfl)
theorem e56_2 : zE 56 d Q 2 [l0, l1, l2, l3, l4, l5, l6] (zI y :: zI x :: st) G h k ↔ ((y ≤ x → zE 56 d Q 21 [l0, l1, l2, l3, l4, l5, l6] st G h k) ∧ (¬ (y ≤ x) → zE 56 d Q 5 [l0, l1, l2, l3, l4, l5, l6] st G h k)) := E_icmp_ge (by rfl)
theorem e56_5 : zE 56 d Q 5 [l0, l1, l2, some (zI x), l4, l5, l6] st G h k ↔ zE 56 d Q 6 [l0, l1, l2, some (zI x), l4, l5, l6] (zI x :: st) G h k := E_iload_n (by rfl) rfl
theorem e56_6 : zE 56 d Q 6 [l0, l1, l2, l3, some (zI x), l5, l6] st G h k ↔ zE 56 d Q 8 [l0, l1, l2, l3, some (zI x), l5, l6] (zI x :: st) G h k := E_iload (by rfl) rfl
theorem e56_8 : zE 56 d Q 8 [l0, l1, l2, l3, l4, l5, l6] (zI y :: zI x :: st) G h k ↔ ((x = y → zE 56 d Q 21 [l0, l1, l2, l3, l4, l5, l6] st G h k) ∧ (¬ (x = y) → zE 56 d Q 11 [l0, l1, l2, l3, l4, l5, l6] st G h k)) := E_icmp_eq (by rfl)
theorem e56_11 : zE 56 d Q 11 [some (.inr (.inr w9)), l1, l2, l3, l4, l5, l6] st G h k ↔ zE 56 d Q 12 [some (.inr (.inr w9)), l1, l2, l3, l4, l5, l6] (.inr (.inr w9) :: st) G h k := E_aload_n (by rfl) rfl
theorem e56_12 : zE 56 d Q 12 [l0, l1, l2, l3, l4, l5, l6] (zR (some r) :: st) G h k ↔ (G.2.1 r = 6 ∧ zE 56 d Q 15 [l0, l1, l2, l3, l4, l5, l6] (zR (G.2.2.2 r 7) :: st) G h k) := E_getR (by rfl) rfl
theorem e56_15 : zE 56 d Q 15 [l0, some (zI x), l2, l3, l4, l5, l6] st G h k ↔ zE 56 d Q 16 [l0, some (zI x), l2, l3, l4, l5, l6] (zI x :: st) G h k := E_iload_n (by rfl) rfl
theorem e56_16 : zE 56 d Q 16 [l0, l1, l2, l3, l4, l5, l6] (zI x :: .inr (.inr w9) :: st) G h k ↔ zE 56 d Q 17 [l0, l1, l2, l3, l4, l5, l6] (zI x :: .inr (.inr w9) :: zI x :: .inr (.inr w9) :: st) G h k := E_dup2 (by rfl) rfl rfl
theorem e56_17 : zE 56 d Q 17 [l0, l1, l2, l3, l4, l5, l6] (zI i :: zR (some r) :: st) G h k ↔ (G.2.1 r = 10 ∧ (0 ≤ i ∧ i < G.2.2.1 r) ∧ zE 56 d Q 18 [l0, l1, l2, l3, l4, l5, l6] (zI (h r i.toNat) :: st) G h k) := E_iaload (by rfl)
theorem e56_18 : zE 56 d Q 18 [l0, l1, some (zI x), l3, l4, l5, l6] st G h k ↔ zE 56 d Q 19 [l0, l1, some (zI x), l3, l4, l5, l6] (zI x :: st) G h k := E_iload_n (by rfl) rfl
theorem e56_19 : zE 56 d Q 19 [l0, l1, l2, l3, l4, l5, l6] (zI y :: zI x :: st) G h k ↔ zE 56 d Q 20 [l0, l1, l2, l3, l4, l5, l6] (zI (wr (x + y)) :: st) G h k := E_iadd (by rfl)
theorem e56_20 : zE 56 d Q 20 [l0, l1, l2, l3, l4, l5, l6] (zI x :: zI i :: zR (some r) :: st) G h k ↔ (G.2.1 r = 10 ∧ (0 ≤ i ∧ i < G.2.2.1 r) ∧ zE 56 d Q 21 [l0, l1, l2, l3, l4, l5, l6] st G (zu h r i.toNat x) k) := E_iastore (by rfl)
theorem e56_21 : zE 56 d Q 21 [l0, l1, l2, l3, some (zI x), l5, l6] st G h k ↔ zE 56 d Q 23 [l0, l1, l2, l3, some (zI x), l5, l6] (zI x :: st) G h k := E_iload (by rfl) rfl
theorem e56_23 : zE 56 d Q 23 [l0, l1, l2, l3, l4, l5, l6] st G h k ↔ zE 56 d Q 24 [l0, l1, l2, l3, l4, l5, l6] (zI 3 :: st) G h k := E_iconst (by rfl)
theorem e56_24 : zE 56 d Q 24 [l0, l1, l2, l3, l4, l5, l6] (zI y :: zI x :: st) G h k ↔ ((¬ x = y → zE 56 d Q 28 [l0, l1, l2, l3, l4, l5, l6] st G h k) ∧ (¬ (¬ x = y) → zE 56 d Q 27 [l0, l1, l2, l3, l4, l5, l6] st G h k)) := E_icmp_ne (by rfl)
theorem e56_27 : zE 56 d Q 27 [l0, l1, l2, l3, l4, l5, l6] [] G h k ↔ Q none G h := E_vret (by rfl) rfl
theorem e56_28 : zE 56 d Q 28 [l0, l1, l2, some (zI x), l4, l5, l6] st G h k ↔ zE 56 d Q 29 [l0, l1, l2, some (zI x), l4, l5, l6] (zI x :: st) G h k := E_iload_n (by rfl) rfl
theorem e56_29 : zE 56 d Q 29 [l0, l1, l2, l3, some (zI x), l5, l6] st G h k ↔ zE 56 d Q 31 [l0, l1, l2, l3, some (zI x), l5, l6] (zI x :: st) G h k := E_iload (by rfl) rfl
theorem e56_31 : zE 56 d Q 31 [l0, l1, l2, l3, l4, l5, l6] (zI y :: zI x :: st) G h k ↔ ((¬ x = y → zE 56 d Q 48 [l0, l1, l2, l3, l4, l5, l6] st G h k) ∧ (¬ (¬ x = y) → zE 56 d Q 34 [l0, l1, l2, l3, l4, l5, l6] st G h k)) := E_icmp_ne (by rfl)
theorem e56_34 : zE 56 d Q 34 [some (.inr (.inr w9)), l1, l2, l3, l4, l5, l6] st G h k ↔ zE 56 d Q 35 [some (.inr (.inr w9)), l1, l2, l3, l4, l5, l6] (.inr (.inr w9) :: st) G h k := E_aload_n (by rfl) rfl
theorem e56_35 : zE 56 d Q 35 [l0, l1, l2, l3, l4, l5, l6] (zR (some r) :: st) G h k ↔ (G.2.1 r = 6 ∧ zE 56 d Q 38 [l0, l1, l2, l3, l4, l5, l6] (zR (G.2.2.2 r 0) :: st) G h k) := E_getR (by rfl) rfl
theorem e56_38 : zE 56 d Q 38 [l0, l1, l2, l3, l4, l5, l6] (zR (some r) :: st) G h k ↔ (G.2.1 r = 1 ∧ zE 56 d Q 41 [l0, l1, l2, l3, l4, l5, l6] (zR (G.2.2.2 r 1) :: st) G h k) := E_getR (by rfl) rfl
theorem e56_41 : zE 56 d Q 41 [l0, l1, l2, l3, some (zI x), l5, l6] st G h k ↔ zE 56 d Q 43 [l0, l1, l2, l3, some (zI x), l5, l6] (zI x :: st) G h k := E_iload (by rfl) rfl
theorem e56_43 : zE 56 d Q 43 [l0, l1, l2, l3, l4, l5, l6] (zI i :: zR (some r) :: st) G h k ↔ (G.2.1 r = 10 ∧ (0 ≤ i ∧ i < G.2.2.1 r) ∧ zE 56 d Q 44 [l0, l1, l2, l3, l4, l5, l6] (zI (h r i.toNat) :: st) G h k) := E_iaload (by rfl)
theorem e56_44 : zE 56 d Q 44 [l0, l1, l2, l3, l4, l5, l6] (zI x :: st) G h k ↔ zE 56 d Q 45 [l0, l1, l2, l3, l4, l5, l6] (zL x :: st) G h k := E_i2l (by rfl)
theorem e56_45 : zE 56 d Q 45 [l0, l1, l2, l3, l4, l5, l6] st G h k ↔ zE 56 d Q 59 [l0, l1, l2, l3, l4, l5, l6] st G h k := E_goto (by rfl)
theorem e56_48 : zE 56 d Q 48 [some (.inr (.inr w9)), l1, l2, l3, l4, l5, l6] st G h k ↔ zE 56 d Q 49 [some (.inr (.inr w9)), l1, l2, l3, l4, l5, l6] (.inr (.inr w9) :: st) G h k := E_aload_n (by rfl) rfl
theorem e56_49 : zE 56 d Q 49 [l0, l1, l2, l3, l4, l5, l6] (zR (some r) :: st) G h k ↔ (G.2.1 r = 6 ∧ zE 56 d Q 52 [l0, l1, l2, l3, l4, l5, l6] (zR (G.2.2.2 r 0) :: st) G h k) := E_getR (by rfl) rfl
theorem e56_52 : zE 56 d Q 52 [l0, l1, l2, l3, l4, l5, l6] (zR (some r) :: st) G h k ↔ (G.2.1 r = 1 ∧ zE 56 d Q 55 [l0, l1, l2, l3, l4, l5, l6] (zR (G.2.2.2 r 2) :: st) G h k) := E_getR (by rfl) rfl
theorem e56_55 : zE 56 d Q 55 [l0, l1, l2, l3, some (zI x), l5, l6] st G h k ↔ zE 56 d Q 57 [l0, l1, l2, l3, some (zI x), l5, l6] (zI x :: st) G h k := E_iload (by rfl) rfl
theorem e56_57 : zE 56 d Q 57 [l0, l1, l2, l3, l4, l5, l6] (zI i :: zR (some r) :: st) G h k ↔ (G.2.1 r = 10 ∧ (0 ≤ i ∧ i < G.2.2.1 r) ∧ zE 56 d Q 58 [l0, l1, l2, l3, l4, l5, l6] (zI (h r i.toNat) :: st) G h k) := E_iaload (by rfl)
theorem e56_58 : zE 56 d Q 58 [l0, l1, l2, l3, l4, l5, l6] (zI x :: st) G h k ↔ zE 56 d Q 59 [l0, l1, l2, l3, l4, l5, l6] (zL x :: st) G h k := E_i2l (by rfl)
theorem e56_59 : zE 56 d Q 59 [l0, l1, l2, l3, l4, l5, l6] (zL x :: st) G h k ↔ zE 56 d Q 61 [l0, l1, l2, l3, (zclr l4), some (zL x), none] st G h k := E_lstore (by rfl) (by decide)
theorem e56_61 : zE 56 d Q 61 [some (.inr (.inr w9)), l1, l2, l3, l4, l5, l6] st G h k ↔ zE 56 d Q 62 [some (.inr (.inr w9)), l1, l2, l3, l4, l5, l6] (.inr (.inr w9) :: st) G h k := E_aload_n (by rfl) rfl
theorem e56_62 : zE 56 d Q 62 [l0, l1, l2, l3, l4, l5, l6] (zR (some r) :: st) G h k ↔ (G.2.1 r = 6 ∧ zE 56 d Q 65 [l0, l1, l2, l3, l4, l5, l6] (zR (G.2.2.2 r 6) :: st) G h k) := E_getR (by rfl) rfl
theorem e56_65 : zE 56 d Q 65 [l0, some (zI x), l2, l3, l4, l5, l6] st G h k ↔ zE 56 d Q 66 [l0, some (zI x), l2, l3, l4, l5, l6] (zI x :: st) G h k := E_iload_n (by rfl) rfl
theorem e56_66 : zE 56 d Q 66 [l0, l1, l2, l3, l4, l5, l6] (zI x :: .inr (.inr w9) :: st) G h k ↔ zE 56 d Q 67 [l0, l1, l2, l3, l4, l5, l6] (zI x :: .inr (.inr w9) :: zI x :: .inr (.inr w9) :: st) G h k := E_dup2 (by rfl) rfl rfl
theorem e56_67 : zE 56 d Q 67 [l0, l1, l2, l3, l4, l5, l6] (zI i :: zR (some r) :: st) G h k ↔ (G.2.1 r = 11 ∧ (0 ≤ i ∧ i < G.2.2.1 r) ∧ zE 56 d Q 68 [l0, l1, l2, l3, l4, l5, l6] (zL (h r i.toNat) :: st) G h k) := E_laload (by rfl)
theorem e56_68 : zE 56 d Q 68 [l0, l1, some (zI x), l3, l4, l5, l6] st G h k ↔ zE 56 d Q 69 [l0, l1, some (zI x), l3, l4, l5, l6] (zI x :: st) G h k := E_iload_n (by rfl) rfl
theorem e56_69 : zE 56 d Q 69 [l0, l1, l2, l3, l4, l5, l6] (zI x :: st) G h k ↔ zE 56 d Q 70 [l0, l1, l2, l3, l4, l5, l6] (zL x :: st) G h k := E_i2l (by rfl)
theorem e56_70 : zE 56 d Q 70 [l0, l1, l2, l3, l4, some (zL x), l6] st G h k ↔ zE 56 d Q 72 [l0, l1, l2, l3, l4, some (zL x), l6] (zL x :: st) G h k := E_lload (by rfl) rfl
theorem e56_72 : zE 56 d Q 72 [l0, l1, l2, l3, l4, l5, l6] (zL y :: zL x :: st) G h k ↔ zE 56 d Q 73 [l0, l1, l2, l3, l4, l5, l6] (zL (wl (x * y)) :: st) G h k := E_lmul (by rfl)
theorem e56_73 : zE 56 d Q 73 [l0, l1, l2, l3, l4, l5, l6] (zL y :: zL x :: st) G h k ↔ zE 56 d Q 74 [l0, l1, l2, l3, l4, l5, l6] (zL (wl (x + y)) :: st) G h k := E_ladd (by rfl)
theorem e56_74 : zE 56 d Q 74 [l0, l1, l2, l3, l4, l5, l6] (zL x :: zI i :: zR (some r) :: st) G h k ↔ (G.2.1 r = 11 ∧ (0 ≤ i ∧ i < G.2.2.1 r) ∧ zE 56 d Q 75 [l0, l1, l2, l3, l4, l5, l6] st G (zu h r i.toNat x) k) := E_lastore (by rfl)
theorem e56_75 : zE 56 d Q 75 [some (.inr (.inr w9)), l1, l2, l3, l4, l5, l6] st G h k ↔ zE 56 d Q 76 [some (.inr (.inr w9)), l1, l2, l3, l4, l5, l6] (.inr (.inr w9) :: st) G h k := E_aload_n (by rfl) rfl
theorem e56_76 : zE 56 d Q 76 [l0, l1, l2, l3, l4, l5, l6] (zR (some r) :: st) G h k ↔ (G.2.1 r = 6 ∧ zE 56 d Q 79 [l0, l1, l2, l3, l4, l5, l6] (zR (G.2.2.2 r 5) :: st) G h k) := E_getR (by rfl) rfl
theorem e56_79 : zE 56 d Q 79 [l0, l1, l2, l3, some (zI x), l5, l6] st G h k ↔ zE 56 d Q 81 [l0, l1, l2, l3, some (zI x), l5, l6] (zI x :: st) G h k := E_iload (by rfl) rfl
theorem e56_81 : zE 56 d Q 81 [l0, l1, l2, l3, l4, l5, l6] (zI x :: .inr (.inr w9) :: st) G h k ↔ zE 56 d Q 82 [l0, l1, l2, l3, l4, l5, l6] (zI x :: .inr (.inr w9) :: zI x :: .inr (.inr w9) :: st) G h k := E_dup2 (by rfl) rfl rfl
theorem e56_82 : zE 56 d Q 82 [l0, l1, l2, l3, l4, l5, l6] (zI i :: zR (some r) :: st) G h k ↔ (G.2.1 r = 11 ∧ (0 ≤ i ∧ i < G.2.2.1 r) ∧ zE 56 d Q 83 [l0, l1, l2, l3, l4, l5, l6] (zL (h r i.toNat) :: st) G h k) := E_laload (by rfl)
theorem e56_83 : zE 56 d Q 83 [l0, l1, some (zI x), l3, l4, l5, l6] st G h k ↔ zE 56 d Q 84 [l0, l1, some (zI x), l3, l4, l5, l6] (zI x :: st) G h k := E_iload_n (by rfl) rfl
theorem e56_84 : zE 56 d Q 84 [l0, l1, l2, l3, l4, l5, l6] (zI x :: st) G h k ↔ zE 56 d Q 85 [l0, l1, l2, l3, l4, l5, l6] (zL x :: st) G h k := E_i2l (by rfl)
theorem e56_85 : zE 56 d Q 85 [l0, l1, l2, l3, l4, some (zL x), l6] st G h k ↔ zE 56 d Q 87 [l0, l1, l2, l3, l4, some (zL x), l6] (zL x :: st) G h k := E_lload (by rfl) rfl
theorem e56_87 : zE 56 d Q 87 [some (.inr (.inr w9)), l1, l2, l3, l4, l5, l6] st G h k ↔ zE 56 d Q 88 [some (.inr (.inr w9)), l1, l2, l3, l4, l5, l6] (.inr (.inr w9) :: st) G h k := E_aload_n (by rfl) rfl
theorem e56_88 : zE 56 d Q 88 [l0, l1, l2, l3, l4, l5, l6] (zR (some r) :: st) G h k ↔ (G.2.1 r = 6 ∧ zE 56 d Q 91 [l0, l1, l2, l3, l4, l5, l6] (zR (G.2.2.2 r 1) :: st) G h k) := E_getR (by rfl) rfl
theorem e56_91 : zE 56 d Q 91 [l0, l1, l2, l3, l4, l5, l6] (zR (some r) :: st) G h k ↔ (G.2.1 r = 5 ∧ zE 56 d Q 94 [l0, l1, l2, l3, l4, l5, l6] (zR (G.2.2.2 r 0) :: st) G h k) := E_getR (by rfl) rfl
theorem e56_94 : zE 56 d Q 94 [l0, l1, l2, l3, some (zI x), l5, l6] st G h k ↔ zE 56 d Q 96 [l0, l1, l2, l3, some (zI x), l5, l6] (zI x :: st) G h k := E_iload (by rfl) rfl
theorem e56_96 : zE 56 d Q 96 [l0, l1, l2, l3, l4, l5, l6] (zI i :: zR (some r) :: st) G h k ↔ (G.2.1 r = 10 ∧ (0 ≤ i ∧ i < G.2.2.1 r) ∧ zE 56 d Q 97 [l0, l1, l2, l3, l4, l5, l6] (zI (h r i.toNat) :: st) G h k) := E_iaload (by rfl)
theorem e56_97 : zE 56 d Q 97 [l0, l1, l2, l3, l4, l5, l6] (zI x :: st) G h k ↔ zE 56 d Q 98 [l0, l1, l2, l3, l4, l5, l6] (zL x :: st) G h k := E_i2l (by rfl)
theorem e56_98 : zE 56 d Q 98 [l0, l1, l2, l3, l4, l5, l6] (zL y :: zL x :: st) G h k ↔ zE 56 d Q 99 [l0, l1, l2, l3, l4, l5, l6] (zL (wl (x - y)) :: st) G h k := E_lsub (by rfl)
theorem e56_99 : zE 56 d Q 99 [l0, l1, l2, l3, l4, l5, l6] (zL y :: zL x :: st) G h k ↔ zE 56 d Q 100 [l0, l1, l2, l3, l4, l5, l6] (zL (wl (x * y)) :: st) G h k := E_lmul (by rfl)
theorem e56_100 : zE 56 d Q 100 [l0, l1, l2, l3, l4, l5, l6] (zL y :: zL x :: st) G h k ↔ zE 56 d Q 101 [l0, l1, l2, l3, l4, l5, l6] (zL (wl (x + y)) :: st) G h k := E_ladd (by rfl)
theorem e56_101 : zE 56 d Q 101 [l0, l1, l2, l3, l4, l5, l6] (zL x :: zI i :: zR (some r) :: st) G h k ↔ (G.2.1 r = 11 ∧ (0 ≤ i ∧ i < G.2.2.1 r) ∧ zE 56 d Q 102 [l0, l1, l2, l3, l4, l5, l6] st G (zu h r i.toNat x) k) := E_lastore (by rfl)
theorem e56_102 : zE 56 d Q 102 [some (.inr (.inr w9)), l1, l2, l3, l4, l5, l6] st G h k ↔ zE 56 d Q 103 [some (.inr (.inr w9)), l1, l2, l3, l4, l5, l6] (.inr (.inr w9) :: st) G h k := E_aload_n (by rfl) rfl
theorem e56_103 : zE 56 d Q 103 [l0, l1, l2, l3, l4, l5, l6] (zR (some r) :: st) G h k ↔ (G.2.1 r = 6 ∧ zE 56 d Q 106 [l0, l1, l2, l3, l4, l5, l6] (zR (G.2.2.2 r 4) :: st) G h k) := E_getR (by rfl) rfl
theorem e56_106 : zE 56 d Q 106 [l0, l1, l2, l3, some (zI x), l5, l6] st G h k ↔ zE 56 d Q 108 [l0, l1, l2, l3, some (zI x), l5, l6] (zI x :: st) G h k := E_iload (by rfl) rfl
theorem e56_108 : zE 56 d Q 108 [l0, l1, l2, l3, l4, l5, l6] (zI x :: .inr (.inr w9) :: st) G h k ↔ zE 56 d Q 109 [l0, l1, l2, l3, l4, l5, l6] (zI x :: .inr (.inr w9) :: zI x :: .inr (.inr w9) :: st) G h k := E_dup2 (by rfl) rfl rfl
theorem e56_109 : zE 56 d Q 109 [l0, l1, l2, l3, l4, l5, l6] (zI i :: zR (some r) :: st) G h k ↔ (G.2.1 r = 10 ∧ (0 ≤ i ∧ i < G.2.2.1 r) ∧ zE 56 d Q 110 [l0, l1, l2, l3, l4, l5, l6] (zI (h r i.toNat) :: st) G h k) := E_iaload (by rfl)
theorem e56_110 : zE 56 d Q 110 [l0, l1, some (zI x), l3, l4, l5, l6] st G h k ↔ zE 56 d Q 111 [l0, l1, some (zI x), l3, l4, l5, l6] (zI x :: st) G h k := E_iload_n (by rfl) rfl
theorem e56_111 : zE 56 d Q 111 [l0, l1, l2, l3, l4, l5, l6] (zI y :: zI x :: st) G h k ↔ zE 56 d Q 112 [l0, l1, l2, l3, l4, l5, l6] (zI (wr (x + y)) :: st) G h k := E_iadd (by rfl)
theorem e56_112 : zE 56 d Q 112 [l0, l1, l2, l3, l4, l5, l6] (zI x :: zI i :: zR (some r) :: st) G h k ↔ (G.2.1 r = 10 ∧ (0 ≤ i ∧ i < G.2.2.1 r) ∧ zE 56 d Q 113 [l0, l1, l2, l3, l4, l5, l6] st G (zu h r i.toNat x) k) := E_iastore (by rfl)
theorem e56_113 : zE 56 d Q 113 [l0, l1, l2, l3, l4, l5, l6] [] G h k ↔ Q none G h := E_vret (by rfl) rfl
theorem e57_0 : zE 57 d Q 0 [some (.inr (.inr w9))] st G h k ↔ zE 57 d Q 1 [some (.inr (.inr w9))] (.inr (.inr w9) :: st) G h k := E_aload_n (by rfl) rfl
theorem e57_1 : zE 57 d Q 1 [l0] (zR (some r) :: []) G h k ↔ zE 57 d Q 4 [l0] [] G h k := E_objInit (by rfl) rfl (by decide)
theorem e57_4 : zE 57 d Q 4 [some (.inr (.inr w9))] st G h k ↔ zE 57 d Q 5 [some (.inr (.inr w9))] (.inr (.inr w9) :: st) G h k := E_aload_n (by rfl) rfl
theorem e57_5 : zE 57 d Q 5 [l0] st G h k ↔ zE 57 d Q 8 [l0] (zI 700 :: st) G h k := E_sipush (by rfl)
theorem e57_8 : zE 57 d Q 8 [l0] (zI i :: st) G h k ↔ (0 ≤ i ∧ i ≤ 1000000 ∧ k.1 + 1 ≤ 90 ∧ k.2 + i.toNat ≤ 10200 ∧ zE 57 d Q 10 [l0] (zR (some G.1) :: st) (zgn G 12 i.toNat) (zhn h G.1) (k.1 + 1, k.2 + i.toNat)) := E_newarray (by rfl)
theorem e57_10 : zE 57 d Q 10 [l0] (zR q9 :: zR (some r) :: st) G h k ↔ (G.2.1 r = 7 ∧ zE 57 d Q 13 [l0] st (zgu G r 0 q9) h k) := E_putR (by rfl) rfl
theorem e57_13 : zE 57 d Q 13 [some (.inr (.inr w9))] st G h k ↔ zE 57 d Q 14 [some (.inr (.inr w9))] (.inr (.inr w9) :: st) G h k := E_aload_n (by rfl) rfl
theorem e57_14 : zE 57 d Q 14 [l0] st G h k ↔ zE 57 d Q 15 [l0] (zI 0 :: st) G h k := E_iconst (by rfl)
theorem e57_15 : zE 57 d Q 15 [l0] (zI x :: zR (some r) :: st) G h k ↔ (G.2.1 r = 7 ∧ zE 57 d Q 18 [l0] st G (zu h r 1 x) k) := E_putI (by rfl) rfl
theorem e57_18 : zE 57 d Q 18 [some (.inr (.inr w9))] st G h k ↔ zE 57 d Q 19 [some (.inr (.inr w9))] (.inr (.inr w9) :: st) G h k := E_aload_n (by rfl) rfl
theorem e57_19 : zE 57 d Q 19 [l0] st G h k ↔ (k.1 + 1 ≤ 90 ∧ k.2 + 14 ≤ 10200 ∧ zE 57 d Q 22 [l0] (zR (some G.1) :: st) (zgn G 3 14) (zhn h G.1) (k.1 + 1, k.2 + 14)) := E_new (by rfl) (by decide)
theorem e57_22 : zE 57 d Q 22 [l0] (.inr (.inr w9) :: st) G h k ↔ zE 57 d Q 23 [l0] (.inr (.inr w9) :: .inr (.inr w9) :: st) G h k := E_dup (by rfl) rfl
theorem e57_23 : zE 57 d Q 23 [l0] (zR (some r) :: st) G h k ↔ (zsum st ≤ 8 ∧ G.2.1 r = 3 ∧ k.1 + 3 ≤ 90 ∧ k.2 + 14 ≤ 10200 ∧ zRunD ztb zmt' d 13 [zR (some r)] G h (fun v G' h' => v = none ∧ zE 57 d Q 26 [l0] st G' h' (k.1 + 3, k.2 + 14))) := E_invI2b (by rfl) (by decide) rfl
theorem e57_26 : zE 57 d Q 26 [l0] (zR q9 :: zR (some r) :: st) G h k ↔ (G.2.1 r = 7 ∧ zE 57 d Q 29 [l0] st (zgu G r 2 q9) h k) := E_putR (by rfl) rfl
theorem e57_29 : zE 57 d Q 29 [some (.inr (.inr w9))] st G h k ↔ zE 57 d Q 30 [some (.inr (.inr w9))] (.inr (.inr w9) :: st) G h k := E_aload_n (by rfl) rfl
theorem e57_30 : zE 57 d Q 30 [l0] st G h k ↔ (k.1 + 1 ≤ 90 ∧ k.2 + 14 ≤ 10200 ∧ zE 57 d Q 33 [l0] (zR (some G.1) :: st) (zgn G 5 14) (zhn h G.1) (k.1 + 1, k.2 + 14)) := E_new (by rfl) (by decide)
theorem e57_33 : zE 57 d Q 33 [l0] (.inr (.inr w9) :: st) G h k ↔ zE 57 d Q 34 [l0] (.inr (.inr w9) :: .inr (.inr w9) :: st) G h k := E_dup (by rfl) rfl
theorem e57_34 : zE 57 d Q 34 [l0] (zR (some r) :: st) G h k ↔ (zsum st ≤ 8 ∧ G.2.1 r = 5 ∧ k.1 + 9 ≤ 90 ∧ k.2 + 32 ≤ 10200 ∧ zRunD ztb zmt' d 45 [zR (some r)] G h (fun v G' h' => v = none ∧ zE 57 d Q 37 [l0] st G' h' (k.1 + 9, k.2 + 32))) := E_invI2b (by rfl) (by decide) rfl
theorem e57_37 : zE 57 d Q 37 [l0] (zR q9 :: zR (some r) :: st) G h k ↔ (G.2.1 r = 7 ∧ zE 57 d Q 40 [l0] st (zgu G r 3 q9) h k) := E_putR (by rfl) rfl
theorem e57_40 : zE 57 d Q 40 [some (.inr (.inr w9))] st G h k ↔ zE 57 d Q 41 [some (.inr (.inr w9))] (.inr (.inr w9) :: st) G h k := E_aload_n (by rfl) rfl
theorem e57_41 : zE 57 d Q 41 [l0] st G h k ↔ (k.1 + 1 ≤ 90 ∧ k.2 + 9 ≤ 10200 ∧ zE 57 d Q 44 [l0] (zR (some G.1) :: st) (zgn G 6 9) (zhn h G.1) (k.1 + 1, k.2 + 9)) := E_new (by rfl) (by decide)
theorem e57_44 : zE 57 d Q 44 [l0] (.inr (.inr w9) :: st) G h k ↔ zE 57 d Q 45 [l0] (.inr (.inr w9) :: .inr (.inr w9) :: st) G h k := E_dup (by rfl) rfl
theorem e57_45 : zE 57 d Q 45 [l0] (zR (some r) :: st) G h k ↔ (zsum st ≤ 8 ∧ G.2.1 r = 6 ∧ k.1 + 21 ≤ 90 ∧ k.2 + 95 ≤ 10200 ∧ zRunD ztb zmt' d 52 [zR (some r)] G h (fun v G' h' => v = none ∧ zE 57 d Q 48 [l0] st G' h' (k.1 + 21, k.2 + 95))) := E_invI2b (by rfl) (by decide) rfl
theorem e57_48 : zE 57 d Q 48 [l0] (zR q9 :: zR (some r) :: st) G h k ↔ (G.2.1 r = 7 ∧ zE 57 d Q 51 [l0] st (zgu G r 4 q9) h k) := E_putR (by rfl) rfl
theorem e57_51 : zE 57 d Q 51 [some (.inr (.inr w9))] st G h k ↔ zE 57 d Q 52 [some (.inr (.inr w9))] (.inr (.inr w9) :: st) G h k := E_aload_n (by rfl) rfl
theorem e57_52 : zE 57 d Q 52 [some (.inr (.inr w9))] st G h k ↔ zE 57 d Q 53 [some (.inr (.inr w9))] (.inr (.inr w9) :: st) G h k := E_aload_n (by rfl) rfl
theorem e57_53 : zE 57 d Q 53 [l0] (zR (some r) :: st) G h k ↔ (G.2.1 r = 7 ∧ zE 57 d Q 56 [l0] (zR (G.2.2.2 r 4) :: st) G h k) := E_getR (by rfl) rfl
theorem e57_56 : zE 57 d Q 56 [l0] (zR (some r) :: st) G h k ↔ (G.2.1 r = 6 ∧ zE 57 d Q 59 [l0] (zR (G.2.2.2 r 0) :: st) G h k) := E_getR (by rfl) rfl
theorem e57_59 : zE 57 d Q 59 [l0] (zR q9 :: zR (some r) :: st) G h k ↔ (G.2.1 r = 7 ∧ zE 57 d Q 62 [l0] st (zgu G r 5 q9) h k) := E_putR (by rfl) rfl
theorem e57_62 : zE 57 d Q 62 [some (.inr (.inr w9))] st G h k ↔ zE 57 d Q 63 [some (.inr (.inr w9))] (.inr (.inr w9) :: st) G h k := E_aload_n (by rfl) rfl
theorem e57_63 : zE 57 d Q 63 [some (.inr (.inr w9))] st G h k ↔ zE 57 d Q 64 [some (.inr (.inr w9))] (.inr (.inr w9) :: st) G h k := E_aload_n (by rfl) rfl
theorem e57_64 : zE 57 d Q 64 [l0] (zR (some r) :: st) G h k ↔ (G.2.1 r = 7 ∧ zE 57 d Q 67 [l0] (zR (G.2.2.2 r 5) :: st) G h k) := E_getR (by rfl) rfl
theorem e57_67 : zE 57 d Q 67 [l0] (zR (some r) :: st) G h k ↔ (G.2.1 r = 1 ∧ zE 57 d Q 70 [l0] (zR (G.2.2.2 r 0) :: st) G h k) := E_getR (by rfl) rfl
theorem e57_70 : zE 57 d Q 70 [l0] (zR q9 :: zR (some r) :: st) G h k ↔ (G.2.1 r = 7 ∧ zE 57 d Q 73 [l0] st (zgu G r 6 q9) h k) := E_putR (by rfl) rfl
theorem e57_73 : zE 57 d Q 73 [some (.inr (.inr w9))] st G h k ↔ zE 57 d Q 74 [some (.inr (.inr w9))] (.inr (.inr w9) :: st) G h k := E_aload_n (by rfl) rfl
theorem e57_74 : zE 57 d Q 74 [l0] st G h k ↔ (k.1 + 1 ≤ 90 ∧ k.2 + 7 ≤ 10200 ∧ zE 57 d Q 77 [l0] (zR (some G.1) :: st) (zgn G 0 7) (zhn h G.1) (k.1 + 1, k.2 + 7)) := E_new (by rfl) (by decide)
theorem e57_77 : zE 57 d Q 77 [l0] (.inr (.inr w9) :: st) G h k ↔ zE 57 d Q 78 [l0] (.inr (.inr w9) :: .inr (.inr w9) :: st) G h k := E_dup (by rfl) rfl
theorem e57_78 : zE 57 d Q 78 [l0] (zR (some r) :: st) G h k ↔ (zsum st ≤ 8 ∧ G.2.1 r = 0 ∧ k.1 + 6 ≤ 90 ∧ k.2 + 939 ≤ 10200 ∧ zRunD ztb zmt' d 0 [zR (some r)] G h (fun v G' h' => v = none ∧ zE 57 d Q 81 [l0] st G' h' (k.1 + 6, k.2 + 939))) := E_invI2b (by rfl) (by decide) rfl
theorem e57_81 : zE 57 d Q 81 [l0] (zR q9 :: zR (some r) :: st) G h k ↔ (G.2.1 r = 7 ∧ zE 57 d Q 84 [l0] st (zgu G r 7 q9) h k) := E_putR (by rfl) rfl
theorem e57_84 : zE 57 d Q 84 [some (.inr (.inr w9))] st G h k ↔ zE 57 d Q 85 [some (.inr (.inr w9))] (.inr (.inr w9) :: st) G h k := E_aload_n (by rfl) rfl
theorem e57_85 : zE 57 d Q 85 [l0] st G h k ↔ zE 57 d Q 86 [l0] (zI 4 :: st) G h k := E_iconst (by rfl)
theorem e57_86 : zE 57 d Q 86 [l0] (zI i :: st) G h k ↔ (0 ≤ i ∧ i ≤ 1000000 ∧ k.1 + 1 ≤ 90 ∧ k.2 + i.toNat ≤ 10200 ∧ zE 57 d Q 88 [l0] (zR (some G.1) :: st) (zgn G 10 i.toNat) (zhn h G.1) (k.1 + 1, k.2 + i.toNat)) := E_newarray (by rfl)
theorem e57_88 : zE 57 d Q 88 [l0] (zR q9 :: zR (some r) :: st) G h k ↔ (G.2.1 r = 7 ∧ zE 57 d Q 91 [l0] st (zgu G r 8 q9) h k) := E_putR (by rfl) rfl
theorem e57_91 : zE 57 d Q 91 [some (.inr (.inr w9))] st G h k ↔ zE 57 d Q 92 [some (.inr (.inr w9))] (.inr (.inr w9) :: st) G h k := E_aload_n (by rfl) rfl
theorem e57_92 : zE 57 d Q 92 [l0] st G h k ↔ (k.1 + 1 ≤ 90 ∧ k.2 + 15 ≤ 10200 ∧ zE 57 d Q 95 [l0] (zR (some G.1) :: st) (zgn G 4 15) (zhn h G.1) (k.1 + 1, k.2 + 15)) := E_new (by rfl) (by decide)
theorem e57_95 : zE 57 d Q 95 [l0] (.inr (.inr w9) :: st) G h k ↔ zE 57 d Q 96 [l0] (.inr (.inr w9) :: .inr (.inr w9) :: st) G h k := E_dup (by rfl) rfl
theorem e57_96 : zE 57 d Q 96 [l0] (zR (some r) :: st) G h k ↔ (zsum st ≤ 8 ∧ G.2.1 r = 4 ∧ k.1 + 40 ≤ 90 ∧ k.2 + 8300 ≤ 10200 ∧ zRunD ztb zmt' d 31 [zR (some r)] G h (fun v G' h' => v = none ∧ zE 57 d Q 99 [l0] st G' h' (k.1 + 40, k.2 + 8300))) := E_invI2b (by rfl) (by decide) rfl
theorem e57_99 : zE 57 d Q 99 [l0] (zR q9 :: zR (some r) :: st) G h k ↔ (G.2.1 r = 7 ∧ zE 57 d Q 102 [l0] st (zgu G r 9 q9) h k) := E_putR (by rfl) rfl
theorem e57_102 : zE 57 d Q 102 [some (.inr (.inr w9))] st G h k ↔ zE 57 d Q 103 [some (.inr (.inr w9))] (.inr (.inr w9) :: st) G h k := E_aload_n (by rfl) rfl
theorem e57_103 : zE 57 d Q 103 [l0] st G h k ↔ (k.1 + 1 ≤ 90 ∧ k.2 + 4 ≤ 10200 ∧ zE 57 d Q 106 [l0] (zR (some G.1) :: st) (zgn G 2 4) (zhn h G.1) (k.1 + 1, k.2 + 4)) := E_new (by rfl) (by decide)
theorem e57_106 : zE 57 d Q 106 [l0] (.inr (.inr w9) :: st) G h k ↔ zE 57 d Q 107 [l0] (.inr (.inr w9) :: .inr (.inr w9) :: st) G h k := E_dup (by rfl) rfl
theorem e57_107 : zE 57 d Q 107 [l0] (zR (some r) :: st) G h k ↔ (zsum st ≤ 8 ∧ G.2.1 r = 2 ∧ k.1 + 3 ≤ 90 ∧ k.2 + 9 ≤ 10200 ∧ zRunD ztb zmt' d 12 [zR (some r)] G h (fun v G' h' => v = none ∧ zE 57 d Q 110 [l0] st G' h' (k.1 + 3, k.2 + 9))) := E_invI2b (by rfl) (by decide) rfl
theorem e57_110 : zE 57 d Q 110 [l0] (zR q9 :: zR (some r) :: st) G h k ↔ (G.2.1 r = 7 ∧ zE 57 d Q 113 [l0] st (zgu G r 10 q9) h k) := E_putR (by rfl) rfl
theorem e57_113 : zE 57 d Q 113 [some (.inr (.inr w9))] st G h k ↔ zE 57 d Q 114 [some (.inr (.inr w9))] (.inr (.inr w9) :: st) G h k := E_aload_n (by rfl) rfl
theorem e57_114 : zE 57 d Q 114 [l0] st G h k ↔ zE 57 d Q 115 [l0] (zI 0 :: st) G h k := E_iconst (by rfl)
theorem e57_115 : zE 57 d Q 115 [l0] (zI x :: zR (some r) :: st) G h k ↔ (G.2.1 r = 7 ∧ zE 57 d Q 118 [l0] st G (zu h r 11 x) k) := E_putI (by rfl) rfl
theorem e57_118 : zE 57 d Q 118 [some (.inr (.inr w9))] st G h k ↔ zE 57 d Q 119 [some (.inr (.inr w9))] (.inr (.inr w9) :: st) G h k := E_aload_n (by rfl) rfl
theorem e57_119 : zE 57 d Q 119 [l0] st G h k ↔ zE 57 d Q 120 [l0] (zI 0 :: st) G h k := E_iconst (by rfl)
theorem e57_120 : zE 57 d Q 120 [l0] (zI x :: zR (some r) :: st) G h k ↔ (G.2.1 r = 7 ∧ zE 57 d Q 123 [l0] st G (zu h r 12 x) k) := E_putI (by rfl) rfl
theorem e57_123 : zE 57 d Q 123 [some (.inr (.inr w9))] st G h k ↔ zE 57 d Q 124 [some (.inr (.inr w9))] (.inr (.inr w9) :: st) G h k := E_aload_n (by rfl) rfl
theorem e57_124 : zE 57 d Q 124 [l0] st G h k ↔ zE 57 d Q 125 [l0] (zI (-1) :: st) G h k := E_iconst (by rfl)
theorem e57_125 : zE 57 d Q 125 [l0] (zI x :: zR (some r) :: st) G h k ↔ (G.2.1 r = 7 ∧ zE 57 d Q 128 [l0] st G (zu h r 13 x) k) := E_putI (by rfl) rfl
theorem e57_128 : zE 57 d Q 128 [l0] [] G h k ↔ Q none G h := E_vret (by rfl) rfl
theorem e58_0 : zE 58 d Q 0 [some (.inr (.inr w9)), l1, l2, l3, l4, l5] st G h k ↔ zE 58 d Q 1 [some (.inr (.inr w9)), l1, l2, l3, l4, l5] (.inr (.inr w9) :: st) G h k := E_aload_n (by rfl) rfl
theorem e58_1 : zE 58 d Q 1 [l0, l1, l2, l3, l4, l5] (zR (some r) :: st) G h k ↔ (G.2.1 r = 7 ∧ zE 58 d Q 4 [l0, l1, l2, l3, l4, l5] (zI (h r 1) :: st) G h k) := E_getI (by rfl) (by decide)
theorem e58_4 : zE 58 d Q 4 [l0, l1, l2, l3, l4, l5] st G h k ↔ zE 58 d Q 6 [l0, l1, l2, l3, l4, l5] (zI 20 :: st) G h k := E_bipush (by rfl)
theorem e58_6 : zE 58 d Q 6 [l0, l1, l2, l3, l4, l5] (zI y :: zI x :: st) G h k ↔ zE 58 d Q 7 [l0, l1, l2, l3, l4, l5] (zI (wr (x + y)) :: st) G h k := E_iadd (by rfl)
theorem e58_7 : zE 58 d Q 7 [l0, l1, l2, l3, l4, l5] st G h k ↔ zE 58 d Q 10 [l0, l1, l2, l3, l4, l5] (zI 700 :: st) G h k := E_sipush (by rfl)
theorem e58_10 : zE 58 d Q 10 [l0, l1, l2, l3, l4, l5] (zI y :: zI x :: st) G h k ↔ ((x ≤ y → zE 58 d Q 15 [l0, l1, l2, l3, l4, l5] st G h k) ∧ (¬ (x ≤ y) → zE 58 d Q 13 [l0, l1, l2, l3, l4, l5] st G h k)) := E_icmp_le (by rfl)
theorem e58_13 : zE 58 d Q 13 [l0, l1, l2, l3, l4, l5] st G h k ↔ zE 58 d Q 14 [l0, l1, l2, l3, l4, l5] (zI (-1) :: st) G h k := E_iconst (by rfl)
theorem e58_14 : zE 58 d Q 14 [l0, l1, l2, l3, l4, l5] [zI x] G h k ↔ Q (some (zI x)) G h := E_iret (by rfl) rfl
theorem e58_15 : zE 58 d Q 15 [some (.inr (.inr w9)), l1, l2, l3, l4, l5] st G h k ↔ zE 58 d Q 16 [some (.inr (.inr w9)), l1, l2, l3, l4, l5] (.inr (.inr w9) :: st) G h k := E_aload_n (by rfl) rfl
theorem e58_16 : zE 58 d Q 16 [l0, some (zI x), l2, l3, l4, l5] st G h k ↔ zE 58 d Q 17 [l0, some (zI x), l2, l3, l4, l5] (zI x :: st) G h k := E_iload_n (by rfl) rfl
theorem e58_17 : zE 58 d Q 17 [l0, l1, l2, l3, l4, l5] (v0 :: zR (some r) :: st) G h k ↔ (zsum st ≤ 8 ∧ G.2.1 r = 7 ∧ zRunD ztb zmt' d 59 [zR (some r), v0] G h (fun v G' h' => zE 58 d Q 20 [l0, l1, l2, l3, l4, l5] (v.toList ++ st) G' h' k)) := E_invV2z (by rfl) (by decide) rfl
theorem e58_20 : zE 58 d Q 20 [some (.inr (.inr w9)), l1, l2, l3, l4, l5] st G h k ↔ zE 58 d Q 21 [some (.inr (.inr w9)), l1, l2, l3, l4, l5] (.inr (.inr w9) :: st) G h k := E_aload_n (by rfl) rfl
theorem e58_21 : zE 58 d Q 21 [l0, l1, some (zI x), l3, l4, l5] st G h k ↔ zE 58 d Q 22 [l0, l1, some (zI x), l3, l4, l5] (zI x :: st) G h k := E_iload_n (by rfl) rfl
theorem e58_22 : zE 58 d Q 22 [l0, l1, l2, l3, l4, l5] (v0 :: zR (some r) :: st) G h k ↔ (zsum st ≤ 8 ∧ G.2.1 r = 7 ∧ zRunD ztb zmt' d 59 [zR (some r), v0] G h (fun v G' h' => zE 58 d Q 25 [l0, l1, l2, l3, l4, l5] (v.toList ++ st) G' h' k)) := E_invV2z (by rfl) (by decide) rfl
theorem e58_25 : zE 58 d Q 25 [some (.inr (.inr w9)), l1, l2, l3, l4, l5] st G h k ↔ zE 58 d Q 26 [some (.inr (.inr w9)), l1, l2, l3, l4, l5] (.inr (.inr w9) :: st) G h k := E_aload_n (by rfl) rfl
theorem e58_26 : zE 58 d Q 26 [l0, l1, l2, some (zI x), l4, l5] st G h k ↔ zE 58 d Q 27 [l0, l1, l2, some (zI x), l4, l5] (zI x :: st) G h k := E_iload_n (by rfl) rfl
theorem e58_27 : zE 58 d Q 27 [l0, l1, l2, l3, l4, l5] (v0 :: zR (some r) :: st) G h k ↔ (zsum st ≤ 8 ∧ G.2.1 r = 7 ∧ zRunD ztb zmt' d 59 [zR (some r), v0] G h (fun v G' h' => zE 58 d Q 30 [l0, l1, l2, l3, l4, l5] (v.toList ++ st) G' h' k)) := E_invV2z (by rfl) (by decide) rfl
theorem e58_30 : zE 58 d Q 30 [some (.inr (.inr w9)), l1, l2, l3, l4, l5] st G h k ↔ zE 58 d Q 31 [some (.inr (.inr w9)), l1, l2, l3, l4, l5] (.inr (.inr w9) :: st) G h k := E_aload_n (by rfl) rfl
theorem e58_31 : zE 58 d Q 31 [l0, l1, l2, l3, some (zI x), l5] st G h k ↔ zE 58 d Q 33 [l0, l1, l2, l3, some (zI x), l5] (zI x :: st) G h k := E_iload (by rfl) rfl
theorem e58_33 : zE 58 d Q 33 [l0, l1, l2, l3, l4, l5] (v0 :: zR (some r) :: st) G h k ↔ (zsum st ≤ 8 ∧ G.2.1 r = 7 ∧ zRunD ztb zmt' d 59 [zR (some r), v0] G h (fun v G' h' => zE 58 d Q 36 [l0, l1, l2, l3, l4, l5] (v.toList ++ st) G' h' k)) := E_invV2z (by rfl) (by decide) rfl
theorem e58_36 : zE 58 d Q 36 [some (.inr (.inr w9)), l1, l2, l3, l4, l5] st G h k ↔ zE 58 d Q 37 [some (.inr (.inr w9)), l1, l2, l3, l4, l5] (.inr (.inr w9) :: st) G h k := E_aload_n (by rfl) rfl
theorem e58_37 : zE 58 d Q 37 [l0, l1, l2, l3, l4, some (zI x)] st G h k ↔ zE 58 d Q 39 [l0, l1, l2, l3, l4, some (zI x)] (zI x :: st) G h k := E_iload (by rfl) rfl
theorem e58_39 : zE 58 d Q 39 [l0, l1, l2, l3, l4, l5] (v0 :: zR (some r) :: st) G h k ↔ (zsum st ≤ 8 ∧ G.2.1 r = 7 ∧ zRunD ztb zmt' d 59 [zR (some r), v0] G h (fun v G' h' => zE 58 d Q 42 [l0, l1, l2, l3, l4, l5] (v.toList ++ st) G' h' k)) := E_invV2z (by rfl) (by decide) rfl
theorem e58_42 : zE 58 d Q 42 [some (.inr (.inr w9)), l1, l2, l3, l4, l5] st G h k ↔ zE 58 d Q 43 [some (.inr (.inr w9)), l1, l2, l3, l4, l5] (.inr (.inr w9) :: st) G h k := E_aload_n (by rfl) rfl
theorem e58_43 : zE 58 d Q 43 [l0, l1, l2, l3, l4, l5] (zR (some r) :: st) G h k ↔ (G.2.1 r = 7 ∧ zE 58 d Q 46 [l0, l1, l2, l3, l4, l5] (zI (h r 1) :: st) G h k) := E_getI (by rfl) (by decide)
theorem e58_46 : zE 58 d Q 46 [l0, l1, l2, l3, l4, l5] [zI x] G h k ↔ Q (some (zI x)) G h := E_iret (by rfl) rfl
theorem e59_0 : zE 59 d Q 0 [l0, l1, l2] st G h k ↔ zE 59 d Q 2 [l0, l1, l2] (zI 24 :: st) G h k := E_bipush (by rfl)
theorem e59_2 : zE 59 d Q 2 [l0, l1, l2] (zI x :: st) G h k ↔ zE 59 d Q 3 [l0, (zclr l1), some (zI x)] st G h k := E_istore_n (by rfl) (by decide)
theorem e59_3 : zE 59 d Q 3 [l0, l1, some (zI x)] st G h k ↔ zE 59 d Q 4 [l0, l1, some (zI x)] (zI x :: st) G h k := E_iload_n (by rfl) rfl
theorem e59_4 : zE 59 d Q 4 [l0, l1, l2] (zI x :: st) G h k ↔ ((x < 0 → zE 59 d Q 46 [l0, l1, l2] st G h k) ∧ (¬ (x < 0) → zE 59 d Q 7 [l0, l1, l2] st G h k)) := E_if_lt (by rfl)
theorem e59_7 : zE 59 d Q 7 [some (.inr (.inr w9)), l1, l2] st G h k ↔ zE 59 d Q 8 [some (.inr (.inr w9)), l1, l2] (.inr (.inr w9) :: st) G h k := E_aload_n (by rfl) rfl
theorem e59_8 : zE 59 d Q 8 [l0, l1, l2] (zR (some r) :: st) G h k ↔ (G.2.1 r = 7 ∧ zE 59 d Q 11 [l0, l1, l2] (zI (h r 1) :: st) G h k) := E_getI (by rfl) (by decide)
theorem e59_11 : zE 59 d Q 11 [l0, l1, l2] st G h k ↔ zE 59 d Q 14 [l0, l1, l2] (zI 700 :: st) G h k := E_sipush (by rfl)
theorem e59_14 : zE 59 d Q 14 [l0, l1, l2] (zI y :: zI x :: st) G h k ↔ ((y ≤ x → zE 59 d Q 46 [l0, l1, l2] st G h k) ∧ (¬ (y ≤ x) → zE 59 d Q 17 [l0, l1, l2] st G h k)) := E_icmp_ge (by rfl)
theorem e59_17 : zE 59 d Q 17 [some (.inr (.inr w9)), l1, l2] st G h k ↔ zE 59 d Q 18 [some (.inr (.inr w9)), l1, l2] (.inr (.inr w9) :: st) G h k := E_aload_n (by rfl) rfl
theorem e59_18 : zE 59 d Q 18 [l0, l1, l2] (zR (some r) :: st) G h k ↔ (G.2.1 r = 7 ∧ zE 59 d Q 21 [l0, l1, l2] (zR (G.2.2.2 r 0) :: st) G h k) := E_getR (by rfl) rfl
theorem e59_21 : zE 59 d Q 21 [some (.inr (.inr w9)), l1, l2] st G h k ↔ zE 59 d Q 22 [some (.inr (.inr w9)), l1, l2] (.inr (.inr w9) :: st) G h k := E_aload_n (by rfl) rfl
theorem e59_22 : zE 59 d Q 22 [l0, l1, l2] (zR (some r) :: st) G h k ↔ (G.2.1 r = 7 ∧ zE 59 d Q 25 [l0, l1, l2] (zI (h r 1) :: st) G h k) := E_getI (by rfl) (by decide)
theorem e59_25 : zE 59 d Q 25 [l0, some (zI x), l2] st G h k ↔ zE 59 d Q 26 [l0, some (zI x), l2] (zI x :: st) G h k := E_iload_n (by rfl) rfl
theorem e59_26 : zE 59 d Q 26 [l0, l1, some (zI x)] st G h k ↔ zE 59 d Q 27 [l0, l1, some (zI x)] (zI x :: st) G h k := E_iload_n (by rfl) rfl
theorem e59_27 : zE 59 d Q 27 [l0, l1, l2] (zI y :: zI x :: st) G h k ↔ ((0 ≤ y ∧ y < 32) ∧ zE 59 d Q 28 [l0, l1, l2] (zI (x / 2 ^ y.toNat) :: st) G h k) := E_ishr (by rfl)
theorem e59_28 : zE 59 d Q 28 [l0, l1, l2] (zI x :: st) G h k ↔ zE 59 d Q 29 [l0, l1, l2] (zI (wb x) :: st) G h k := E_i2b (by rfl)
theorem e59_29 : zE 59 d Q 29 [l0, l1, l2] (zI x :: zI i :: zR (some r) :: st) G h k ↔ (G.2.1 r = 12 ∧ (0 ≤ i ∧ i < G.2.2.1 r) ∧ zE 59 d Q 30 [l0, l1, l2] st G (zu h r i.toNat (wb x)) k) := E_bastoreB (by rfl) rfl
theorem e59_30 : zE 59 d Q 30 [some (.inr (.inr w9)), l1, l2] st G h k ↔ zE 59 d Q 31 [some (.inr (.inr w9)), l1, l2] (.inr (.inr w9) :: st) G h k := E_aload_n (by rfl) rfl
theorem e59_31 : zE 59 d Q 31 [l0, l1, l2] (.inr (.inr w9) :: st) G h k ↔ zE 59 d Q 32 [l0, l1, l2] (.inr (.inr w9) :: .inr (.inr w9) :: st) G h k := E_dup (by rfl) rfl
theorem e59_32 : zE 59 d Q 32 [l0, l1, l2] (zR (some r) :: st) G h k ↔ (G.2.1 r = 7 ∧ zE 59 d Q 35 [l0, l1, l2] (zI (h r 1) :: st) G h k) := E_getI (by rfl) (by decide)
theorem e59_35 : zE 59 d Q 35 [l0, l1, l2] st G h k ↔ zE 59 d Q 36 [l0, l1, l2] (zI 1 :: st) G h k := E_iconst (by rfl)
theorem e59_36 : zE 59 d Q 36 [l0, l1, l2] (zI y :: zI x :: st) G h k ↔ zE 59 d Q 37 [l0, l1, l2] (zI (wr (x + y)) :: st) G h k := E_iadd (by rfl)
theorem e59_37 : zE 59 d Q 37 [l0, l1, l2] (zI x :: zR (some r) :: st) G h k ↔ (G.2.1 r = 7 ∧ zE 59 d Q 40 [l0, l1, l2] st G (zu h r 1 x) k) := E_putI (by rfl) rfl
theorem e59_40 : zE 59 d Q 40 [l0, l1, some (zI x)] st G h k ↔ zE 59 d Q 43 [l0, (zclr l1), some (zI (wr (x + (-8))))] st G h k := E_iinc (by rfl) rfl
theorem e59_43 : zE 59 d Q 43 [l0, l1, l2] st G h k ↔ zE 59 d Q 3 [l0, l1, l2] st G h k := E_goto (by rfl)
theorem e59_46 : zE 59 d Q 46 [l0, l1, l2] [] G h k ↔ Q none G h := E_vret (by rfl) rfl
theorem e60_0 : zE 60 d Q 0 [l0, some (zI x)] st G h k ↔ zE 60 d Q 1 [l0, some (zI x)] (zI x :: st) G h k := E_iload_n (by rfl) rfl
theorem e60_1 : zE 60 d Q 1 [l0, l1] (zI x :: st) G h k ↔ ((x < 0 → zE 60 d Q 12 [l0, l1] st G h k) ∧ (¬ (x < 0) → zE 60 d Q 4 [l0, l1] st G h k)) := E_if_lt (by rfl)
theorem e60_4 : zE 60 d Q 4 [l0, some (zI x)] st G h k ↔ zE 60 d Q 5 [l0, some (zI x)] (zI x :: st) G h k := E_iload_n (by rfl) rfl
theorem e60_5 : zE 60 d Q 5 [some (.inr (.inr w9)), l1] st G h k ↔ zE 60 d Q 6 [some (.inr (.inr w9)), l1] (.inr (.inr w9) :: st) G h k := E_aload_n (by rfl) rfl
theorem e60_6 : zE 60 d Q 6 [l0, l1] (zR (some r) :: st) G h k ↔ (G.2.1 r = 7 ∧ zE 60 d Q 9 [l0, l1] (zI (h r 1) :: st) G h k) := E_getI (by rfl) (by decide)
theorem e60_9 : zE 60 d Q 9 [l0, l1] (zI y :: zI x :: st) G h k ↔ ((x ≤ y → zE 60 d Q 19 [l0, l1] st G h k) ∧ (¬ (x ≤ y) → zE 60 d Q 12 [l0, l1] st G h k)) := E_icmp_le (by rfl)
theorem e60_12 : zE 60 d Q 12 [some (.inr (.inr w9)), l1] st G h k ↔ zE 60 d Q 13 [some (.inr (.inr w9)), l1] (.inr (.inr w9) :: st) G h k := E_aload_n (by rfl) rfl
theorem e60_13 : zE 60 d Q 13 [l0, l1] st G h k ↔ zE 60 d Q 14 [l0, l1] (zI 2 :: st) G h k := E_iconst (by rfl)
theorem e60_14 : zE 60 d Q 14 [l0, l1] (zI x :: zR (some r) :: st) G h k ↔ (G.2.1 r = 7 ∧ zE 60 d Q 17 [l0, l1] st G (zu h r 11 x) k) := E_putI (by rfl) rfl
theorem e60_17 : zE 60 d Q 17 [l0, l1] st G h k ↔ zE 60 d Q 18 [l0, l1] (zI (-1) :: st) G h k := E_iconst (by rfl)
theorem e60_18 : zE 60 d Q 18 [l0, l1] [zI x] G h k ↔ Q (some (zI x)) G h := E_iret (by rfl) rfl
theorem e60_19 : zE 60 d Q 19 [some (.inr (.inr w9)), l1] st G h k ↔ zE 60 d Q 20 [some (.inr (.inr w9)), l1] (.inr (.inr w9) :: st) G h k := E_aload_n (by rfl) rfl
theorem e60_20 : zE 60 d Q 20 [some (.inr (.inr w9)), l1] st G h k ↔ zE 60 d Q 21 [some (.inr (.inr w9)), l1] (.inr (.inr w9) :: st) G h k := E_aload_n (by rfl) rfl
theorem e60_21 : zE 60 d Q 21 [l0, l1] (zR (some r) :: st) G h k ↔ (G.2.1 r = 7 ∧ zE 60 d Q 24 [l0, l1] (zR (G.2.2.2 r 2) :: st) G h k) := E_getR (by rfl) rfl
theorem e60_24 : zE 60 d Q 24 [some (.inr (.inr w9)), l1] st G h k ↔ zE 60 d Q 25 [some (.inr (.inr w9)), l1] (.inr (.inr w9) :: st) G h k := E_aload_n (by rfl) rfl
theorem e60_25 : zE 60 d Q 25 [l0, l1] (zR (some r) :: st) G h k ↔ (G.2.1 r = 7 ∧ zE 60 d Q 28 [l0, l1] (zR (G.2.2.2 r 0) :: st) G h k) := E_getR (by rfl) rfl
theorem e60_28 : zE 60 d Q 28 [l0, some (zI x)] st G h k ↔ zE 60 d Q 29 [l0, some (zI x)] (zI x :: st) G h k := E_iload_n (by rfl) rfl
theorem e60_29 : zE 60 d Q 29 [some (.inr (.inr w9)), l1] st G h k ↔ zE 60 d Q 30 [some (.inr (.inr w9)), l1] (.inr (.inr w9) :: st) G h k := E_aload_n (by rfl) rfl
theorem e60_30 : zE 60 d Q 30 [l0, l1] (zR (some r) :: st) G h k ↔ (G.2.1 r = 7 ∧ zE 60 d Q 33 [l0, l1] (zR (G.2.2.2 r 3) :: st) G h k) := E_getR (by rfl) rfl
theorem e60_33 : zE 60 d Q 33 [l0, l1] (v2 :: v1 :: v0 :: zR (some r) :: st) G h k ↔ (zsum st ≤ 8 ∧ G.2.1 r = 3 ∧ zRunD ztb zmt' d 14 [zR (some r), v0, v1, v2] G h (fun v G' h' => zE 60 d Q 36 [l0, l1] (v.toList ++ st) G' h' k)) := E_invV2z (by rfl) (by decide) rfl
theorem e60_36 : zE 60 d Q 36 [l0, l1] (zI x :: zR (some r) :: st) G h k ↔ (G.2.1 r = 7 ∧ zE 60 d Q 39 [l0, l1] st G (zu h r 12 x) k) := E_putI (by rfl) rfl
theorem e60_39 : zE 60 d Q 39 [some (.inr (.inr w9)), l1] st G h k ↔ zE 60 d Q 40 [some (.inr (.inr w9)), l1] (.inr (.inr w9) :: st) G h k := E_aload_n (by rfl) rfl
theorem e60_40 : zE 60 d Q 40 [some (.inr (.inr w9)), l1] st G h k ↔ zE 60 d Q 41 [some (.inr (.inr w9)), l1] (.inr (.inr w9) :: st) G h k := E_aload_n (by rfl) rfl
theorem e60_41 : zE 60 d Q 41 [l0, l1] (zR (some r) :: st) G h k ↔ (G.2.1 r = 7 ∧ zE 60 d Q 44 [l0, l1] (zR (G.2.2.2 r 2) :: st) G h k) := E_getR (by rfl) rfl
theorem e60_44 : zE 60 d Q 44 [l0, l1] (zR (some r) :: st) G h k ↔ (G.2.1 r = 3 ∧ zE 60 d Q 47 [l0, l1] (zI (h r 0) :: st) G h k) := E_getI (by rfl) (by decide)
theorem e60_47 : zE 60 d Q 47 [l0, l1] (zI x :: zR (some r) :: st) G h k ↔ (G.2.1 r = 7 ∧ zE 60 d Q 50 [l0, l1] st G (zu h r 13 x) k) := E_putI (by rfl) rfl
theorem e60_50 : zE 60 d Q 50 [some (.inr (.inr w9)), l1] st G h k ↔ zE 60 d Q 51 [some (.inr (.inr w9)), l1] (.inr (.inr w9) :: st) G h k := E_aload_n (by rfl) rfl
theorem e60_51 : zE 60 d Q 51 [l0, l1] st G h k ↔ zE 60 d Q 52 [l0, l1] (zI 0 :: st) G h k := E_iconst (by rfl)
theorem e60_52 : zE 60 d Q 52 [l0, l1] (zI x :: zR (some r) :: st) G h k ↔ (G.2.1 r = 7 ∧ zE 60 d Q 55 [l0, l1] st G (zu h r 1 x) k) := E_putI (by rfl) rfl
theorem e60_55 : zE 60 d Q 55 [some (.inr (.inr w9)), l1] st G h k ↔ zE 60 d Q 56 [some (.inr (.inr w9)), l1] (.inr (.inr w9) :: st) G h k := E_aload_n (by rfl) rfl
theorem e60_56 : zE 60 d Q 56 [l0, l1] (zR (some r) :: st) G h k ↔ (G.2.1 r = 7 ∧ zE 60 d Q 59 [l0, l1] (zI (h r 12) :: st) G h k) := E_getI (by rfl) (by decide)
theorem e60_59 : zE 60 d Q 59 [l0, l1] (zI x :: st) G h k ↔ ((x = 0 → zE 60 d Q 69 [l0, l1] st G h k) ∧ (¬ (x = 0) → zE 60 d Q 62 [l0, l1] st G h k)) := E_if_eq (by rfl)
theorem e60_62 : zE 60 d Q 62 [some (.inr (.inr w9)), l1] st G h k ↔ zE 60 d Q 63 [some (.inr (.inr w9)), l1] (.inr (.inr w9) :: st) G h k := E_aload_n (by rfl) rfl
theorem e60_63 : zE 60 d Q 63 [l0, l1] st G h k ↔ zE 60 d Q 64 [l0, l1] (zI 4 :: st) G h k := E_iconst (by rfl)
theorem e60_64 : zE 60 d Q 64 [l0, l1] (zI x :: zR (some r) :: st) G h k ↔ (G.2.1 r = 7 ∧ zE 60 d Q 67 [l0, l1] st G (zu h r 11 x) k) := E_putI (by rfl) rfl
theorem e60_67 : zE 60 d Q 67 [l0, l1] st G h k ↔ zE 60 d Q 68 [l0, l1] (zI (-1) :: st) G h k := E_iconst (by rfl)
theorem e60_68 : zE 60 d Q 68 [l0, l1] [zI x] G h k ↔ Q (some (zI x)) G h := E_iret (by rfl) rfl
theorem e60_69 : zE 60 d Q 69 [some (.inr (.inr w9)), l1] st G h k ↔ zE 60 d Q 70 [some (.inr (.inr w9)), l1] (.inr (.inr w9) :: st) G h k := E_aload_n (by rfl) rfl
theorem e60_70 : zE 60 d Q 70 [l0, l1] st G h k ↔ zE 60 d Q 71 [l0, l1] (zI 0 :: st) G h k := E_iconst (by rfl)
theorem e60_71 : zE 60 d Q 71 [l0, l1] (zI x :: zR (some r) :: st) G h k ↔ (G.2.1 r = 7 ∧ zE 60 d Q 74 [l0, l1] st G (zu h r 11 x) k) := E_putI (by rfl) rfl
theorem e60_74 : zE 60 d Q 74 [some (.inr (.inr w9)), l1] st G h k ↔ zE 60 d Q 75 [some (.inr (.inr w9)), l1] (.inr (.inr w9) :: st) G h k := E_aload_n (by rfl) rfl
theorem e60_75 : zE 60 d Q 75 [l0, l1] (zR (some r) :: st) G h k ↔ (G.2.1 r = 7 ∧ zE 60 d Q 78 [l0, l1] (zR (G.2.2.2 r 6) :: st) G h k) := E_getR (by rfl) rfl
theorem e60_78 : zE 60 d Q 78 [some (.inr (.inr w9)), l1] st G h k ↔ zE 60 d Q 79 [some (.inr (.inr w9)), l1] (.inr (.inr w9) :: st) G h k := E_aload_n (by rfl) rfl
theorem e60_79 : zE 60 d Q 79 [l0, l1] (zR (some r) :: st) G h k ↔ (G.2.1 r = 7 ∧ zE 60 d Q 82 [l0, l1] (zR (G.2.2.2 r 3) :: st) G h k) := E_getR (by rfl) rfl
theorem e60_82 : zE 60 d Q 82 [l0, l1] (v0 :: zR (some r) :: st) G h k ↔ (zsum st ≤ 8 ∧ G.2.1 r = 5 ∧ zRunD ztb zmt' d 46 [zR (some r), v0] G h (fun v G' h' => zE 60 d Q 85 [l0, l1] (v.toList ++ st) G' h' k)) := E_invV2z (by rfl) (by decide) rfl
theorem e60_85 : zE 60 d Q 85 [some (.inr (.inr w9)), l1] st G h k ↔ zE 60 d Q 86 [some (.inr (.inr w9)), l1] (.inr (.inr w9) :: st) G h k := E_aload_n (by rfl) rfl
theorem e60_86 : zE 60 d Q 86 [l0, l1] (zR (some r) :: st) G h k ↔ (G.2.1 r = 7 ∧ zE 60 d Q 89 [l0, l1] (zR (G.2.2.2 r 7) :: st) G h k) := E_getR (by rfl) rfl
theorem e60_89 : zE 60 d Q 89 [l0, l1] (zR (some r) :: st) G h k ↔ (zsum st ≤ 8 ∧ G.2.1 r = 0 ∧ zRunD ztb zmt' d 1 [zR (some r)] G h (fun v G' h' => zE 60 d Q 92 [l0, l1] (v.toList ++ st) G' h' k)) := E_invV2z (by rfl) (by decide) rfl
theorem e60_92 : zE 60 d Q 92 [some (.inr (.inr w9)), l1] st G h k ↔ zE 60 d Q 93 [some (.inr (.inr w9)), l1] (.inr (.inr w9) :: st) G h k := E_aload_n (by rfl) rfl
theorem e60_93 : zE 60 d Q 93 [l0, l1] (zR (some r) :: st) G h k ↔ (G.2.1 r = 7 ∧ zE 60 d Q 96 [l0, l1] (zR (G.2.2.2 r 10) :: st) G h k) := E_getR (by rfl) rfl
theorem e60_96 : zE 60 d Q 96 [l0, l1] st G h k ↔ zE 60 d Q 97 [l0, l1] (zI 0 :: st) G h k := E_iconst (by rfl)
theorem e60_97 : zE 60 d Q 97 [l0, l1] (zI x :: zR (some r) :: st) G h k ↔ (G.2.1 r = 2 ∧ (x = 0 ∨ x = 1) ∧ zE 60 d Q 100 [l0, l1] st G (zu h r 0 x) k) := E_putZ (by rfl) rfl
theorem e60_100 : zE 60 d Q 100 [some (.inr (.inr w9)), l1] st G h k ↔ zE 60 d Q 101 [some (.inr (.inr w9)), l1] (.inr (.inr w9) :: st) G h k := E_aload_n (by rfl) rfl
theorem e60_101 : zE 60 d Q 101 [l0, l1] (zR (some r) :: st) G h k ↔ (G.2.1 r = 7 ∧ zE 60 d Q 104 [l0, l1] (zR (G.2.2.2 r 6) :: st) G h k) := E_getR (by rfl) rfl
theorem e60_104 : zE 60 d Q 104 [l0, l1] (zR (some r) :: st) G h k ↔ (G.2.1 r = 5 ∧ zE 60 d Q 107 [l0, l1] (zI (h r 9) :: st) G h k) := E_getI (by rfl) (by decide)
theorem e60_107 : zE 60 d Q 107 [l0, l1] [zI x] G h k ↔ Q (some (zI x)) G h := E_iret (by rfl) rfl
theorem e61_0 : zE 61 d Q 0 [some (.inr (.inr w9))] st G h k ↔ zE 61 d Q 1 [some (.inr (.inr w9))] (.inr (.inr w9) :: st) G h k := E_aload_n (by rfl) rfl
theorem e61_1 : zE 61 d Q 1 [l0] (zR (some r) :: st) G h k ↔ (G.2.1 r = 7 ∧ zE 61 d Q 4 [l0] (zI (h r 12) :: st) G h k) := E_getI (by rfl) (by decide)
theorem e61_4 : zE 61 d Q 4 [l0] [zI x] G h k ↔ Q (some (zI x)) G h := E_iret (by rfl) rfl
theorem e62_0 : zE 62 d Q 0 [some (.inr (.inr w9))] st G h k ↔ zE 62 d Q 1 [some (.inr (.inr w9))] (.inr (.inr w9) :: st) G h k := E_aload_n (by rfl) rfl
theorem e62_1 : zE 62 d Q 1 [l0] (zR (some r) :: st) G h k ↔ (G.2.1 r = 7 ∧ zE 62 d Q 4 [l0] (zI (h r 11) :: st) G h k) := E_getI (by rfl) (by decide)
theorem e62_4 : zE 62 d Q 4 [l0] st G h k ↔ zE 62 d Q 5 [l0] (zI 4 :: st) G h k := E_iconst (by rfl)
theorem e62_5 : zE 62 d Q 5 [l0] (zI y :: zI x :: st) G h k ↔ ((¬ x = y → zE 62 d Q 15 [l0] st G h k) ∧ (¬ (¬ x = y) → zE 62 d Q 8 [l0] st G h k)) := E_icmp_ne (by rfl)
theorem e62_8 : zE 62 d Q 8 [some (.inr (.inr w9))] st G h k ↔ zE 62 d Q 9 [some (.inr (.inr w9))] (.inr (.inr w9) :: st) G h k := E_aload_n (by rfl) rfl
theorem e62_9 : zE 62 d Q 9 [l0] (zR (some r) :: st) G h k ↔ (G.2.1 r = 7 ∧ zE 62 d Q 12 [l0] (zI (h r 13) :: st) G h k) := E_getI (by rfl) (by decide)
theorem e62_12 : zE 62 d Q 12 [l0] st G h k ↔ zE 62 d Q 16 [l0] st G h k := E_goto (by rfl)
theorem e62_15 : zE 62 d Q 15 [l0] st G h k ↔ zE 62 d Q 16 [l0] (zI (-1) :: st) G h k := E_iconst (by rfl)
theorem e62_16 : zE 62 d Q 16 [l0] [zI x] G h k ↔ Q (some (zI x)) G h := E_iret (by rfl) rfl
theorem e63_0 : zE 63 d Q 0 [some (.inr (.inr w9)), l1, l2, l3] st G h k ↔ zE 63 d Q 1 [some (.inr (.inr w9)), l1, l2, l3] (.inr (.inr w9) :: st) G h k := E_aload_n (by rfl) rfl
theorem e63_1 : zE 63 d Q 1 [l0, some (zI x), l2, l3] st G h k ↔ zE 63 d Q 2 [l0, some (zI x), l2, l3] (zI x :: st) G h k := E_iload_n (by rfl) rfl
theorem e63_2 : zE 63 d Q 2 [l0, l1, l2, l3] (v0 :: zR (some r) :: st) G h k ↔ (zsum st ≤ 8 ∧ G.2.1 r = 7 ∧ zRunD ztb zmt' d 98 [zR (some r), v0] G h (fun v G' h' => zE 63 d Q 5 [l0, l1, l2, l3] (v.toList ++ st) G' h' k)) := E_invV2z (by rfl) (by decide) rfl
theorem e63_5 : zE 63 d Q 5 [l0, l1, l2, l3] (zI x :: st) G h k ↔ ((x = 0 → zE 63 d Q 16 [l0, l1, l2, l3] st G h k) ∧ (¬ (x = 0) → zE 63 d Q 8 [l0, l1, l2, l3] st G h k)) := E_if_eq (by rfl)
theorem e63_8 : zE 63 d Q 8 [some (.inr (.inr w9)), l1, l2, l3] st G h k ↔ zE 63 d Q 9 [some (.inr (.inr w9)), l1, l2, l3] (.inr (.inr w9) :: st) G h k := E_aload_n (by rfl) rfl
theorem e63_9 : zE 63 d Q 9 [l0, l1, some (zI x), l3] st G h k ↔ zE 63 d Q 10 [l0, l1, some (zI x), l3] (zI x :: st) G h k := E_iload_n (by rfl) rfl
theorem e63_10 : zE 63 d Q 10 [l0, l1, l2, l3] (v0 :: zR (some r) :: st) G h k ↔ (zsum st ≤ 8 ∧ G.2.1 r = 7 ∧ zRunD ztb zmt' d 99 [zR (some r), v0] G h (fun v G' h' => zE 63 d Q 13 [l0, l1, l2, l3] (v.toList ++ st) G' h' k)) := E_invV2z (by rfl) (by decide) rfl
theorem e63_13 : zE 63 d Q 13 [l0, l1, l2, l3] (zI x :: st) G h k ↔ ((¬ x = 0 → zE 63 d Q 23 [l0, l1, l2, l3] st G h k) ∧ (¬ (¬ x = 0) → zE 63 d Q 16 [l0, l1, l2, l3] st G h k)) := E_if_ne (by rfl)
theorem e63_16 : zE 63 d Q 16 [some (.inr (.inr w9)), l1, l2, l3] st G h k ↔ zE 63 d Q 17 [some (.inr (.inr w9)), l1, l2, l3] (.inr (.inr w9) :: st) G h k := E_aload_n (by rfl) rfl
theorem e63_17 : zE 63 d Q 17 [l0, l1, l2, l3] st G h k ↔ zE 63 d Q 18 [l0, l1, l2, l3] (zI 1 :: st) G h k := E_iconst (by rfl)
theorem e63_18 : zE 63 d Q 18 [l0, l1, l2, l3] (zI x :: zR (some r) :: st) G h k ↔ (G.2.1 r = 7 ∧ zE 63 d Q 21 [l0, l1, l2, l3] st G (zu h r 11 x) k) := E_putI (by rfl) rfl
theorem e63_21 : zE 63 d Q 21 [l0, l1, l2, l3] st G h k ↔ zE 63 d Q 22 [l0, l1, l2, l3] (zI 0 :: st) G h k := E_iconst (by rfl)
theorem e63_22 : zE 63 d Q 22 [l0, l1, l2, l3] [zI x] G h k ↔ ((x = 0 ∨ x = 1) ∧ Q (some (zI x)) G h) := E_zret (by rfl) rfl
theorem e63_23 : zE 63 d Q 23 [l0, l1, l2, some (zI x)] st G h k ↔ zE 63 d Q 24 [l0, l1, l2, some (zI x)] (zI x :: st) G h k := E_iload_n (by rfl) rfl
theorem e63_24 : zE 63 d Q 24 [l0, l1, l2, l3] (zI x :: st) G h k ↔ ((x < 0 → zE 63 d Q 34 [l0, l1, l2, l3] st G h k) ∧ (¬ (x < 0) → zE 63 d Q 27 [l0, l1, l2, l3] st G h k)) := E_if_lt (by rfl)
theorem e63_27 : zE 63 d Q 27 [l0, l1, l2, some (zI x)] st G h k ↔ zE 63 d Q 28 [l0, l1, l2, some (zI x)] (zI x :: st) G h k := E_iload_n (by rfl) rfl
theorem e63_28 : zE 63 d Q 28 [l0, l1, l2, l3] st G h k ↔ zE 63 d Q 31 [l0, l1, l2, l3] (zI 9999 :: st) G h k := E_sipush (by rfl)
theorem e63_31 : zE 63 d Q 31 [l0, l1, l2, l3] (zI y :: zI x :: st) G h k ↔ ((x ≤ y → zE 63 d Q 41 [l0, l1, l2, l3] st G h k) ∧ (¬ (x ≤ y) → zE 63 d Q 34 [l0, l1, l2, l3] st G h k)) := E_icmp_le (by rfl)
theorem e63_34 : zE 63 d Q 34 [some (.inr (.inr w9)), l1, l2, l3] st G h k ↔ zE 63 d Q 35 [some (.inr (.inr w9)), l1, l2, l3] (.inr (.inr w9) :: st) G h k := E_aload_n (by rfl) rfl
theorem e63_35 : zE 63 d Q 35 [l0, l1, l2, l3] st G h k ↔ zE 63 d Q 36 [l0, l1, l2, l3] (zI 2 :: st) G h k := E_iconst (by rfl)
theorem e63_36 : zE 63 d Q 36 [l0, l1, l2, l3] (zI x :: zR (some r) :: st) G h k ↔ (G.2.1 r = 7 ∧ zE 63 d Q 39 [l0, l1, l2, l3] st G (zu h r 11 x) k) := E_putI (by rfl) rfl
theorem e63_39 : zE 63 d Q 39 [l0, l1, l2, l3] st G h k ↔ zE 63 d Q 40 [l0, l1, l2, l3] (zI 0 :: st) G h k := E_iconst (by rfl)
theorem e63_40 : zE 63 d Q 40 [l0, l1, l2, l3] [zI x] G h k ↔ ((x = 0 ∨ x = 1) ∧ Q (some (zI x)) G h) := E_zret (by rfl) rfl
theorem e63_41 : zE 63 d Q 41 [some (.inr (.inr w9)), l1, l2, l3] st G h k ↔ zE 63 d Q 42 [some (.inr (.inr w9)), l1, l2, l3] (.inr (.inr w9) :: st) G h k := E_aload_n (by rfl) rfl
theorem e63_42 : zE 63 d Q 42 [l0, l1, l2, l3] st G h k ↔ zE 63 d Q 43 [l0, l1, l2, l3] (zI 0 :: st) G h k := E_iconst (by rfl)
theorem e63_43 : zE 63 d Q 43 [l0, l1, l2, l3] (zI x :: zR (some r) :: st) G h k ↔ (G.2.1 r = 7 ∧ zE 63 d Q 46 [l0, l1, l2, l3] st G (zu h r 11 x) k) := E_putI (by rfl) rfl
theorem e63_46 : zE 63 d Q 46 [some (.inr (.inr w9)), l1, l2, l3] st G h k ↔ zE 63 d Q 47 [some (.inr (.inr w9)), l1, l2, l3] (.inr (.inr w9) :: st) G h k := E_aload_n (by rfl) rfl
theorem e63_47 : zE 63 d Q 47 [l0, l1, l2, l3] (zR (some r) :: st) G h k ↔ (G.2.1 r = 7 ∧ zE 63 d Q 50 [l0, l1, l2, l3] (zR (G.2.2.2 r 7) :: st) G h k) := E_getR (by rfl) rfl
theorem e63_50 : zE 63 d Q 50 [l0, l1, l2, l3] (zR (some r) :: st) G h k ↔ (G.2.1 r = 0 ∧ zE 63 d Q 53 [l0, l1, l2, l3] (zR (G.2.2.2 r 1) :: st) G h k) := E_getR (by rfl) rfl
theorem e63_53 : zE 63 d Q 53 [some (.inr (.inr w9)), l1, l2, l3] st G h k ↔ zE 63 d Q 54 [some (.inr (.inr w9)), l1, l2, l3] (.inr (.inr w9) :: st) G h k := E_aload_n (by rfl) rfl
theorem e63_54 : zE 63 d Q 54 [l0, l1, l2, l3] (zR (some r) :: st) G h k ↔ (G.2.1 r = 7 ∧ zE 63 d Q 57 [l0, l1, l2, l3] (zR (G.2.2.2 r 7) :: st) G h k) := E_getR (by rfl) rfl
theorem e63_57 : zE 63 d Q 57 [l0, some (zI x), l2, l3] st G h k ↔ zE 63 d Q 58 [l0, some (zI x), l2, l3] (zI x :: st) G h k := E_iload_n (by rfl) rfl
theorem e63_58 : zE 63 d Q 58 [l0, l1, some (zI x), l3] st G h k ↔ zE 63 d Q 59 [l0, l1, some (zI x), l3] (zI x :: st) G h k := E_iload_n (by rfl) rfl
theorem e63_59 : zE 63 d Q 59 [l0, l1, l2, l3] (v1 :: v0 :: zR (some r) :: st) G h k ↔ (zsum st ≤ 8 ∧ G.2.1 r = 0 ∧ zRunD ztb zmt' d 2 [zR (some r), v0, v1] G h (fun v G' h' => zE 63 d Q 62 [l0, l1, l2, l3] (v.toList ++ st) G' h' k)) := E_invV2z (by rfl) (by decide) rfl
theorem e63_62 : zE 63 d Q 62 [l0, l1, l2, some (zI x)] st G h k ↔ zE 63 d Q 63 [l0, l1, l2, some (zI x)] (zI x :: st) G h k := E_iload_n (by rfl) rfl
theorem e63_63 : zE 63 d Q 63 [l0, l1, l2, l3] (zI x :: zI i :: zR (some r) :: st) G h k ↔ (G.2.1 r = 10 ∧ (0 ≤ i ∧ i < G.2.2.1 r) ∧ zE 63 d Q 64 [l0, l1, l2, l3] st G (zu h r i.toNat x) k) := E_iastore (by rfl)
theorem e63_64 : zE 63 d Q 64 [l0, l1, l2, l3] st G h k ↔ zE 63 d Q 65 [l0, l1, l2, l3] (zI 1 :: st) G h k := E_iconst (by rfl)
theorem e63_65 : zE 63 d Q 65 [l0, l1, l2, l3] [zI x] G h k ↔ ((x = 0 ∨ x = 1) ∧ Q (some (zI x)) G h) := E_zret (by rfl) rfl
theorem e64_0 : zE 64 d Q 0 [some (.inr (.inr w9)), l1, l2, l3] st G h k ↔ zE 64 d Q 1 [some (.inr (.inr w9)), l1, l2, l3] (.inr (.inr w9) :: st) G h k := E_aload_n (by rfl) rfl
theorem e64_1 : zE 64 d Q 1 [l0, some (zI x), l2, l3] st G h k ↔ zE 64 d Q 2 [l0, some (zI x), l2, l3] (zI x :: st) G h k := E_iload_n (by rfl) rfl
theorem e64_2 : zE 64 d Q 2 [l0, l1, l2, l3] (v0 :: zR (some r) :: st) G h k ↔ (zsum st ≤ 8 ∧ G.2.1 r = 7 ∧ zRunD ztb zmt' d 98 [zR (some r), v0] G h (fun v G' h' => zE 64 d Q 5 [l0, l1, l2, l3] (v.toList ++ st) G' h' k)) := E_invV2z (by rfl) (by decide) rfl
theorem e64_5 : zE 64 d Q 5 [l0, l1, l2, l3] (zI x :: st) G h k ↔ ((¬ x = 0 → zE 64 d Q 15 [l0, l1, l2, l3] st G h k) ∧ (¬ (¬ x = 0) → zE 64 d Q 8 [l0, l1, l2, l3] st G h k)) := E_if_ne (by rfl)
theorem e64_8 : zE 64 d Q 8 [some (.inr (.inr w9)), l1, l2, l3] st G h k ↔ zE 64 d Q 9 [some (.inr (.inr w9)), l1, l2, l3] (.inr (.inr w9) :: st) G h k := E_aload_n (by rfl) rfl
theorem e64_9 : zE 64 d Q 9 [l0, l1, l2, l3] st G h k ↔ zE 64 d Q 10 [l0, l1, l2, l3] (zI 1 :: st) G h k := E_iconst (by rfl)
theorem e64_10 : zE 64 d Q 10 [l0, l1, l2, l3] (zI x :: zR (some r) :: st) G h k ↔ (G.2.1 r = 7 ∧ zE 64 d Q 13 [l0, l1, l2, l3] st G (zu h r 11 x) k) := E_putI (by rfl) rfl
theorem e64_13 : zE 64 d Q 13 [l0, l1, l2, l3] st G h k ↔ zE 64 d Q 14 [l0, l1, l2, l3] (zI 0 :: st) G h k := E_iconst (by rfl)
theorem e64_14 : zE 64 d Q 14 [l0, l1, l2, l3] [zI x] G h k ↔ ((x = 0 ∨ x = 1) ∧ Q (some (zI x)) G h) := E_zret (by rfl) rfl
theorem e64_15 : zE 64 d Q 15 [some (.inr (.inr w9)), l1, l2, l3] st G h k ↔ zE 64 d Q 16 [some (.inr (.inr w9)), l1, l2, l3] (.inr (.inr w9) :: st) G h k := E_aload_n (by rfl) rfl
theorem e64_16 : zE 64 d Q 16 [l0, l1, some (zI x), l3] st G h k ↔ zE 64 d Q 17 [l0, l1, some (zI x), l3] (zI x :: st) G h k := E_iload_n (by rfl) rfl
theorem e64_17 : zE 64 d Q 17 [l0, l1, l2, l3] (v0 :: zR (some r) :: st) G h k ↔ (zsum st ≤ 8 ∧ G.2.1 r = 7 ∧ zRunD ztb zmt' d 100 [zR (some r), v0] G h (fun v G' h' => zE 64 d Q 20 [l0, l1, l2, l3] (v.toList ++ st) G' h' k)) := E_invV2z (by rfl) (by decide) rfl
theorem e64_20 : zE 64 d Q 20 [l0, l1, l2, l3] (zI x :: st) G h k ↔ ((x = 0 → zE 64 d Q 31 [l0, l1, l2, l3] st G h k) ∧ (¬ (x = 0) → zE 64 d Q 23 [l0, l1, l2, l3] st G h k)) := E_if_eq (by rfl)
theorem e64_23 : zE 64 d Q 23 [some (.inr (.inr w9)), l1, l2, l3] st G h k ↔ zE 64 d Q 24 [some (.inr (.inr w9)), l1, l2, l3] (.inr (.inr w9) :: st) G h k := E_aload_n (by rfl) rfl
theorem e64_24 : zE 64 d Q 24 [l0, l1, l2, some (zI x)] st G h k ↔ zE 64 d Q 25 [l0, l1, l2, some (zI x)] (zI x :: st) G h k := E_iload_n (by rfl) rfl
theorem e64_25 : zE 64 d Q 25 [l0, l1, l2, l3] (v0 :: zR (some r) :: st) G h k ↔ (zsum st ≤ 8 ∧ G.2.1 r = 7 ∧ zRunD ztb zmt' d 100 [zR (some r), v0] G h (fun v G' h' => zE 64 d Q 28 [l0, l1, l2, l3] (v.toList ++ st) G' h' k)) := E_invV2z (by rfl) (by decide) rfl
theorem e64_28 : zE 64 d Q 28 [l0, l1, l2, l3] (zI x :: st) G h k ↔ ((¬ x = 0 → zE 64 d Q 38 [l0, l1, l2, l3] st G h k) ∧ (¬ (¬ x = 0) → zE 64 d Q 31 [l0, l1, l2, l3] st G h k)) := E_if_ne (by rfl)
theorem e64_31 : zE 64 d Q 31 [some (.inr (.inr w9)), l1, l2, l3] st G h k ↔ zE 64 d Q 32 [some (.inr (.inr w9)), l1, l2, l3] (.inr (.inr w9) :: st) G h k := E_aload_n (by rfl) rfl
theorem e64_32 : zE 64 d Q 32 [l0, l1, l2, l3] st G h k ↔ zE 64 d Q 33 [l0, l1, l2, l3] (zI 2 :: st) G h k := E_iconst (by rfl)
theorem e64_33 : zE 64 d Q 33 [l0, l1, l2, l3] (zI x :: zR (some r) :: st) G h k ↔ (G.2.1 r = 7 ∧ zE 64 d Q 36 [l0, l1, l2, l3] st G (zu h r 11 x) k) := E_putI (by rfl) rfl
theorem e64_36 : zE 64 d Q 36 [l0, l1, l2, l3] st G h k ↔ zE 64 d Q 37 [l0, l1, l2, l3] (zI 0 :: st) G h k := E_iconst (by rfl)
theorem e64_37 : zE 64 d Q 37 [l0, l1, l2, l3] [zI x] G h k ↔ ((x = 0 ∨ x = 1) ∧ Q (some (zI x)) G h) := E_zret (by rfl) rfl
theorem e64_38 : zE 64 d Q 38 [some (.inr (.inr w9)), l1, l2, l3] st G h k ↔ zE 64 d Q 39 [some (.inr (.inr w9)), l1, l2, l3] (.inr (.inr w9) :: st) G h k := E_aload_n (by rfl) rfl
theorem e64_39 : zE 64 d Q 39 [l0, l1, l2, l3] (zR (some r) :: st) G h k ↔ (G.2.1 r = 7 ∧ zE 64 d Q 42 [l0, l1, l2, l3] (zR (G.2.2.2 r 6) :: st) G h k) := E_getR (by rfl) rfl
theorem e64_42 : zE 64 d Q 42 [l0, l1, l2, l3] (zR (some r) :: st) G h k ↔ (G.2.1 r = 5 ∧ zE 64 d Q 45 [l0, l1, l2, l3] (zI (h r 12) :: st) G h k) := E_getI (by rfl) (by decide)
theorem e64_45 : zE 64 d Q 45 [l0, l1, l2, l3] (zI x :: st) G h k ↔ ((¬ x = 0 → zE 64 d Q 60 [l0, l1, l2, l3] st G h k) ∧ (¬ (¬ x = 0) → zE 64 d Q 48 [l0, l1, l2, l3] st G h k)) := E_if_ne (by rfl)
theorem e64_48 : zE 64 d Q 48 [l0, l1, l2, some (zI x)] st G h k ↔ zE 64 d Q 49 [l0, l1, l2, some (zI x)] (zI x :: st) G h k := E_iload_n (by rfl) rfl
theorem e64_49 : zE 64 d Q 49 [l0, l1, some (zI x), l3] st G h k ↔ zE 64 d Q 50 [l0, l1, some (zI x), l3] (zI x :: st) G h k := E_iload_n (by rfl) rfl
theorem e64_50 : zE 64 d Q 50 [l0, l1, l2, l3] (zI y :: zI x :: st) G h k ↔ ((x = y → zE 64 d Q 60 [l0, l1, l2, l3] st G h k) ∧ (¬ (x = y) → zE 64 d Q 53 [l0, l1, l2, l3] st G h k)) := E_icmp_eq (by rfl)
theorem e64_53 : zE 64 d Q 53 [some (.inr (.inr w9)), l1, l2, l3] st G h k ↔ zE 64 d Q 54 [some (.inr (.inr w9)), l1, l2, l3] (.inr (.inr w9) :: st) G h k := E_aload_n (by rfl) rfl
theorem e64_54 : zE 64 d Q 54 [l0, l1, l2, l3] st G h k ↔ zE 64 d Q 55 [l0, l1, l2, l3] (zI 5 :: st) G h k := E_iconst (by rfl)
theorem e64_55 : zE 64 d Q 55 [l0, l1, l2, l3] (zI x :: zR (some r) :: st) G h k ↔ (G.2.1 r = 7 ∧ zE 64 d Q 58 [l0, l1, l2, l3] st G (zu h r 11 x) k) := E_putI (by rfl) rfl
theorem e64_58 : zE 64 d Q 58 [l0, l1, l2, l3] st G h k ↔ zE 64 d Q 59 [l0, l1, l2, l3] (zI 0 :: st) G h k := E_iconst (by rfl)
theorem e64_59 : zE 64 d Q 59 [l0, l1, l2, l3] [zI x] G h k ↔ ((x = 0 ∨ x = 1) ∧ Q (some (zI x)) G h) := E_zret (by rfl) rfl
theorem e64_60 : zE 64 d Q 60 [some (.inr (.inr w9)), l1, l2, l3] st G h k ↔ zE 64 d Q 61 [some (.inr (.inr w9)), l1, l2, l3] (.inr (.inr w9) :: st) G h k := E_aload_n (by rfl) rfl
theorem e64_61 : zE 64 d Q 61 [l0, l1, l2, l3] st G h k ↔ zE 64 d Q 62 [l0, l1, l2, l3] (zI 0 :: st) G h k := E_iconst (by rfl)
theorem e64_62 : zE 64 d Q 62 [l0, l1, l2, l3] (zI x :: zR (some r) :: st) G h k ↔ (G.2.1 r = 7 ∧ zE 64 d Q 65 [l0, l1, l2, l3] st G (zu h r 11 x) k) := E_putI (by rfl) rfl
theorem e64_65 : zE 64 d Q 65 [some (.inr (.inr w9)), l1, l2, l3] st G h k ↔ zE 64 d Q 66 [some (.inr (.inr w9)), l1, l2, l3] (.inr (.inr w9) :: st) G h k := E_aload_n (by rfl) rfl
theorem e64_66 : zE 64 d Q 66 [l0, l1, l2, l3] (zR (some r) :: st) G h k ↔ (G.2.1 r = 7 ∧ zE 64 d Q 69 [l0, l1, l2, l3] (zR (G.2.2.2 r 7) :: st) G h k) := E_getR (by rfl) rfl
theorem e64_69 : zE 64 d Q 69 [l0, l1, l2, l3] (zR (some r) :: st) G h k ↔ (G.2.1 r = 0 ∧ zE 64 d Q 72 [l0, l1, l2, l3] (zR (G.2.2.2 r 2) :: st) G h k) := E_getR (by rfl) rfl
theorem e64_72 : zE 64 d Q 72 [some (.inr (.inr w9)), l1, l2, l3] st G h k ↔ zE 64 d Q 73 [some (.inr (.inr w9)), l1, l2, l3] (.inr (.inr w9) :: st) G h k := E_aload_n (by rfl) rfl
theorem e64_73 : zE 64 d Q 73 [l0, l1, l2, l3] (zR (some r) :: st) G h k ↔ (G.2.1 r = 7 ∧ zE 64 d Q 76 [l0, l1, l2, l3] (zR (G.2.2.2 r 7) :: st) G h k) := E_getR (by rfl) rfl
theorem e64_76 : zE 64 d Q 76 [l0, some (zI x), l2, l3] st G h k ↔ zE 64 d Q 77 [l0, some (zI x), l2, l3] (zI x :: st) G h k := E_iload_n (by rfl) rfl
theorem e64_77 : zE 64 d Q 77 [l0, l1, l2, l3] (v0 :: zR (some r) :: st) G h k ↔ (zsum st ≤ 8 ∧ G.2.1 r = 0 ∧ zRunD ztb zmt' d 3 [zR (some r), v0] G h (fun v G' h' => zE 64 d Q 80 [l0, l1, l2, l3] (v.toList ++ st) G' h' k)) := E_invV2z (by rfl) (by decide) rfl
theorem e64_80 : zE 64 d Q 80 [l0, l1, some (zI x), l3] st G h k ↔ zE 64 d Q 81 [l0, l1, some (zI x), l3] (zI x :: st) G h k := E_iload_n (by rfl) rfl
theorem e64_81 : zE 64 d Q 81 [l0, l1, l2, l3] (zI x :: zI i :: zR (some r) :: st) G h k ↔ (G.2.1 r = 10 ∧ (0 ≤ i ∧ i < G.2.2.1 r) ∧ zE 64 d Q 82 [l0, l1, l2, l3] st G (zu h r i.toNat x) k) := E_iastore (by rfl)
theorem e64_82 : zE 64 d Q 82 [some (.inr (.inr w9)), l1, l2, l3] st G h k ↔ zE 64 d Q 83 [some (.inr (.inr w9)), l1, l2, l3] (.inr (.inr w9) :: st) G h k := E_aload_n (by rfl) rfl
theorem e64_83 : zE 64 d Q 83 [l0, l1, l2, l3] (zR (some r) :: st) G h k ↔ (G.2.1 r = 7 ∧ zE 64 d Q 86 [l0, l1, l2, l3] (zR (G.2.2.2 r 7) :: st) G h k) := E_getR (by rfl) rfl
theorem e64_86 : zE 64 d Q 86 [l0, l1, l2, l3] (zR (some r) :: st) G h k ↔ (G.2.1 r = 0 ∧ zE 64 d Q 89 [l0, l1, l2, l3] (zR (G.2.2.2 r 3) :: st) G h k) := E_getR (by rfl) rfl
theorem e64_89 : zE 64 d Q 89 [some (.inr (.inr w9)), l1, l2, l3] st G h k ↔ zE 64 d Q 90 [some (.inr (.inr w9)), l1, l2, l3] (.inr (.inr w9) :: st) G h k := E_aload_n (by rfl) rfl
theorem e64_90 : zE 64 d Q 90 [l0, l1, l2, l3] (zR (some r) :: st) G h k ↔ (G.2.1 r = 7 ∧ zE 64 d Q 93 [l0, l1, l2, l3] (zR (G.2.2.2 r 7) :: st) G h k) := E_getR (by rfl) rfl
theorem e64_93 : zE 64 d Q 93 [l0, some (zI x), l2, l3] st G h k ↔ zE 64 d Q 94 [l0, some (zI x), l2, l3] (zI x :: st) G h k := E_iload_n (by rfl) rfl
theorem e64_94 : zE 64 d Q 94 [l0, l1, l2, l3] (v0 :: zR (some r) :: st) G h k ↔ (zsum st ≤ 8 ∧ G.2.1 r = 0 ∧ zRunD ztb zmt' d 3 [zR (some r), v0] G h (fun v G' h' => zE 64 d Q 97 [l0, l1, l2, l3] (v.toList ++ st) G' h' k)) := E_invV2z (by rfl) (by decide) rfl
theorem e64_97 : zE 64 d Q 97 [l0, l1, l2, some (zI x)] st G h k ↔ zE 64 d Q 98 [l0, l1, l2, some (zI x)] (zI x :: st) G h k := E_iload_n (by rfl) rfl
theorem e64_98 : zE 64 d Q 98 [l0, l1, l2, l3] (zI x :: zI i :: zR (some r) :: st) G h k ↔ (G.2.1 r = 10 ∧ (0 ≤ i ∧ i < G.2.2.1 r) ∧ zE 64 d Q 99 [l0, l1, l2, l3] st G (zu h r i.toNat x) k) := E_iastore (by rfl)
theorem e64_99 : zE 64 d Q 99 [l0, l1, l2, l3] st G h k ↔ zE 64 d Q 100 [l0, l1, l2, l3] (zI 1 :: st) G h k := E_iconst (by rfl)
theorem e64_100 : zE 64 d Q 100 [l0, l1, l2, l3] [zI x] G h k ↔ ((x = 0 ∨ x = 1) ∧ Q (some (zI x)) G h) := E_zret (by rfl) rfl
theorem e65_0 : zE 65 d Q 0 [some (.inr (.inr w9)), l1, l2, l3] st G h k ↔ zE 65 d Q 1 [some (.inr (.inr w9)), l1, l2, l3] (.inr (.inr w9) :: st) G h k := E_aload_n (by rfl) rfl
theorem e65_1 : zE 65 d Q 1 [l0, some (zI x), l2, l3] st G h k ↔ zE 65 d Q 2 [l0, some (zI x), l2, l3] (zI x :: st) G h k := E_iload_n (by rfl) rfl
theorem e65_2 : zE 65 d Q 2 [l0, l1, some (zI x), l3] st G h k ↔ zE 65 d Q 3 [l0, l1, some (zI x), l3] (zI x :: st) G h k := E_iload_n (by rfl) rfl
theorem e65_3 : zE 65 d Q 3 [l0, l1, l2, l3] (v1 :: v0 :: zR (some r) :: st) G h k ↔ (zsum st ≤ 8 ∧ G.2.1 r = 7 ∧ zRunD ztb zmt' d 102 [zR (some r), v0, v1] G h (fun v G' h' => zE 65 d Q 6 [l0, l1, l2, l3] (v.toList ++ st) G' h' k)) := E_invV2z (by rfl) (by decide) rfl
theorem e65_6 : zE 65 d Q 6 [l0, l1, l2, l3] (zI x :: st) G h k ↔ ((¬ x = 0 → zE 65 d Q 16 [l0, l1, l2, l3] st G h k) ∧ (¬ (¬ x = 0) → zE 65 d Q 9 [l0, l1, l2, l3] st G h k)) := E_if_ne (by rfl)
theorem e65_9 : zE 65 d Q 9 [some (.inr (.inr w9)), l1, l2, l3] st G h k ↔ zE 65 d Q 10 [some (.inr (.inr w9)), l1, l2, l3] (.inr (.inr w9) :: st) G h k := E_aload_n (by rfl) rfl
theorem e65_10 : zE 65 d Q 10 [l0, l1, l2, l3] st G h k ↔ zE 65 d Q 11 [l0, l1, l2, l3] (zI 1 :: st) G h k := E_iconst (by rfl)
theorem e65_11 : zE 65 d Q 11 [l0, l1, l2, l3] (zI x :: zR (some r) :: st) G h k ↔ (G.2.1 r = 7 ∧ zE 65 d Q 14 [l0, l1, l2, l3] st G (zu h r 11 x) k) := E_putI (by rfl) rfl
theorem e65_14 : zE 65 d Q 14 [l0, l1, l2, l3] st G h k ↔ zE 65 d Q 15 [l0, l1, l2, l3] (zI (-1) :: st) G h k := E_iconst (by rfl)
theorem e65_15 : zE 65 d Q 15 [l0, l1, l2, l3] [zI x] G h k ↔ Q (some (zI x)) G h := E_iret (by rfl) rfl
theorem e65_16 : zE 65 d Q 16 [some (.inr (.inr w9)), l1, l2, l3] st G h k ↔ zE 65 d Q 17 [some (.inr (.inr w9)), l1, l2, l3] (.inr (.inr w9) :: st) G h k := E_aload_n (by rfl) rfl
theorem e65_17 : zE 65 d Q 17 [l0, l1, l2, l3] st G h k ↔ zE 65 d Q 18 [l0, l1, l2, l3] (zI 0 :: st) G h k := E_iconst (by rfl)
theorem e65_18 : zE 65 d Q 18 [l0, l1, l2, l3] (zI x :: zR (some r) :: st) G h k ↔ (G.2.1 r = 7 ∧ zE 65 d Q 21 [l0, l1, l2, l3] st G (zu h r 11 x) k) := E_putI (by rfl) rfl
theorem e65_21 : zE 65 d Q 21 [some (.inr (.inr w9)), l1, l2, l3] st G h k ↔ zE 65 d Q 22 [some (.inr (.inr w9)), l1, l2, l3] (.inr (.inr w9) :: st) G h k := E_aload_n (by rfl) rfl
theorem e65_22 : zE 65 d Q 22 [l0, l1, l2, l3] (zR (some r) :: st) G h k ↔ (zsum st ≤ 8 ∧ G.2.1 r = 7 ∧ zRunD ztb zmt' d 106 [zR (some r)] G h (fun v G' h' => zE 65 d Q 25 [l0, l1, l2, l3] (v.toList ++ st) G' h' k)) := E_invV2z (by rfl) (by decide) rfl
theorem e65_25 : zE 65 d Q 25 [some (.inr (.inr w9)), l1, l2, l3] st G h k ↔ zE 65 d Q 26 [some (.inr (.inr w9)), l1, l2, l3] (.inr (.inr w9) :: st) G h k := E_aload_n (by rfl) rfl
theorem e65_26 : zE 65 d Q 26 [l0, l1, l2, l3] (zR (some r) :: st) G h k ↔ (G.2.1 r = 7 ∧ zE 65 d Q 29 [l0, l1, l2, l3] (zR (G.2.2.2 r 5) :: st) G h k) := E_getR (by rfl) rfl
theorem e65_29 : zE 65 d Q 29 [l0, l1, some (zI x), l3] st G h k ↔ zE 65 d Q 30 [l0, l1, some (zI x), l3] (zI x :: st) G h k := E_iload_n (by rfl) rfl
theorem e65_30 : zE 65 d Q 30 [l0, l1, l2, l3] (v0 :: zR (some r) :: st) G h k ↔ (zsum st ≤ 8 ∧ G.2.1 r = 1 ∧ zRunD ztb zmt' d 7 [zR (some r), v0] G h (fun v G' h' => zE 65 d Q 33 [l0, l1, l2, l3] (v.toList ++ st) G' h' k)) := E_invV2z (by rfl) (by decide) rfl
theorem e65_33 : zE 65 d Q 33 [some (.inr (.inr w9)), l1, l2, l3] st G h k ↔ zE 65 d Q 34 [some (.inr (.inr w9)), l1, l2, l3] (.inr (.inr w9) :: st) G h k := E_aload_n (by rfl) rfl
theorem e65_34 : zE 65 d Q 34 [l0, l1, l2, l3] (zR (some r) :: st) G h k ↔ (G.2.1 r = 7 ∧ zE 65 d Q 37 [l0, l1, l2, l3] (zR (G.2.2.2 r 5) :: st) G h k) := E_getR (by rfl) rfl
theorem e65_37 : zE 65 d Q 37 [some (.inr (.inr w9)), l1, l2, l3] st G h k ↔ zE 65 d Q 38 [some (.inr (.inr w9)), l1, l2, l3] (.inr (.inr w9) :: st) G h k := E_aload_n (by rfl) rfl
theorem e65_38 : zE 65 d Q 38 [l0, some (zI x), l2, l3] st G h k ↔ zE 65 d Q 39 [l0, some (zI x), l2, l3] (zI x :: st) G h k := E_iload_n (by rfl) rfl
theorem e65_39 : zE 65 d Q 39 [l0, l1, l2, l3] (v0 :: zR (some r) :: st) G h k ↔ (zsum st ≤ 8 ∧ G.2.1 r = 7 ∧ zRunD ztb zmt' d 103 [zR (some r), v0] G h (fun v G' h' => zE 65 d Q 42 [l0, l1, l2, l3] (v.toList ++ st) G' h' k)) := E_invV2z (by rfl) (by decide) rfl
theorem e65_42 : zE 65 d Q 42 [some (.inr (.inr w9)), l1, l2, l3] st G h k ↔ zE 65 d Q 43 [some (.inr (.inr w9)), l1, l2, l3] (.inr (.inr w9) :: st) G h k := E_aload_n (by rfl) rfl
theorem e65_43 : zE 65 d Q 43 [l0, l1, l2, l3] (zR (some r) :: st) G h k ↔ (G.2.1 r = 7 ∧ zE 65 d Q 46 [l0, l1, l2, l3] (zR (G.2.2.2 r 6) :: st) G h k) := E_getR (by rfl) rfl
theorem e65_46 : zE 65 d Q 46 [l0, l1, l2, l3] (zR (some r) :: st) G h k ↔ (G.2.1 r = 5 ∧ zE 65 d Q 49 [l0, l1, l2, l3] (zR (G.2.2.2 r 7) :: st) G h k) := E_getR (by rfl) rfl
theorem e65_49 : zE 65 d Q 49 [l0, l1, some (zI x), l3] st G h k ↔ zE 65 d Q 50 [l0, l1, some (zI x), l3] (zI x :: st) G h k := E_iload_n (by rfl) rfl
theorem e65_50 : zE 65 d Q 50 [l0, l1, l2, l3] (zI i :: zR (some r) :: st) G h k ↔ (G.2.1 r = 10 ∧ (0 ≤ i ∧ i < G.2.2.1 r) ∧ zE 65 d Q 51 [l0, l1, l2, l3] (zI (h r i.toNat) :: st) G h k) := E_iaload (by rfl)
theorem e65_51 : zE 65 d Q 51 [l0, l1, l2, l3] st G h k ↔ zE 65 d Q 52 [l0, l1, l2, l3] (zI 1 :: st) G h k := E_iconst (by rfl)
theorem e65_52 : zE 65 d Q 52 [l0, l1, l2, l3] (zI y :: zI x :: st) G h k ↔ ((¬ x = y → zE 65 d Q 59 [l0, l1, l2, l3] st G h k) ∧ (¬ (¬ x = y) → zE 65 d Q 55 [l0, l1, l2, l3] st G h k)) := E_icmp_ne (by rfl)
theorem e65_55 : zE 65 d Q 55 [l0, l1, l2, l3] st G h k ↔ zE 65 d Q 56 [l0, l1, l2, l3] (zI 1 :: st) G h k := E_iconst (by rfl)
theorem e65_56 : zE 65 d Q 56 [l0, l1, l2, l3] st G h k ↔ zE 65 d Q 60 [l0, l1, l2, l3] st G h k := E_goto (by rfl)
theorem e65_59 : zE 65 d Q 59 [l0, l1, l2, l3] st G h k ↔ zE 65 d Q 60 [l0, l1, l2, l3] (zI 0 :: st) G h k := E_iconst (by rfl)
theorem e65_60 : zE 65 d Q 60 [l0, l1, l2, l3] (v1 :: v0 :: zR (some r) :: st) G h k ↔ (zsum st ≤ 8 ∧ G.2.1 r = 1 ∧ zRunD ztb zmt' d 10 [zR (some r), v0, v1] G h (fun v G' h' => zE 65 d Q 63 [l0, l1, l2, l3] (v.toList ++ st) G' h' k)) := E_invV2z (by rfl) (by decide) rfl
theorem e65_63 : zE 65 d Q 63 [l0, l1, l2, l3] (zI x :: st) G h k ↔ zE 65 d Q 64 [l0, l1, (zclr l2), some (zI x)] st G h k := E_istore_n (by rfl) (by decide)
theorem e65_64 : zE 65 d Q 64 [l0, l1, l2, some (zI x)] st G h k ↔ zE 65 d Q 65 [l0, l1, l2, some (zI x)] (zI x :: st) G h k := E_iload_n (by rfl) rfl
theorem e65_65 : zE 65 d Q 65 [l0, l1, l2, l3] st G h k ↔ zE 65 d Q 66 [l0, l1, l2, l3] (zI 3 :: st) G h k := E_iconst (by rfl)
theorem e65_66 : zE 65 d Q 66 [l0, l1, l2, l3] (zI y :: zI x :: st) G h k ↔ ((¬ x = y → zE 65 d Q 74 [l0, l1, l2, l3] st G h k) ∧ (¬ (¬ x = y) → zE 65 d Q 69 [l0, l1, l2, l3] st G h k)) := E_icmp_ne (by rfl)
theorem e65_69 : zE 65 d Q 69 [l0, l1, l2, l3] st G h k ↔ zE 65 d Q 71 [l0, l1, l2, l3] (zI (-2) :: st) G h k := E_bipush (by rfl)
theorem e65_71 : zE 65 d Q 71 [l0, l1, l2, l3] st G h k ↔ zE 65 d Q 75 [l0, l1, l2, l3] st G h k := E_goto (by rfl)
theorem e65_74 : zE 65 d Q 74 [l0, l1, l2, some (zI x)] st G h k ↔ zE 65 d Q 75 [l0, l1, l2, some (zI x)] (zI x :: st) G h k := E_iload_n (by rfl) rfl
theorem e65_75 : zE 65 d Q 75 [l0, l1, l2, l3] [zI x] G h k ↔ Q (some (zI x)) G h := E_iret (by rfl) rfl
theorem e66_0 : zE 66 d Q 0 [some (.inr (.inr w9)), l1, l2, l3] st G h k ↔ zE 66 d Q 1 [some (.inr (.inr w9)), l1, l2, l3] (.inr (.inr w9) :: st) G h k := E_aload_n (by rfl) rfl
theorem e66_1 : zE 66 d Q 1 [l0, some (zI x), l2, l3] st G h k ↔ zE 66 d Q 2 [l0, some (zI x), l2, l3] (zI x :: st) G h k := E_iload_n (by rfl) rfl
theorem e66_2 : zE 66 d Q 2 [l0, l1, some (zI x), l3] st G h k ↔ zE 66 d Q 3 [l0, l1, some (zI x), l3] (zI x :: st) G h k := E_iload_n (by rfl) rfl
theorem e66_3 : zE 66 d Q 3 [l0, l1, l2, l3] (v1 :: v0 :: zR (some r) :: st) G h k ↔ (zsum st ≤ 8 ∧ G.2.1 r = 7 ∧ zRunD ztb zmt' d 102 [zR (some r), v0, v1] G h (fun v G' h' => zE 66 d Q 6 [l0, l1, l2, l3] (v.toList ++ st) G' h' k)) := E_invV2z (by rfl) (by decide) rfl
theorem e66_6 : zE 66 d Q 6 [l0, l1, l2, l3] (zI x :: st) G h k ↔ ((x = 0 → zE 66 d Q 23 [l0, l1, l2, l3] st G h k) ∧ (¬ (x = 0) → zE 66 d Q 9 [l0, l1, l2, l3] st G h k)) := E_if_eq (by rfl)
theorem e66_9 : zE 66 d Q 9 [l0, l1, l2, some (zI x)] st G h k ↔ zE 66 d Q 10 [l0, l1, l2, some (zI x)] (zI x :: st) G h k := E_iload_n (by rfl) rfl
theorem e66_10 : zE 66 d Q 10 [l0, l1, l2, l3] st G h k ↔ zE 66 d Q 12 [l0, l1, l2, l3] (zI (-2) :: st) G h k := E_bipush (by rfl)
theorem e66_12 : zE 66 d Q 12 [l0, l1, l2, l3] (zI y :: zI x :: st) G h k ↔ ((x = y → zE 66 d Q 31 [l0, l1, l2, l3] st G h k) ∧ (¬ (x = y) → zE 66 d Q 15 [l0, l1, l2, l3] st G h k)) := E_icmp_eq (by rfl)
theorem e66_15 : zE 66 d Q 15 [some (.inr (.inr w9)), l1, l2, l3] st G h k ↔ zE 66 d Q 16 [some (.inr (.inr w9)), l1, l2, l3] (.inr (.inr w9) :: st) G h k := E_aload_n (by rfl) rfl
theorem e66_16 : zE 66 d Q 16 [l0, l1, l2, some (zI x)] st G h k ↔ zE 66 d Q 17 [l0, l1, l2, some (zI x)] (zI x :: st) G h k := E_iload_n (by rfl) rfl
theorem e66_17 : zE 66 d Q 17 [l0, l1, l2, l3] (v0 :: zR (some r) :: st) G h k ↔ (zsum st ≤ 8 ∧ G.2.1 r = 7 ∧ zRunD ztb zmt' d 98 [zR (some r), v0] G h (fun v G' h' => zE 66 d Q 20 [l0, l1, l2, l3] (v.toList ++ st) G' h' k)) := E_invV2z (by rfl) (by decide) rfl
theorem e66_20 : zE 66 d Q 20 [l0, l1, l2, l3] (zI x :: st) G h k ↔ ((¬ x = 0 → zE 66 d Q 31 [l0, l1, l2, l3] st G h k) ∧ (¬ (¬ x = 0) → zE 66 d Q 23 [l0, l1, l2, l3] st G h k)) := E_if_ne (by rfl)
theorem e66_23 : zE 66 d Q 23 [some (.inr (.inr w9)), l1, l2, l3] st G h k ↔ zE 66 d Q 24 [some (.inr (.inr w9)), l1, l2, l3] (.inr (.inr w9) :: st) G h k := E_aload_n (by rfl) rfl
theorem e66_24 : zE 66 d Q 24 [l0, l1, l2, l3] st G h k ↔ zE 66 d Q 25 [l0, l1, l2, l3] (zI 1 :: st) G h k := E_iconst (by rfl)
theorem e66_25 : zE 66 d Q 25 [l0, l1, l2, l3] (zI x :: zR (some r) :: st) G h k ↔ (G.2.1 r = 7 ∧ zE 66 d Q 28 [l0, l1, l2, l3] st G (zu h r 11 x) k) := E_putI (by rfl) rfl
theorem e66_28 : zE 66 d Q 28 [l0, l1, l2, l3] st G h k ↔ zE 66 d Q 30 [l0, l1, l2, l3] (zI (-2147483648) :: st) G h k := E_ldcI (by rfl) rfl
theorem e66_30 : zE 66 d Q 30 [l0, l1, l2, l3] [zI x] G h k ↔ Q (some (zI x)) G h := E_iret (by rfl) rfl
theorem e66_31 : zE 66 d Q 31 [some (.inr (.inr w9)), l1, l2, l3] st G h k ↔ zE 66 d Q 32 [some (.inr (.inr w9)), l1, l2, l3] (.inr (.inr w9) :: st) G h k := E_aload_n (by rfl) rfl
theorem e66_32 : zE 66 d Q 32 [l0, l1, l2, l3] st G h k ↔ zE 66 d Q 33 [l0, l1, l2, l3] (zI 0 :: st) G h k := E_iconst (by rfl)
theorem e66_33 : zE 66 d Q 33 [l0, l1, l2, l3] (zI x :: zR (some r) :: st) G h k ↔ (G.2.1 r = 7 ∧ zE 66 d Q 36 [l0, l1, l2, l3] st G (zu h r 11 x) k) := E_putI (by rfl) rfl
theorem e66_36 : zE 66 d Q 36 [some (.inr (.inr w9)), l1, l2, l3] st G h k ↔ zE 66 d Q 37 [some (.inr (.inr w9)), l1, l2, l3] (.inr (.inr w9) :: st) G h k := E_aload_n (by rfl) rfl
theorem e66_37 : zE 66 d Q 37 [l0, l1, l2, l3] (zR (some r) :: st) G h k ↔ (zsum st ≤ 8 ∧ G.2.1 r = 7 ∧ zRunD ztb zmt' d 106 [zR (some r)] G h (fun v G' h' => zE 66 d Q 40 [l0, l1, l2, l3] (v.toList ++ st) G' h' k)) := E_invV2z (by rfl) (by decide) rfl
theorem e66_40 : zE 66 d Q 40 [some (.inr (.inr w9)), l1, l2, l3] st G h k ↔ zE 66 d Q 41 [some (.inr (.inr w9)), l1, l2, l3] (.inr (.inr w9) :: st) G h k := E_aload_n (by rfl) rfl
theorem e66_41 : zE 66 d Q 41 [l0, l1, l2, l3] (zR (some r) :: st) G h k ↔ (G.2.1 r = 7 ∧ zE 66 d Q 44 [l0, l1, l2, l3] (zR (G.2.2.2 r 5) :: st) G h k) := E_getR (by rfl) rfl
theorem e66_44 : zE 66 d Q 44 [l0, l1, some (zI x), l3] st G h k ↔ zE 66 d Q 45 [l0, l1, some (zI x), l3] (zI x :: st) G h k := E_iload_n (by rfl) rfl
theorem e66_45 : zE 66 d Q 45 [l0, l1, l2, l3] (v0 :: zR (some r) :: st) G h k ↔ (zsum st ≤ 8 ∧ G.2.1 r = 1 ∧ zRunD ztb zmt' d 7 [zR (some r), v0] G h (fun v G' h' => zE 66 d Q 48 [l0, l1, l2, l3] (v.toList ++ st) G' h' k)) := E_invV2z (by rfl) (by decide) rfl
theorem e66_48 : zE 66 d Q 48 [some (.inr (.inr w9)), l1, l2, l3] st G h k ↔ zE 66 d Q 49 [some (.inr (.inr w9)), l1, l2, l3] (.inr (.inr w9) :: st) G h k := E_aload_n (by rfl) rfl
theorem e66_49 : zE 66 d Q 49 [l0, l1, l2, l3] (zR (some r) :: st) G h k ↔ (G.2.1 r = 7 ∧ zE 66 d Q 52 [l0, l1, l2, l3] (zR (G.2.2.2 r 5) :: st) G h k) := E_getR (by rfl) rfl
theorem e66_52 : zE 66 d Q 52 [some (.inr (.inr w9)), l1, l2, l3] st G h k ↔ zE 66 d Q 53 [some (.inr (.inr w9)), l1, l2, l3] (.inr (.inr w9) :: st) G h k := E_aload_n (by rfl) rfl
theorem e66_53 : zE 66 d Q 53 [l0, some (zI x), l2, l3] st G h k ↔ zE 66 d Q 54 [l0, some (zI x), l2, l3] (zI x :: st) G h k := E_iload_n (by rfl) rfl
theorem e66_54 : zE 66 d Q 54 [l0, l1, l2, l3] (v0 :: zR (some r) :: st) G h k ↔ (zsum st ≤ 8 ∧ G.2.1 r = 7 ∧ zRunD ztb zmt' d 103 [zR (some r), v0] G h (fun v G' h' => zE 66 d Q 57 [l0, l1, l2, l3] (v.toList ++ st) G' h' k)) := E_invV2z (by rfl) (by decide) rfl
theorem e66_57 : zE 66 d Q 57 [l0, l1, l2, some (zI x)] st G h k ↔ zE 66 d Q 58 [l0, l1, l2, some (zI x)] (zI x :: st) G h k := E_iload_n (by rfl) rfl
theorem e66_58 : zE 66 d Q 58 [l0, l1, l2, l3] st G h k ↔ zE 66 d Q 60 [l0, l1, l2, l3] (zI (-2) :: st) G h k := E_bipush (by rfl)
theorem e66_60 : zE 66 d Q 60 [l0, l1, l2, l3] (zI y :: zI x :: st) G h k ↔ ((¬ x = y → zE 66 d Q 67 [l0, l1, l2, l3] st G h k) ∧ (¬ (¬ x = y) → zE 66 d Q 63 [l0, l1, l2, l3] st G h k)) := E_icmp_ne (by rfl)
theorem e66_63 : zE 66 d Q 63 [l0, l1, l2, l3] st G h k ↔ zE 66 d Q 64 [l0, l1, l2, l3] (zI 3 :: st) G h k := E_iconst (by rfl)
theorem e66_64 : zE 66 d Q 64 [l0, l1, l2, l3] st G h k ↔ zE 66 d Q 68 [l0, l1, l2, l3] st G h k := E_goto (by rfl)
theorem e66_67 : zE 66 d Q 67 [l0, l1, l2, some (zI x)] st G h k ↔ zE 66 d Q 68 [l0, l1, l2, some (zI x)] (zI x :: st) G h k := E_iload_n (by rfl) rfl
theorem e66_68 : zE 66 d Q 68 [some (.inr (.inr w9)), l1, l2, l3] st G h k ↔ zE 66 d Q 69 [some (.inr (.inr w9)), l1, l2, l3] (.inr (.inr w9) :: st) G h k := E_aload_n (by rfl) rfl
theorem e66_69 : zE 66 d Q 69 [l0, l1, l2, l3] (zR (some r) :: st) G h k ↔ (G.2.1 r = 7 ∧ zE 66 d Q 72 [l0, l1, l2, l3] (zR (G.2.2.2 r 6) :: st) G h k) := E_getR (by rfl) rfl
theorem e66_72 : zE 66 d Q 72 [l0, l1, l2, l3] (zR (some r) :: st) G h k ↔ (G.2.1 r = 5 ∧ zE 66 d Q 75 [l0, l1, l2, l3] (zR (G.2.2.2 r 7) :: st) G h k) := E_getR (by rfl) rfl
theorem e66_75 : zE 66 d Q 75 [l0, l1, some (zI x), l3] st G h k ↔ zE 66 d Q 76 [l0, l1, some (zI x), l3] (zI x :: st) G h k := E_iload_n (by rfl) rfl
theorem e66_76 : zE 66 d Q 76 [l0, l1, l2, l3] (zI i :: zR (some r) :: st) G h k ↔ (G.2.1 r = 10 ∧ (0 ≤ i ∧ i < G.2.2.1 r) ∧ zE 66 d Q 77 [l0, l1, l2, l3] (zI (h r i.toNat) :: st) G h k) := E_iaload (by rfl)
theorem e66_77 : zE 66 d Q 77 [l0, l1, l2, l3] st G h k ↔ zE 66 d Q 78 [l0, l1, l2, l3] (zI 1 :: st) G h k := E_iconst (by rfl)
theorem e66_78 : zE 66 d Q 78 [l0, l1, l2, l3] (zI y :: zI x :: st) G h k ↔ ((¬ x = y → zE 66 d Q 85 [l0, l1, l2, l3] st G h k) ∧ (¬ (¬ x = y) → zE 66 d Q 81 [l0, l1, l2, l3] st G h k)) := E_icmp_ne (by rfl)
theorem e66_81 : zE 66 d Q 81 [l0, l1, l2, l3] st G h k ↔ zE 66 d Q 82 [l0, l1, l2, l3] (zI 1 :: st) G h k := E_iconst (by rfl)
theorem e66_82 : zE 66 d Q 82 [l0, l1, l2, l3] st G h k ↔ zE 66 d Q 86 [l0, l1, l2, l3] st G h k := E_goto (by rfl)
theorem e66_85 : zE 66 d Q 85 [l0, l1, l2, l3] st G h k ↔ zE 66 d Q 86 [l0, l1, l2, l3] (zI 0 :: st) G h k := E_iconst (by rfl)
theorem e66_86 : zE 66 d Q 86 [l0, l1, l2, l3] (v2 :: v1 :: v0 :: zR (some r) :: st) G h k ↔ (zsum st ≤ 8 ∧ G.2.1 r = 1 ∧ zRunD ztb zmt' d 9 [zR (some r), v0, v1, v2] G h (fun v G' h' => zE 66 d Q 89 [l0, l1, l2, l3] (v.toList ++ st) G' h' k)) := E_invV2z (by rfl) (by decide) rfl
theorem e66_89 : zE 66 d Q 89 [l0, l1, l2, l3] [zI x] G h k ↔ Q (some (zI x)) G h := E_iret (by rfl) rfl
end SITES
