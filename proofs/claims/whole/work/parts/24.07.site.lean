section SITES
variable {d : Nat} {Q : zQ} {st : List zV} {G : zG} {h : zM} {k : zK} {x y i : Int} {r r1 r2 q : Nat} {w9 : Option Nat ⊕ Nat} {q9 : Option Nat} {v0 v1 v2 v3 v4 : zV} {l0 l1 l2 l3 l4 l5 l6 l7 l8 l9 l10 l11 l12 l13 l14 l15 : Option zV}
theorem e180_0 : zE 180 d Q 0 [l0, l1, l2, l3, l4, l5, l6] st G h k ↔ zE 180 d Q 1 [l0, l1, l2, l3, l4, l5, l6] (zI 0 :: st) G h k := E_iconst (by rfl)
theorem e180_1 : zE 180 d Q 1 [l0, l1, l2, l3, l4, l5, l6] (zI x :: st) G h k ↔ zE 180 d Q 3 [l0, l1, l2, (zclr l3), some (zI x), l5, l6] st G h k := E_istore (by rfl) (by decide)
theorem e180_3 : zE 180 d Q 3 [l0, l1, l2, l3, some (zI x), l5, l6] st G h k ↔ zE 180 d Q 5 [l0, l1, l2, l3, some (zI x), l5, l6] (zI x :: st) G h k := E_iload (by rfl) rfl
theorem e180_5 : zE 180 d Q 5 [some (.inr (.inr w9)), l1, l2, l3, l4, l5, l6] st G h k ↔ zE 180 d Q 6 [some (.inr (.inr w9)), l1, l2, l3, l4, l5, l6] (.inr (.inr w9) :: st) G h k := E_aload_n (by rfl) rfl
theorem e180_6 : zE 180 d Q 6 [l0, l1, l2, l3, l4, l5, l6] (zR (some r) :: st) G h k ↔ (G.2.1 r = 9 ∧ zE 180 d Q 9 [l0, l1, l2, l3, l4, l5, l6] (zR (G.2.2.2 r 3) :: st) G h k) := E_getR (by rfl) rfl
theorem e180_9 : zE 180 d Q 9 [l0, l1, l2, l3, l4, l5, l6] (zR (some r) :: st) G h k ↔ (G.2.1 r = 8 ∧ zE 180 d Q 12 [l0, l1, l2, l3, l4, l5, l6] (zI (h r 0) :: st) G h k) := E_getI (by rfl) (by decide)
theorem e180_12 : zE 180 d Q 12 [l0, l1, l2, l3, l4, l5, l6] (zI y :: zI x :: st) G h k ↔ ((y ≤ x → zE 180 d Q 103 [l0, l1, l2, l3, l4, l5, l6] st G h k) ∧ (¬ (y ≤ x) → zE 180 d Q 15 [l0, l1, l2, l3, l4, l5, l6] st G h k)) := E_icmp_ge (by rfl)
theorem e180_15 : zE 180 d Q 15 [l0, l1, l2, some (zI x), l4, l5, l6] st G h k ↔ zE 180 d Q 16 [l0, l1, l2, some (zI x), l4, l5, l6] (zI x :: st) G h k := E_iload_n (by rfl) rfl
theorem e180_16 : zE 180 d Q 16 [l0, l1, l2, l3, l4, l5, l6] st G h k ↔ zE 180 d Q 17 [l0, l1, l2, l3, l4, l5, l6] (zI (-1) :: st) G h k := E_iconst (by rfl)
theorem e180_17 : zE 180 d Q 17 [l0, l1, l2, l3, l4, l5, l6] (zI y :: zI x :: st) G h k ↔ ((¬ x = y → zE 180 d Q 24 [l0, l1, l2, l3, l4, l5, l6] st G h k) ∧ (¬ (¬ x = y) → zE 180 d Q 20 [l0, l1, l2, l3, l4, l5, l6] st G h k)) := E_icmp_ne (by rfl)
theorem e180_20 : zE 180 d Q 20 [l0, l1, l2, l3, l4, l5, l6] st G h k ↔ zE 180 d Q 21 [l0, l1, l2, l3, l4, l5, l6] (zL 0 :: st) G h k := E_lconst (by rfl)
theorem e180_21 : zE 180 d Q 21 [l0, l1, l2, l3, l4, l5, l6] st G h k ↔ zE 180 d Q 47 [l0, l1, l2, l3, l4, l5, l6] st G h k := E_goto (by rfl)
theorem e180_24 : zE 180 d Q 24 [some (.inr (.inr w9)), l1, l2, l3, l4, l5, l6] st G h k ↔ zE 180 d Q 25 [some (.inr (.inr w9)), l1, l2, l3, l4, l5, l6] (.inr (.inr w9) :: st) G h k := E_aload_n (by rfl) rfl
theorem e180_25 : zE 180 d Q 25 [l0, l1, l2, l3, l4, l5, l6] (zR (some r) :: st) G h k ↔ (G.2.1 r = 9 ∧ zE 180 d Q 28 [l0, l1, l2, l3, l4, l5, l6] (zR (G.2.2.2 r 3) :: st) G h k) := E_getR (by rfl) rfl
theorem e180_28 : zE 180 d Q 28 [l0, l1, l2, l3, l4, l5, l6] (zR (some r) :: st) G h k ↔ (G.2.1 r = 8 ∧ zE 180 d Q 31 [l0, l1, l2, l3, l4, l5, l6] (zI (h r 3) :: st) G h k) := E_getI (by rfl) (by decide)
theorem e180_31 : zE 180 d Q 31 [l0, l1, l2, l3, l4, l5, l6] (zI x :: st) G h k ↔ zE 180 d Q 32 [l0, l1, l2, l3, l4, l5, l6] (zL x :: st) G h k := E_i2l (by rfl)
theorem e180_32 : zE 180 d Q 32 [some (.inr (.inr w9)), l1, l2, l3, l4, l5, l6] st G h k ↔ zE 180 d Q 33 [some (.inr (.inr w9)), l1, l2, l3, l4, l5, l6] (.inr (.inr w9) :: st) G h k := E_aload_n (by rfl) rfl
theorem e180_33 : zE 180 d Q 33 [l0, l1, l2, l3, l4, l5, l6] (zR (some r) :: st) G h k ↔ (G.2.1 r = 9 ∧ zE 180 d Q 36 [l0, l1, l2, l3, l4, l5, l6] (zR (G.2.2.2 r 42) :: st) G h k) := E_getR (by rfl) rfl
theorem e180_36 : zE 180 d Q 36 [l0, some (zI x), l2, l3, l4, l5, l6] st G h k ↔ zE 180 d Q 37 [l0, some (zI x), l2, l3, l4, l5, l6] (zI x :: st) G h k := E_iload_n (by rfl) rfl
theorem e180_37 : zE 180 d Q 37 [l0, l1, l2, l3, l4, l5, l6] st G h k ↔ zE 180 d Q 38 [l0, l1, l2, l3, l4, l5, l6] (zI 1 :: st) G h k := E_iconst (by rfl)
theorem e180_38 : zE 180 d Q 38 [l0, l1, l2, l3, l4, l5, l6] (zI y :: zI x :: st) G h k ↔ zE 180 d Q 39 [l0, l1, l2, l3, l4, l5, l6] (zI (wr (x - y)) :: st) G h k := E_isub (by rfl)
theorem e180_39 : zE 180 d Q 39 [l0, l1, l2, some (zI x), l4, l5, l6] st G h k ↔ zE 180 d Q 40 [l0, l1, l2, some (zI x), l4, l5, l6] (zI x :: st) G h k := E_iload_n (by rfl) rfl
theorem e180_40 : zE 180 d Q 40 [l0, l1, l2, l3, some (zI x), l5, l6] st G h k ↔ zE 180 d Q 42 [l0, l1, l2, l3, some (zI x), l5, l6] (zI x :: st) G h k := E_iload (by rfl) rfl
theorem e180_42 : zE 180 d Q 42 [l0, l1, l2, l3, l4, l5, l6] (v2 :: v1 :: v0 :: st) G h k ↔ (zsum st ≤ 8 ∧ zRunD ztb zmt' d 177 [v0, v1, v2] G h (fun v G' h' => zE 180 d Q 45 [l0, l1, l2, l3, l4, l5, l6] (v.toList ++ st) G' h' k)) := E_invS2z (by rfl) (by decide) rfl
theorem e180_45 : zE 180 d Q 45 [l0, l1, l2, l3, l4, l5, l6] (zI i :: zR (some r) :: st) G h k ↔ (G.2.1 r = 11 ∧ (0 ≤ i ∧ i < G.2.2.1 r) ∧ zE 180 d Q 46 [l0, l1, l2, l3, l4, l5, l6] (zL (h r i.toNat) :: st) G h k) := E_laload (by rfl)
theorem e180_46 : zE 180 d Q 46 [l0, l1, l2, l3, l4, l5, l6] (zL y :: zL x :: st) G h k ↔ zE 180 d Q 47 [l0, l1, l2, l3, l4, l5, l6] (zL (wl (x * y)) :: st) G h k := E_lmul (by rfl)
theorem e180_47 : zE 180 d Q 47 [l0, l1, l2, l3, l4, l5, l6] (zL x :: st) G h k ↔ zE 180 d Q 49 [l0, l1, l2, l3, (zclr l4), some (zL x), none] st G h k := E_lstore (by rfl) (by decide)
theorem e180_49 : zE 180 d Q 49 [some (.inr (.inr w9)), l1, l2, l3, l4, l5, l6] st G h k ↔ zE 180 d Q 50 [some (.inr (.inr w9)), l1, l2, l3, l4, l5, l6] (.inr (.inr w9) :: st) G h k := E_aload_n (by rfl) rfl
theorem e180_50 : zE 180 d Q 50 [l0, l1, l2, l3, l4, l5, l6] (zR (some r) :: st) G h k ↔ (G.2.1 r = 9 ∧ zE 180 d Q 53 [l0, l1, l2, l3, l4, l5, l6] (zR (G.2.2.2 r 42) :: st) G h k) := E_getR (by rfl) rfl
theorem e180_53 : zE 180 d Q 53 [l0, some (zI x), l2, l3, l4, l5, l6] st G h k ↔ zE 180 d Q 54 [l0, some (zI x), l2, l3, l4, l5, l6] (zI x :: st) G h k := E_iload_n (by rfl) rfl
theorem e180_54 : zE 180 d Q 54 [l0, l1, some (zI x), l3, l4, l5, l6] st G h k ↔ zE 180 d Q 55 [l0, l1, some (zI x), l3, l4, l5, l6] (zI x :: st) G h k := E_iload_n (by rfl) rfl
theorem e180_55 : zE 180 d Q 55 [l0, l1, l2, l3, some (zI x), l5, l6] st G h k ↔ zE 180 d Q 57 [l0, l1, l2, l3, some (zI x), l5, l6] (zI x :: st) G h k := E_iload (by rfl) rfl
theorem e180_57 : zE 180 d Q 57 [l0, l1, l2, l3, l4, l5, l6] (v2 :: v1 :: v0 :: st) G h k ↔ (zsum st ≤ 8 ∧ zRunD ztb zmt' d 177 [v0, v1, v2] G h (fun v G' h' => zE 180 d Q 60 [l0, l1, l2, l3, l4, l5, l6] (v.toList ++ st) G' h' k)) := E_invS2z (by rfl) (by decide) rfl
theorem e180_60 : zE 180 d Q 60 [some (.inr (.inr w9)), l1, l2, l3, l4, l5, l6] st G h k ↔ zE 180 d Q 61 [some (.inr (.inr w9)), l1, l2, l3, l4, l5, l6] (.inr (.inr w9) :: st) G h k := E_aload_n (by rfl) rfl
theorem e180_61 : zE 180 d Q 61 [l0, l1, l2, l3, l4, l5, l6] (zR (some r) :: st) G h k ↔ (G.2.1 r = 9 ∧ zE 180 d Q 64 [l0, l1, l2, l3, l4, l5, l6] (zR (G.2.2.2 r 44) :: st) G h k) := E_getR (by rfl) rfl
theorem e180_64 : zE 180 d Q 64 [l0, l1, l2, l3, some (zI x), l5, l6] st G h k ↔ zE 180 d Q 66 [l0, l1, l2, l3, some (zI x), l5, l6] (zI x :: st) G h k := E_iload (by rfl) rfl
theorem e180_66 : zE 180 d Q 66 [l0, l1, l2, l3, l4, l5, l6] (zI i :: zR (some r) :: st) G h k ↔ (G.2.1 r = 10 ∧ (0 ≤ i ∧ i < G.2.2.1 r) ∧ zE 180 d Q 67 [l0, l1, l2, l3, l4, l5, l6] (zI (h r i.toNat) :: st) G h k) := E_iaload (by rfl)
theorem e180_67 : zE 180 d Q 67 [l0, l1, l2, l3, l4, l5, l6] (zI x :: st) G h k ↔ zE 180 d Q 68 [l0, l1, l2, l3, l4, l5, l6] (zL x :: st) G h k := E_i2l (by rfl)
theorem e180_68 : zE 180 d Q 68 [l0, l1, l2, l3, l4, some (zL x), l6] st G h k ↔ zE 180 d Q 70 [l0, l1, l2, l3, l4, some (zL x), l6] (zL x :: st) G h k := E_lload (by rfl) rfl
theorem e180_70 : zE 180 d Q 70 [l0, l1, l2, l3, l4, l5, l6] st G h k ↔ zE 180 d Q 71 [l0, l1, l2, l3, l4, l5, l6] (zL 0 :: st) G h k := E_lconst (by rfl)
theorem e180_71 : zE 180 d Q 71 [l0, l1, l2, l3, l4, l5, l6] (zL y :: zL x :: st) G h k ↔ zE 180 d Q 72 [l0, l1, l2, l3, l4, l5, l6] (zI (zlc x y) :: st) G h k := E_lcmp (by rfl)
theorem e180_72 : zE 180 d Q 72 [l0, l1, l2, l3, l4, l5, l6] (zI x :: st) G h k ↔ ((x < 0 → zE 180 d Q 84 [l0, l1, l2, l3, l4, l5, l6] st G h k) ∧ (¬ (x < 0) → zE 180 d Q 75 [l0, l1, l2, l3, l4, l5, l6] st G h k)) := E_if_lt (by rfl)
theorem e180_75 : zE 180 d Q 75 [l0, l1, l2, l3, l4, some (zL x), l6] st G h k ↔ zE 180 d Q 77 [l0, l1, l2, l3, l4, some (zL x), l6] (zL x :: st) G h k := E_lload (by rfl) rfl
theorem e180_77 : zE 180 d Q 77 [l0, l1, l2, l3, l4, l5, l6] st G h k ↔ zE 180 d Q 80 [l0, l1, l2, l3, l4, l5, l6] (zL 100 :: st) G h k := E_ldc2_w (by rfl)
theorem e180_80 : zE 180 d Q 80 [l0, l1, l2, l3, l4, l5, l6] (zL y :: zL x :: st) G h k ↔ (y ≠ 0 ∧ zE 180 d Q 81 [l0, l1, l2, l3, l4, l5, l6] (zL (wl (x.tdiv y)) :: st) G h k) := E_ldiv (by rfl)
theorem e180_81 : zE 180 d Q 81 [l0, l1, l2, l3, l4, l5, l6] st G h k ↔ zE 180 d Q 95 [l0, l1, l2, l3, l4, l5, l6] st G h k := E_goto (by rfl)
theorem e180_84 : zE 180 d Q 84 [l0, l1, l2, l3, l4, l5, l6] st G h k ↔ zE 180 d Q 87 [l0, l1, l2, l3, l4, l5, l6] (zL 99 :: st) G h k := E_ldc2_w (by rfl)
theorem e181_0 : zE 181 d Q 0 [some (.inr (.inr w9)), l1, l2] st G h k ↔ zE 181 d Q 1 [some (.inr (.inr w9)), l1, l2] (.inr (.inr w9) :: st) G h k := E_aload_n (by rfl) rfl
theorem e181_1 : zE 181 d Q 1 [l0, l1, some (zI x)] st G h k ↔ zE 181 d Q 2 [l0, l1, some (zI x)] (zI x :: st) G h k := E_iload_n (by rfl) rfl
theorem e181_2 : zE 181 d Q 2 [l0, l1, l2] (v0 :: zR (some r) :: st) G h k ↔ (zsum st ≤ 8 ∧ G.2.1 r = 9 ∧ zRunD ztb zmt' d 176 [zR (some r), v0] G h (fun v G' h' => zE 181 d Q 5 [l0, l1, l2] (v.toList ++ st) G' h' k)) := E_invV2z (by rfl) (by decide) rfl
theorem e181_5 : zE 181 d Q 5 [some (.inr (.inr w9)), l1, l2] st G h k ↔ zE 181 d Q 6 [some (.inr (.inr w9)), l1, l2] (.inr (.inr w9) :: st) G h k := E_aload_n (by rfl) rfl
theorem e181_6 : zE 181 d Q 6 [some (.inr (.inr w9)), l1, l2] st G h k ↔ zE 181 d Q 7 [some (.inr (.inr w9)), l1, l2] (.inr (.inr w9) :: st) G h k := E_aload_n (by rfl) rfl
theorem e181_7 : zE 181 d Q 7 [l0, l1, l2] (zR (some r) :: st) G h k ↔ (G.2.1 r = 9 ∧ zE 181 d Q 10 [l0, l1, l2] (zR (G.2.2.2 r 41) :: st) G h k) := E_getR (by rfl) rfl
theorem e181_10 : zE 181 d Q 10 [l0, l1, l2] st G h k ↔ zE 181 d Q 12 [l0, l1, l2] (zI 12 :: st) G h k := E_bipush (by rfl)
theorem e181_12 : zE 181 d Q 12 [l0, some (zI x), l2] st G h k ↔ zE 181 d Q 13 [l0, some (zI x), l2] (zI x :: st) G h k := E_iload_n (by rfl) rfl
theorem e181_13 : zE 181 d Q 13 [l0, l1, l2] (zI y :: zI x :: st) G h k ↔ zE 181 d Q 14 [l0, l1, l2] (zI (wr (x * y)) :: st) G h k := E_imul (by rfl)
theorem e181_14 : zE 181 d Q 14 [l0, l1, l2] st G h k ↔ zE 181 d Q 16 [l0, l1, l2] (zI 12 :: st) G h k := E_bipush (by rfl)
theorem e181_16 : zE 181 d Q 16 [l0, some (zI x), l2] st G h k ↔ zE 181 d Q 17 [l0, some (zI x), l2] (zI x :: st) G h k := E_iload_n (by rfl) rfl
theorem e181_17 : zE 181 d Q 17 [l0, l1, l2] st G h k ↔ zE 181 d Q 18 [l0, l1, l2] (zI 1 :: st) G h k := E_iconst (by rfl)
theorem e181_18 : zE 181 d Q 18 [l0, l1, l2] (zI y :: zI x :: st) G h k ↔ zE 181 d Q 19 [l0, l1, l2] (zI (wr (x - y)) :: st) G h k := E_isub (by rfl)
theorem e181_19 : zE 181 d Q 19 [l0, l1, l2] (zI y :: zI x :: st) G h k ↔ zE 181 d Q 20 [l0, l1, l2] (zI (wr (x * y)) :: st) G h k := E_imul (by rfl)
theorem e181_20 : zE 181 d Q 20 [l0, l1, l2] (v2 :: v1 :: v0 :: zR (some r) :: st) G h k ↔ (zsum st ≤ 8 ∧ G.2.1 r = 9 ∧ zRunD ztb zmt' d 152 [zR (some r), v0, v1, v2] G h (fun v G' h' => zE 181 d Q 23 [l0, l1, l2] (v.toList ++ st) G' h' k)) := E_invV2z (by rfl) (by decide) rfl
theorem e181_23 : zE 181 d Q 23 [l0, l1, l2] [] G h k ↔ Q none G h := E_vret (by rfl) rfl
theorem e182_0 : zE 182 d Q 0 [some (.inr (.inr w9)), l1, l2, l3] st G h k ↔ zE 182 d Q 1 [some (.inr (.inr w9)), l1, l2, l3] (.inr (.inr w9) :: st) G h k := E_aload_n (by rfl) rfl
theorem e182_1 : zE 182 d Q 1 [l0, l1, l2, l3] (zR (some r) :: st) G h k ↔ (zsum st ≤ 8 ∧ G.2.1 r = 9 ∧ zRunD ztb zmt' d 170 [zR (some r)] G h (fun v G' h' => zE 182 d Q 4 [l0, l1, l2, l3] (v.toList ++ st) G' h' k)) := E_invV2z (by rfl) (by decide) rfl
theorem e182_4 : zE 182 d Q 4 [l0, l1, l2, l3] (zI x :: st) G h k ↔ zE 182 d Q 5 [(zclr l0), some (zI x), l2, l3] st G h k := E_istore_n (by rfl) (by decide)
theorem e182_5 : zE 182 d Q 5 [l0, l1, l2, l3] st G h k ↔ zE 182 d Q 6 [l0, l1, l2, l3] (zI 0 :: st) G h k := E_iconst (by rfl)
theorem e182_6 : zE 182 d Q 6 [l0, l1, l2, l3] (zI x :: st) G h k ↔ zE 182 d Q 7 [l0, (zclr l1), some (zI x), l3] st G h k := E_istore_n (by rfl) (by decide)
theorem e182_7 : zE 182 d Q 7 [l0, l1, some (zI x), l3] st G h k ↔ zE 182 d Q 8 [l0, l1, some (zI x), l3] (zI x :: st) G h k := E_iload_n (by rfl) rfl
theorem e182_8 : zE 182 d Q 8 [l0, some (zI x), l2, l3] st G h k ↔ zE 182 d Q 9 [l0, some (zI x), l2, l3] (zI x :: st) G h k := E_iload_n (by rfl) rfl
theorem e182_9 : zE 182 d Q 9 [l0, l1, l2, l3] (zI y :: zI x :: st) G h k ↔ ((y ≤ x → zE 182 d Q 56 [l0, l1, l2, l3] st G h k) ∧ (¬ (y ≤ x) → zE 182 d Q 12 [l0, l1, l2, l3] st G h k)) := E_icmp_ge (by rfl)
theorem e182_12 : zE 182 d Q 12 [some (.inr (.inr w9)), l1, l2, l3] st G h k ↔ zE 182 d Q 13 [some (.inr (.inr w9)), l1, l2, l3] (.inr (.inr w9) :: st) G h k := E_aload_n (by rfl) rfl
theorem e182_13 : zE 182 d Q 13 [l0, l1, l2, l3] st G h k ↔ zE 182 d Q 14 [l0, l1, l2, l3] (zI 1 :: st) G h k := E_iconst (by rfl)
theorem e182_14 : zE 182 d Q 14 [l0, l1, some (zI x), l3] st G h k ↔ zE 182 d Q 15 [l0, l1, some (zI x), l3] (zI x :: st) G h k := E_iload_n (by rfl) rfl
theorem e182_15 : zE 182 d Q 15 [l0, l1, l2, l3] (v1 :: v0 :: zR (some r) :: st) G h k ↔ (zsum st ≤ 8 ∧ G.2.1 r = 9 ∧ zRunD ztb zmt' d 181 [zR (some r), v0, v1] G h (fun v G' h' => zE 182 d Q 18 [l0, l1, l2, l3] (v.toList ++ st) G' h' k)) := E_invV2z (by rfl) (by decide) rfl
theorem e182_18 : zE 182 d Q 18 [l0, l1, l2, l3] st G h k ↔ zE 182 d Q 19 [l0, l1, l2, l3] (zI 0 :: st) G h k := E_iconst (by rfl)
theorem e182_19 : zE 182 d Q 19 [l0, l1, l2, l3] (zI x :: st) G h k ↔ zE 182 d Q 20 [l0, l1, (zclr l2), some (zI x)] st G h k := E_istore_n (by rfl) (by decide)
theorem e182_20 : zE 182 d Q 20 [l0, l1, l2, some (zI x)] st G h k ↔ zE 182 d Q 21 [l0, l1, l2, some (zI x)] (zI x :: st) G h k := E_iload_n (by rfl) rfl
theorem e182_21 : zE 182 d Q 21 [l0, l1, l2, l3] st G h k ↔ zE 182 d Q 22 [l0, l1, l2, l3] (zI 3 :: st) G h k := E_iconst (by rfl)
theorem e182_22 : zE 182 d Q 22 [l0, l1, l2, l3] (zI y :: zI x :: st) G h k ↔ ((y ≤ x → zE 182 d Q 43 [l0, l1, l2, l3] st G h k) ∧ (¬ (y ≤ x) → zE 182 d Q 25 [l0, l1, l2, l3] st G h k)) := E_icmp_ge (by rfl)
theorem e182_25 : zE 182 d Q 25 [some (.inr (.inr w9)), l1, l2, l3] st G h k ↔ zE 182 d Q 26 [some (.inr (.inr w9)), l1, l2, l3] (.inr (.inr w9) :: st) G h k := E_aload_n (by rfl) rfl
theorem e182_26 : zE 182 d Q 26 [l0, l1, l2, l3] (zR (some r) :: st) G h k ↔ (G.2.1 r = 9 ∧ zE 182 d Q 29 [l0, l1, l2, l3] (zR (G.2.2.2 r 44) :: st) G h k) := E_getR (by rfl) rfl
theorem e182_29 : zE 182 d Q 29 [l0, l1, l2, some (zI x)] st G h k ↔ zE 182 d Q 30 [l0, l1, l2, some (zI x)] (zI x :: st) G h k := E_iload_n (by rfl) rfl
theorem e182_30 : zE 182 d Q 30 [some (.inr (.inr w9)), l1, l2, l3] st G h k ↔ zE 182 d Q 31 [some (.inr (.inr w9)), l1, l2, l3] (.inr (.inr w9) :: st) G h k := E_aload_n (by rfl) rfl
theorem e182_31 : zE 182 d Q 31 [l0, l1, l2, l3] (zR (some r) :: st) G h k ↔ (G.2.1 r = 9 ∧ zE 182 d Q 34 [l0, l1, l2, l3] (zR (G.2.2.2 r 25) :: st) G h k) := E_getR (by rfl) rfl
theorem e182_34 : zE 182 d Q 34 [l0, l1, l2, some (zI x)] st G h k ↔ zE 182 d Q 35 [l0, l1, l2, some (zI x)] (zI x :: st) G h k := E_iload_n (by rfl) rfl
theorem e182_35 : zE 182 d Q 35 [l0, l1, l2, l3] (zI i :: zR (some r) :: st) G h k ↔ (G.2.1 r = 10 ∧ (0 ≤ i ∧ i < G.2.2.1 r) ∧ zE 182 d Q 36 [l0, l1, l2, l3] (zI (h r i.toNat) :: st) G h k) := E_iaload (by rfl)
theorem e182_36 : zE 182 d Q 36 [l0, l1, l2, l3] (zI x :: zI i :: zR (some r) :: st) G h k ↔ (G.2.1 r = 10 ∧ (0 ≤ i ∧ i < G.2.2.1 r) ∧ zE 182 d Q 37 [l0, l1, l2, l3] st G (zu h r i.toNat x) k) := E_iastore (by rfl)
theorem e182_37 : zE 182 d Q 37 [l0, l1, l2, some (zI x)] st G h k ↔ zE 182 d Q 40 [l0, l1, (zclr l2), some (zI (wr (x + 1)))] st G h k := E_iinc (by rfl) rfl
theorem e182_40 : zE 182 d Q 40 [l0, l1, l2, l3] st G h k ↔ zE 182 d Q 20 [l0, l1, l2, l3] st G h k := E_goto (by rfl)
theorem e182_43 : zE 182 d Q 43 [some (.inr (.inr w9)), l1, l2, l3] st G h k ↔ zE 182 d Q 44 [some (.inr (.inr w9)), l1, l2, l3] (.inr (.inr w9) :: st) G h k := E_aload_n (by rfl) rfl
theorem e182_44 : zE 182 d Q 44 [l0, l1, l2, l3] st G h k ↔ zE 182 d Q 45 [l0, l1, l2, l3] (zI 1 :: st) G h k := E_iconst (by rfl)
theorem e182_45 : zE 182 d Q 45 [l0, l1, some (zI x), l3] st G h k ↔ zE 182 d Q 46 [l0, l1, some (zI x), l3] (zI x :: st) G h k := E_iload_n (by rfl) rfl
theorem e182_46 : zE 182 d Q 46 [l0, l1, l2, l3] st G h k ↔ zE 182 d Q 47 [l0, l1, l2, l3] (zI (-1) :: st) G h k := E_iconst (by rfl)
theorem e182_47 : zE 182 d Q 47 [l0, l1, l2, l3] (v2 :: v1 :: v0 :: zR (some r) :: st) G h k ↔ (zsum st ≤ 8 ∧ G.2.1 r = 9 ∧ zRunD ztb zmt' d 180 [zR (some r), v0, v1, v2] G h (fun v G' h' => zE 182 d Q 50 [l0, l1, l2, l3] (v.toList ++ st) G' h' k)) := E_invV2z (by rfl) (by decide) rfl
theorem e182_50 : zE 182 d Q 50 [l0, l1, some (zI x), l3] st G h k ↔ zE 182 d Q 53 [l0, (zclr l1), some (zI (wr (x + 1))), l3] st G h k := E_iinc (by rfl) rfl
theorem e182_53 : zE 182 d Q 53 [l0, l1, l2, l3] st G h k ↔ zE 182 d Q 7 [l0, l1, l2, l3] st G h k := E_goto (by rfl)
theorem e182_56 : zE 182 d Q 56 [some (.inr (.inr w9)), l1, l2, l3] st G h k ↔ zE 182 d Q 57 [some (.inr (.inr w9)), l1, l2, l3] (.inr (.inr w9) :: st) G h k := E_aload_n (by rfl) rfl
theorem e182_57 : zE 182 d Q 57 [l0, l1, l2, l3] st G h k ↔ zE 182 d Q 58 [l0, l1, l2, l3] (zI 1 :: st) G h k := E_iconst (by rfl)
theorem e182_58 : zE 182 d Q 58 [l0, l1, l2, l3] (v0 :: zR (some r) :: st) G h k ↔ (zsum st ≤ 8 ∧ G.2.1 r = 9 ∧ zRunD ztb zmt' d 179 [zR (some r), v0] G h (fun v G' h' => zE 182 d Q 61 [l0, l1, l2, l3] (v.toList ++ st) G' h' k)) := E_invV2z (by rfl) (by decide) rfl
theorem e182_61 : zE 182 d Q 61 [l0, l1, l2, l3] [zI x] G h k ↔ Q (some (zI x)) G h := E_iret (by rfl) rfl
theorem e183_0 : zE 183 d Q 0 [some (.inr (.inr w9)), l1, l2, l3, l4] st G h k ↔ zE 183 d Q 1 [some (.inr (.inr w9)), l1, l2, l3, l4] (.inr (.inr w9) :: st) G h k := E_aload_n (by rfl) rfl
theorem e183_1 : zE 183 d Q 1 [l0, l1, l2, l3, l4] (zR (some r) :: st) G h k ↔ (zsum st ≤ 8 ∧ G.2.1 r = 9 ∧ zRunD ztb zmt' d 170 [zR (some r)] G h (fun v G' h' => zE 183 d Q 4 [l0, l1, l2, l3, l4] (v.toList ++ st) G' h' k)) := E_invV2z (by rfl) (by decide) rfl
theorem e183_4 : zE 183 d Q 4 [l0, l1, l2, l3, l4] (zI x :: st) G h k ↔ zE 183 d Q 5 [(zclr l0), some (zI x), l2, l3, l4] st G h k := E_istore_n (by rfl) (by decide)
theorem e183_5 : zE 183 d Q 5 [l0, l1, l2, l3, l4] st G h k ↔ zE 183 d Q 6 [l0, l1, l2, l3, l4] (zI 0 :: st) G h k := E_iconst (by rfl)
theorem e183_6 : zE 183 d Q 6 [l0, l1, l2, l3, l4] (zI x :: st) G h k ↔ zE 183 d Q 7 [l0, (zclr l1), some (zI x), l3, l4] st G h k := E_istore_n (by rfl) (by decide)
theorem e183_7 : zE 183 d Q 7 [l0, l1, some (zI x), l3, l4] st G h k ↔ zE 183 d Q 8 [l0, l1, some (zI x), l3, l4] (zI x :: st) G h k := E_iload_n (by rfl) rfl
theorem e183_8 : zE 183 d Q 8 [l0, some (zI x), l2, l3, l4] st G h k ↔ zE 183 d Q 9 [l0, some (zI x), l2, l3, l4] (zI x :: st) G h k := E_iload_n (by rfl) rfl
theorem e183_9 : zE 183 d Q 9 [l0, l1, l2, l3, l4] (zI y :: zI x :: st) G h k ↔ ((y ≤ x → zE 183 d Q 90 [l0, l1, l2, l3, l4] st G h k) ∧ (¬ (y ≤ x) → zE 183 d Q 12 [l0, l1, l2, l3, l4] st G h k)) := E_icmp_ge (by rfl)
theorem e183_12 : zE 183 d Q 12 [some (.inr (.inr w9)), l1, l2, l3, l4] st G h k ↔ zE 183 d Q 13 [some (.inr (.inr w9)), l1, l2, l3, l4] (.inr (.inr w9) :: st) G h k := E_aload_n (by rfl) rfl
theorem e183_13 : zE 183 d Q 13 [l0, l1, l2, l3, l4] st G h k ↔ zE 183 d Q 14 [l0, l1, l2, l3, l4] (zI 2 :: st) G h k := E_iconst (by rfl)
theorem e183_14 : zE 183 d Q 14 [l0, l1, some (zI x), l3, l4] st G h k ↔ zE 183 d Q 15 [l0, l1, some (zI x), l3, l4] (zI x :: st) G h k := E_iload_n (by rfl) rfl
theorem e183_15 : zE 183 d Q 15 [l0, l1, l2, l3, l4] (v1 :: v0 :: zR (some r) :: st) G h k ↔ (zsum st ≤ 8 ∧ G.2.1 r = 9 ∧ zRunD ztb zmt' d 181 [zR (some r), v0, v1] G h (fun v G' h' => zE 183 d Q 18 [l0, l1, l2, l3, l4] (v.toList ++ st) G' h' k)) := E_invV2z (by rfl) (by decide) rfl
theorem e183_18 : zE 183 d Q 18 [l0, l1, l2, l3, l4] st G h k ↔ zE 183 d Q 19 [l0, l1, l2, l3, l4] (zI 0 :: st) G h k := E_iconst (by rfl)
theorem e183_19 : zE 183 d Q 19 [l0, l1, l2, l3, l4] (zI x :: st) G h k ↔ zE 183 d Q 20 [l0, l1, (zclr l2), some (zI x), l4] st G h k := E_istore_n (by rfl) (by decide)
theorem e183_20 : zE 183 d Q 20 [l0, l1, l2, some (zI x), l4] st G h k ↔ zE 183 d Q 21 [l0, l1, l2, some (zI x), l4] (zI x :: st) G h k := E_iload_n (by rfl) rfl
theorem e183_21 : zE 183 d Q 21 [l0, l1, l2, l3, l4] st G h k ↔ zE 183 d Q 22 [l0, l1, l2, l3, l4] (zI 3 :: st) G h k := E_iconst (by rfl)
theorem e183_22 : zE 183 d Q 22 [l0, l1, l2, l3, l4] (zI y :: zI x :: st) G h k ↔ ((y ≤ x → zE 183 d Q 43 [l0, l1, l2, l3, l4] st G h k) ∧ (¬ (y ≤ x) → zE 183 d Q 25 [l0, l1, l2, l3, l4] st G h k)) := E_icmp_ge (by rfl)
theorem e183_25 : zE 183 d Q 25 [some (.inr (.inr w9)), l1, l2, l3, l4] st G h k ↔ zE 183 d Q 26 [some (.inr (.inr w9)), l1, l2, l3, l4] (.inr (.inr w9) :: st) G h k := E_aload_n (by rfl) rfl
theorem e183_26 : zE 183 d Q 26 [l0, l1, l2, l3, l4] (zR (some r) :: st) G h k ↔ (G.2.1 r = 9 ∧ zE 183 d Q 29 [l0, l1, l2, l3, l4] (zR (G.2.2.2 r 45) :: st) G h k) := E_getR (by rfl) rfl
theorem e183_29 : zE 183 d Q 29 [l0, l1, l2, some (zI x), l4] st G h k ↔ zE 183 d Q 30 [l0, l1, l2, some (zI x), l4] (zI x :: st) G h k := E_iload_n (by rfl) rfl
theorem e183_30 : zE 183 d Q 30 [some (.inr (.inr w9)), l1, l2, l3, l4] st G h k ↔ zE 183 d Q 31 [some (.inr (.inr w9)), l1, l2, l3, l4] (.inr (.inr w9) :: st) G h k := E_aload_n (by rfl) rfl
theorem e183_31 : zE 183 d Q 31 [l0, l1, l2, l3, l4] (zR (some r) :: st) G h k ↔ (G.2.1 r = 9 ∧ zE 183 d Q 34 [l0, l1, l2, l3, l4] (zR (G.2.2.2 r 25) :: st) G h k) := E_getR (by rfl) rfl
theorem e183_34 : zE 183 d Q 34 [l0, l1, l2, some (zI x), l4] st G h k ↔ zE 183 d Q 35 [l0, l1, l2, some (zI x), l4] (zI x :: st) G h k := E_iload_n (by rfl) rfl
theorem e183_35 : zE 183 d Q 35 [l0, l1, l2, l3, l4] (zI i :: zR (some r) :: st) G h k ↔ (G.2.1 r = 10 ∧ (0 ≤ i ∧ i < G.2.2.1 r) ∧ zE 183 d Q 36 [l0, l1, l2, l3, l4] (zI (h r i.toNat) :: st) G h k) := E_iaload (by rfl)
theorem e183_36 : zE 183 d Q 36 [l0, l1, l2, l3, l4] (zI x :: zI i :: zR (some r) :: st) G h k ↔ (G.2.1 r = 10 ∧ (0 ≤ i ∧ i < G.2.2.1 r) ∧ zE 183 d Q 37 [l0, l1, l2, l3, l4] st G (zu h r i.toNat x) k) := E_iastore (by rfl)
theorem e183_37 : zE 183 d Q 37 [l0, l1, l2, some (zI x), l4] st G h k ↔ zE 183 d Q 40 [l0, l1, (zclr l2), some (zI (wr (x + 1))), l4] st G h k := E_iinc (by rfl) rfl
theorem e183_40 : zE 183 d Q 40 [l0, l1, l2, l3, l4] st G h k ↔ zE 183 d Q 20 [l0, l1, l2, l3, l4] st G h k := E_goto (by rfl)
theorem e183_43 : zE 183 d Q 43 [some (.inr (.inr w9)), l1, l2, l3, l4] st G h k ↔ zE 183 d Q 44 [some (.inr (.inr w9)), l1, l2, l3, l4] (.inr (.inr w9) :: st) G h k := E_aload_n (by rfl) rfl
theorem e183_44 : zE 183 d Q 44 [l0, l1, l2, l3, l4] (zR (some r) :: st) G h k ↔ (zsum st ≤ 8 ∧ G.2.1 r = 9 ∧ zRunD ztb zmt' d 182 [zR (some r)] G h (fun v G' h' => zE 183 d Q 47 [l0, l1, l2, l3, l4] (v.toList ++ st) G' h' k)) := E_invV2z (by rfl) (by decide) rfl
theorem e183_47 : zE 183 d Q 47 [l0, l1, l2, l3, l4] (zI x :: st) G h k ↔ zE 183 d Q 48 [l0, l1, (zclr l2), some (zI x), l4] st G h k := E_istore_n (by rfl) (by decide)
theorem e183_48 : zE 183 d Q 48 [l0, l1, l2, l3, l4] st G h k ↔ zE 183 d Q 49 [l0, l1, l2, l3, l4] (zI 0 :: st) G h k := E_iconst (by rfl)
theorem e183_49 : zE 183 d Q 49 [l0, l1, l2, l3, l4] (zI x :: st) G h k ↔ zE 183 d Q 51 [l0, l1, l2, (zclr l3), some (zI x)] st G h k := E_istore (by rfl) (by decide)
theorem e183_51 : zE 183 d Q 51 [l0, l1, l2, l3, some (zI x)] st G h k ↔ zE 183 d Q 53 [l0, l1, l2, l3, some (zI x)] (zI x :: st) G h k := E_iload (by rfl) rfl
theorem e183_53 : zE 183 d Q 53 [l0, l1, l2, l3, l4] st G h k ↔ zE 183 d Q 54 [l0, l1, l2, l3, l4] (zI 3 :: st) G h k := E_iconst (by rfl)
theorem e183_54 : zE 183 d Q 54 [l0, l1, l2, l3, l4] (zI y :: zI x :: st) G h k ↔ ((y ≤ x → zE 183 d Q 77 [l0, l1, l2, l3, l4] st G h k) ∧ (¬ (y ≤ x) → zE 183 d Q 57 [l0, l1, l2, l3, l4] st G h k)) := E_icmp_ge (by rfl)
theorem e183_57 : zE 183 d Q 57 [some (.inr (.inr w9)), l1, l2, l3, l4] st G h k ↔ zE 183 d Q 58 [some (.inr (.inr w9)), l1, l2, l3, l4] (.inr (.inr w9) :: st) G h k := E_aload_n (by rfl) rfl
theorem e183_58 : zE 183 d Q 58 [l0, l1, l2, l3, l4] (zR (some r) :: st) G h k ↔ (G.2.1 r = 9 ∧ zE 183 d Q 61 [l0, l1, l2, l3, l4] (zR (G.2.2.2 r 44) :: st) G h k) := E_getR (by rfl) rfl
theorem e183_61 : zE 183 d Q 61 [l0, l1, l2, l3, some (zI x)] st G h k ↔ zE 183 d Q 63 [l0, l1, l2, l3, some (zI x)] (zI x :: st) G h k := E_iload (by rfl) rfl
theorem e183_63 : zE 183 d Q 63 [some (.inr (.inr w9)), l1, l2, l3, l4] st G h k ↔ zE 183 d Q 64 [some (.inr (.inr w9)), l1, l2, l3, l4] (.inr (.inr w9) :: st) G h k := E_aload_n (by rfl) rfl
theorem e183_64 : zE 183 d Q 64 [l0, l1, l2, l3, l4] (zR (some r) :: st) G h k ↔ (G.2.1 r = 9 ∧ zE 183 d Q 67 [l0, l1, l2, l3, l4] (zR (G.2.2.2 r 45) :: st) G h k) := E_getR (by rfl) rfl
theorem e183_67 : zE 183 d Q 67 [l0, l1, l2, l3, some (zI x)] st G h k ↔ zE 183 d Q 69 [l0, l1, l2, l3, some (zI x)] (zI x :: st) G h k := E_iload (by rfl) rfl
theorem e183_69 : zE 183 d Q 69 [l0, l1, l2, l3, l4] (zI i :: zR (some r) :: st) G h k ↔ (G.2.1 r = 10 ∧ (0 ≤ i ∧ i < G.2.2.1 r) ∧ zE 183 d Q 70 [l0, l1, l2, l3, l4] (zI (h r i.toNat) :: st) G h k) := E_iaload (by rfl)
theorem e183_70 : zE 183 d Q 70 [l0, l1, l2, l3, l4] (zI x :: zI i :: zR (some r) :: st) G h k ↔ (G.2.1 r = 10 ∧ (0 ≤ i ∧ i < G.2.2.1 r) ∧ zE 183 d Q 71 [l0, l1, l2, l3, l4] st G (zu h r i.toNat x) k) := E_iastore (by rfl)
theorem e183_71 : zE 183 d Q 71 [l0, l1, l2, l3, some (zI x)] st G h k ↔ zE 183 d Q 74 [l0, l1, l2, (zclr l3), some (zI (wr (x + 1)))] st G h k := E_iinc (by rfl) rfl
theorem e183_74 : zE 183 d Q 74 [l0, l1, l2, l3, l4] st G h k ↔ zE 183 d Q 51 [l0, l1, l2, l3, l4] st G h k := E_goto (by rfl)
theorem e183_77 : zE 183 d Q 77 [some (.inr (.inr w9)), l1, l2, l3, l4] st G h k ↔ zE 183 d Q 78 [some (.inr (.inr w9)), l1, l2, l3, l4] (.inr (.inr w9) :: st) G h k := E_aload_n (by rfl) rfl
theorem e183_78 : zE 183 d Q 78 [l0, l1, l2, l3, l4] st G h k ↔ zE 183 d Q 79 [l0, l1, l2, l3, l4] (zI 2 :: st) G h k := E_iconst (by rfl)
theorem e183_79 : zE 183 d Q 79 [l0, l1, some (zI x), l3, l4] st G h k ↔ zE 183 d Q 80 [l0, l1, some (zI x), l3, l4] (zI x :: st) G h k := E_iload_n (by rfl) rfl
theorem e183_80 : zE 183 d Q 80 [l0, l1, l2, some (zI x), l4] st G h k ↔ zE 183 d Q 81 [l0, l1, l2, some (zI x), l4] (zI x :: st) G h k := E_iload_n (by rfl) rfl
theorem e183_81 : zE 183 d Q 81 [l0, l1, l2, l3, l4] (v2 :: v1 :: v0 :: zR (some r) :: st) G h k ↔ (zsum st ≤ 8 ∧ G.2.1 r = 9 ∧ zRunD ztb zmt' d 180 [zR (some r), v0, v1, v2] G h (fun v G' h' => zE 183 d Q 84 [l0, l1, l2, l3, l4] (v.toList ++ st) G' h' k)) := E_invV2z (by rfl) (by decide) rfl
theorem e183_84 : zE 183 d Q 84 [l0, l1, some (zI x), l3, l4] st G h k ↔ zE 183 d Q 87 [l0, (zclr l1), some (zI (wr (x + 1))), l3, l4] st G h k := E_iinc (by rfl) rfl
theorem e183_87 : zE 183 d Q 87 [l0, l1, l2, l3, l4] st G h k ↔ zE 183 d Q 7 [l0, l1, l2, l3, l4] st G h k := E_goto (by rfl)
theorem e183_90 : zE 183 d Q 90 [some (.inr (.inr w9)), l1, l2, l3, l4] st G h k ↔ zE 183 d Q 91 [some (.inr (.inr w9)), l1, l2, l3, l4] (.inr (.inr w9) :: st) G h k := E_aload_n (by rfl) rfl
theorem e183_91 : zE 183 d Q 91 [l0, l1, l2, l3, l4] st G h k ↔ zE 183 d Q 92 [l0, l1, l2, l3, l4] (zI 2 :: st) G h k := E_iconst (by rfl)
theorem e183_92 : zE 183 d Q 92 [l0, l1, l2, l3, l4] (v0 :: zR (some r) :: st) G h k ↔ (zsum st ≤ 8 ∧ G.2.1 r = 9 ∧ zRunD ztb zmt' d 179 [zR (some r), v0] G h (fun v G' h' => zE 183 d Q 95 [l0, l1, l2, l3, l4] (v.toList ++ st) G' h' k)) := E_invV2z (by rfl) (by decide) rfl
theorem e183_95 : zE 183 d Q 95 [l0, l1, l2, l3, l4] [zI x] G h k ↔ Q (some (zI x)) G h := E_iret (by rfl) rfl
theorem e184_0 : zE 184 d Q 0 [some (.inr (.inr w9)), l1, l2, l3, l4] st G h k ↔ zE 184 d Q 1 [some (.inr (.inr w9)), l1, l2, l3, l4] (.inr (.inr w9) :: st) G h k := E_aload_n (by rfl) rfl
theorem e184_1 : zE 184 d Q 1 [l0, l1, l2, l3, l4] (zR (some r) :: st) G h k ↔ (zsum st ≤ 8 ∧ G.2.1 r = 9 ∧ zRunD ztb zmt' d 170 [zR (some r)] G h (fun v G' h' => zE 184 d Q 4 [l0, l1, l2, l3, l4] (v.toList ++ st) G' h' k)) := E_invV2z (by rfl) (by decide) rfl
theorem e184_4 : zE 184 d Q 4 [l0, l1, l2, l3, l4] (zI x :: st) G h k ↔ zE 184 d Q 5 [(zclr l0), some (zI x), l2, l3, l4] st G h k := E_istore_n (by rfl) (by decide)
theorem e184_5 : zE 184 d Q 5 [l0, l1, l2, l3, l4] st G h k ↔ zE 184 d Q 6 [l0, l1, l2, l3, l4] (zI 0 :: st) G h k := E_iconst (by rfl)
theorem e184_6 : zE 184 d Q 6 [l0, l1, l2, l3, l4] (zI x :: st) G h k ↔ zE 184 d Q 7 [l0, (zclr l1), some (zI x), l3, l4] st G h k := E_istore_n (by rfl) (by decide)
theorem e184_7 : zE 184 d Q 7 [l0, l1, some (zI x), l3, l4] st G h k ↔ zE 184 d Q 8 [l0, l1, some (zI x), l3, l4] (zI x :: st) G h k := E_iload_n (by rfl) rfl
theorem e184_8 : zE 184 d Q 8 [l0, some (zI x), l2, l3, l4] st G h k ↔ zE 184 d Q 9 [l0, some (zI x), l2, l3, l4] (zI x :: st) G h k := E_iload_n (by rfl) rfl
theorem e184_9 : zE 184 d Q 9 [l0, l1, l2, l3, l4] (zI y :: zI x :: st) G h k ↔ ((y ≤ x → zE 184 d Q 90 [l0, l1, l2, l3, l4] st G h k) ∧ (¬ (y ≤ x) → zE 184 d Q 12 [l0, l1, l2, l3, l4] st G h k)) := E_icmp_ge (by rfl)
theorem e184_12 : zE 184 d Q 12 [some (.inr (.inr w9)), l1, l2, l3, l4] st G h k ↔ zE 184 d Q 13 [some (.inr (.inr w9)), l1, l2, l3, l4] (.inr (.inr w9) :: st) G h k := E_aload_n (by rfl) rfl
theorem e184_13 : zE 184 d Q 13 [l0, l1, l2, l3, l4] st G h k ↔ zE 184 d Q 14 [l0, l1, l2, l3, l4] (zI 3 :: st) G h k := E_iconst (by rfl)
theorem e184_14 : zE 184 d Q 14 [l0, l1, some (zI x), l3, l4] st G h k ↔ zE 184 d Q 15 [l0, l1, some (zI x), l3, l4] (zI x :: st) G h k := E_iload_n (by rfl) rfl
theorem e184_15 : zE 184 d Q 15 [l0, l1, l2, l3, l4] (v1 :: v0 :: zR (some r) :: st) G h k ↔ (zsum st ≤ 8 ∧ G.2.1 r = 9 ∧ zRunD ztb zmt' d 181 [zR (some r), v0, v1] G h (fun v G' h' => zE 184 d Q 18 [l0, l1, l2, l3, l4] (v.toList ++ st) G' h' k)) := E_invV2z (by rfl) (by decide) rfl
theorem e184_18 : zE 184 d Q 18 [l0, l1, l2, l3, l4] st G h k ↔ zE 184 d Q 19 [l0, l1, l2, l3, l4] (zI 0 :: st) G h k := E_iconst (by rfl)
theorem e184_19 : zE 184 d Q 19 [l0, l1, l2, l3, l4] (zI x :: st) G h k ↔ zE 184 d Q 20 [l0, l1, (zclr l2), some (zI x), l4] st G h k := E_istore_n (by rfl) (by decide)
theorem e184_20 : zE 184 d Q 20 [l0, l1, l2, some (zI x), l4] st G h k ↔ zE 184 d Q 21 [l0, l1, l2, some (zI x), l4] (zI x :: st) G h k := E_iload_n (by rfl) rfl
theorem e184_21 : zE 184 d Q 21 [l0, l1, l2, l3, l4] st G h k ↔ zE 184 d Q 22 [l0, l1, l2, l3, l4] (zI 3 :: st) G h k := E_iconst (by rfl)
theorem e184_22 : zE 184 d Q 22 [l0, l1, l2, l3, l4] (zI y :: zI x :: st) G h k ↔ ((y ≤ x → zE 184 d Q 43 [l0, l1, l2, l3, l4] st G h k) ∧ (¬ (y ≤ x) → zE 184 d Q 25 [l0, l1, l2, l3, l4] st G h k)) := E_icmp_ge (by rfl)
theorem e184_25 : zE 184 d Q 25 [some (.inr (.inr w9)), l1, l2, l3, l4] st G h k ↔ zE 184 d Q 26 [some (.inr (.inr w9)), l1, l2, l3, l4] (.inr (.inr w9) :: st) G h k := E_aload_n (by rfl) rfl
theorem e184_26 : zE 184 d Q 26 [l0, l1, l2, l3, l4] (zR (some r) :: st) G h k ↔ (G.2.1 r = 9 ∧ zE 184 d Q 29 [l0, l1, l2, l3, l4] (zR (G.2.2.2 r 46) :: st) G h k) := E_getR (by rfl) rfl
theorem e184_29 : zE 184 d Q 29 [l0, l1, l2, some (zI x), l4] st G h k ↔ zE 184 d Q 30 [l0, l1, l2, some (zI x), l4] (zI x :: st) G h k := E_iload_n (by rfl) rfl
theorem e184_30 : zE 184 d Q 30 [some (.inr (.inr w9)), l1, l2, l3, l4] st G h k ↔ zE 184 d Q 31 [some (.inr (.inr w9)), l1, l2, l3, l4] (.inr (.inr w9) :: st) G h k := E_aload_n (by rfl) rfl
theorem e184_31 : zE 184 d Q 31 [l0, l1, l2, l3, l4] (zR (some r) :: st) G h k ↔ (G.2.1 r = 9 ∧ zE 184 d Q 34 [l0, l1, l2, l3, l4] (zR (G.2.2.2 r 25) :: st) G h k) := E_getR (by rfl) rfl
theorem e184_34 : zE 184 d Q 34 [l0, l1, l2, some (zI x), l4] st G h k ↔ zE 184 d Q 35 [l0, l1, l2, some (zI x), l4] (zI x :: st) G h k := E_iload_n (by rfl) rfl
theorem e184_35 : zE 184 d Q 35 [l0, l1, l2, l3, l4] (zI i :: zR (some r) :: st) G h k ↔ (G.2.1 r = 10 ∧ (0 ≤ i ∧ i < G.2.2.1 r) ∧ zE 184 d Q 36 [l0, l1, l2, l3, l4] (zI (h r i.toNat) :: st) G h k) := E_iaload (by rfl)
theorem e184_36 : zE 184 d Q 36 [l0, l1, l2, l3, l4] (zI x :: zI i :: zR (some r) :: st) G h k ↔ (G.2.1 r = 10 ∧ (0 ≤ i ∧ i < G.2.2.1 r) ∧ zE 184 d Q 37 [l0, l1, l2, l3, l4] st G (zu h r i.toNat x) k) := E_iastore (by rfl)
theorem e184_37 : zE 184 d Q 37 [l0, l1, l2, some (zI x), l4] st G h k ↔ zE 184 d Q 40 [l0, l1, (zclr l2), some (zI (wr (x + 1))), l4] st G h k := E_iinc (by rfl) rfl
theorem e184_40 : zE 184 d Q 40 [l0, l1, l2, l3, l4] st G h k ↔ zE 184 d Q 20 [l0, l1, l2, l3, l4] st G h k := E_goto (by rfl)
theorem e184_43 : zE 184 d Q 43 [some (.inr (.inr w9)), l1, l2, l3, l4] st G h k ↔ zE 184 d Q 44 [some (.inr (.inr w9)), l1, l2, l3, l4] (.inr (.inr w9) :: st) G h k := E_aload_n (by rfl) rfl
theorem e184_44 : zE 184 d Q 44 [l0, l1, l2, l3, l4] (zR (some r) :: st) G h k ↔ (zsum st ≤ 8 ∧ G.2.1 r = 9 ∧ zRunD ztb zmt' d 183 [zR (some r)] G h (fun v G' h' => zE 184 d Q 47 [l0, l1, l2, l3, l4] (v.toList ++ st) G' h' k)) := E_invV2z (by rfl) (by decide) rfl
theorem e184_47 : zE 184 d Q 47 [l0, l1, l2, l3, l4] (zI x :: st) G h k ↔ zE 184 d Q 48 [l0, l1, (zclr l2), some (zI x), l4] st G h k := E_istore_n (by rfl) (by decide)
theorem e184_48 : zE 184 d Q 48 [l0, l1, l2, l3, l4] st G h k ↔ zE 184 d Q 49 [l0, l1, l2, l3, l4] (zI 0 :: st) G h k := E_iconst (by rfl)
theorem e184_49 : zE 184 d Q 49 [l0, l1, l2, l3, l4] (zI x :: st) G h k ↔ zE 184 d Q 51 [l0, l1, l2, (zclr l3), some (zI x)] st G h k := E_istore (by rfl) (by decide)
theorem e184_51 : zE 184 d Q 51 [l0, l1, l2, l3, some (zI x)] st G h k ↔ zE 184 d Q 53 [l0, l1, l2, l3, some (zI x)] (zI x :: st) G h k := E_iload (by rfl) rfl
theorem e184_53 : zE 184 d Q 53 [l0, l1, l2, l3, l4] st G h k ↔ zE 184 d Q 54 [l0, l1, l2, l3, l4] (zI 3 :: st) G h k := E_iconst (by rfl)
theorem e184_54 : zE 184 d Q 54 [l0, l1, l2, l3, l4] (zI y :: zI x :: st) G h k ↔ ((y ≤ x → zE 184 d Q 77 [l0, l1, l2, l3, l4] st G h k) ∧ (¬ (y ≤ x) → zE 184 d Q 57 [l0, l1, l2, l3, l4] st G h k)) := E_icmp_ge (by rfl)
theorem e184_57 : zE 184 d Q 57 [some (.inr (.inr w9)), l1, l2, l3, l4] st G h k ↔ zE 184 d Q 58 [some (.inr (.inr w9)), l1, l2, l3, l4] (.inr (.inr w9) :: st) G h k := E_aload_n (by rfl) rfl
theorem e184_58 : zE 184 d Q 58 [l0, l1, l2, l3, l4] (zR (some r) :: st) G h k ↔ (G.2.1 r = 9 ∧ zE 184 d Q 61 [l0, l1, l2, l3, l4] (zR (G.2.2.2 r 44) :: st) G h k) := E_getR (by rfl) rfl
theorem e184_61 : zE 184 d Q 61 [l0, l1, l2, l3, some (zI x)] st G h k ↔ zE 184 d Q 63 [l0, l1, l2, l3, some (zI x)] (zI x :: st) G h k := E_iload (by rfl) rfl
theorem e184_63 : zE 184 d Q 63 [some (.inr (.inr w9)), l1, l2, l3, l4] st G h k ↔ zE 184 d Q 64 [some (.inr (.inr w9)), l1, l2, l3, l4] (.inr (.inr w9) :: st) G h k := E_aload_n (by rfl) rfl
theorem e184_64 : zE 184 d Q 64 [l0, l1, l2, l3, l4] (zR (some r) :: st) G h k ↔ (G.2.1 r = 9 ∧ zE 184 d Q 67 [l0, l1, l2, l3, l4] (zR (G.2.2.2 r 46) :: st) G h k) := E_getR (by rfl) rfl
theorem e184_67 : zE 184 d Q 67 [l0, l1, l2, l3, some (zI x)] st G h k ↔ zE 184 d Q 69 [l0, l1, l2, l3, some (zI x)] (zI x :: st) G h k := E_iload (by rfl) rfl
theorem e184_69 : zE 184 d Q 69 [l0, l1, l2, l3, l4] (zI i :: zR (some r) :: st) G h k ↔ (G.2.1 r = 10 ∧ (0 ≤ i ∧ i < G.2.2.1 r) ∧ zE 184 d Q 70 [l0, l1, l2, l3, l4] (zI (h r i.toNat) :: st) G h k) := E_iaload (by rfl)
theorem e184_70 : zE 184 d Q 70 [l0, l1, l2, l3, l4] (zI x :: zI i :: zR (some r) :: st) G h k ↔ (G.2.1 r = 10 ∧ (0 ≤ i ∧ i < G.2.2.1 r) ∧ zE 184 d Q 71 [l0, l1, l2, l3, l4] st G (zu h r i.toNat x) k) := E_iastore (by rfl)
theorem e184_71 : zE 184 d Q 71 [l0, l1, l2, l3, some (zI x)] st G h k ↔ zE 184 d Q 74 [l0, l1, l2, (zclr l3), some (zI (wr (x + 1)))] st G h k := E_iinc (by rfl) rfl
theorem e184_74 : zE 184 d Q 74 [l0, l1, l2, l3, l4] st G h k ↔ zE 184 d Q 51 [l0, l1, l2, l3, l4] st G h k := E_goto (by rfl)
theorem e184_77 : zE 184 d Q 77 [some (.inr (.inr w9)), l1, l2, l3, l4] st G h k ↔ zE 184 d Q 78 [some (.inr (.inr w9)), l1, l2, l3, l4] (.inr (.inr w9) :: st) G h k := E_aload_n (by rfl) rfl
theorem e184_78 : zE 184 d Q 78 [l0, l1, l2, l3, l4] st G h k ↔ zE 184 d Q 79 [l0, l1, l2, l3, l4] (zI 3 :: st) G h k := E_iconst (by rfl)
theorem e184_79 : zE 184 d Q 79 [l0, l1, some (zI x), l3, l4] st G h k ↔ zE 184 d Q 80 [l0, l1, some (zI x), l3, l4] (zI x :: st) G h k := E_iload_n (by rfl) rfl
theorem e184_80 : zE 184 d Q 80 [l0, l1, l2, some (zI x), l4] st G h k ↔ zE 184 d Q 81 [l0, l1, l2, some (zI x), l4] (zI x :: st) G h k := E_iload_n (by rfl) rfl
theorem e184_81 : zE 184 d Q 81 [l0, l1, l2, l3, l4] (v2 :: v1 :: v0 :: zR (some r) :: st) G h k ↔ (zsum st ≤ 8 ∧ G.2.1 r = 9 ∧ zRunD ztb zmt' d 180 [zR (some r), v0, v1, v2] G h (fun v G' h' => zE 184 d Q 84 [l0, l1, l2, l3, l4] (v.toList ++ st) G' h' k)) := E_invV2z (by rfl) (by decide) rfl
theorem e184_84 : zE 184 d Q 84 [l0, l1, some (zI x), l3, l4] st G h k ↔ zE 184 d Q 87 [l0, (zclr l1), some (zI (wr (x + 1))), l3, l4] st G h k := E_iinc (by rfl) rfl
theorem e184_87 : zE 184 d Q 87 [l0, l1, l2, l3, l4] st G h k ↔ zE 184 d Q 7 [l0, l1, l2, l3, l4] st G h k := E_goto (by rfl)
theorem e184_90 : zE 184 d Q 90 [some (.inr (.inr w9)), l1, l2, l3, l4] st G h k ↔ zE 184 d Q 91 [some (.inr (.inr w9)), l1, l2, l3, l4] (.inr (.inr w9) :: st) G h k := E_aload_n (by rfl) rfl
theorem e184_91 : zE 184 d Q 91 [l0, l1, l2, l3, l4] st G h k ↔ zE 184 d Q 92 [l0, l1, l2, l3, l4] (zI 3 :: st) G h k := E_iconst (by rfl)
theorem e184_92 : zE 184 d Q 92 [l0, l1, l2, l3, l4] (v0 :: zR (some r) :: st) G h k ↔ (zsum st ≤ 8 ∧ G.2.1 r = 9 ∧ zRunD ztb zmt' d 179 [zR (some r), v0] G h (fun v G' h' => zE 184 d Q 95 [l0, l1, l2, l3, l4] (v.toList ++ st) G' h' k)) := E_invV2z (by rfl) (by decide) rfl
theorem e184_95 : zE 184 d Q 95 [l0, l1, l2, l3, l4] [zI x] G h k ↔ Q (some (zI x)) G h := E_iret (by rfl) rfl
theorem e185_0 : zE 185 d Q 0 [l0, some (zI x)] st G h k ↔ zE 185 d Q 1 [l0, some (zI x)] (zI x :: st) G h k := E_iload_n (by rfl) rfl
theorem e185_1 : zE 185 d Q 1 [l0, l1] st G h k ↔ zE 185 d Q 2 [l0, l1] (zI 1 :: st) G h k := E_iconst (by rfl)
theorem e185_2 : zE 185 d Q 2 [l0, l1] (zI y :: zI x :: st) G h k ↔ ((¬ x = y → zE 185 d Q 12 [l0, l1] st G h k) ∧ (¬ (¬ x = y) → zE 185 d Q 5 [l0, l1] st G h k)) := E_icmp_ne (by rfl)
theorem e185_5 : zE 185 d Q 5 [some (.inr (.inr w9)), l1] st G h k ↔ zE 185 d Q 6 [some (.inr (.inr w9)), l1] (.inr (.inr w9) :: st) G h k := E_aload_n (by rfl) rfl
theorem e185_6 : zE 185 d Q 6 [l0, l1] (zR (some r) :: st) G h k ↔ (zsum st ≤ 8 ∧ G.2.1 r = 9 ∧ zRunD ztb zmt' d 182 [zR (some r)] G h (fun v G' h' => zE 185 d Q 9 [l0, l1] (v.toList ++ st) G' h' k)) := E_invV2z (by rfl) (by decide) rfl
theorem e185_9 : zE 185 d Q 9 [l0, l1] st G h k ↔ zE 185 d Q 28 [l0, l1] st G h k := E_goto (by rfl)
theorem e185_12 : zE 185 d Q 12 [l0, some (zI x)] st G h k ↔ zE 185 d Q 13 [l0, some (zI x)] (zI x :: st) G h k := E_iload_n (by rfl) rfl
theorem e185_13 : zE 185 d Q 13 [l0, l1] st G h k ↔ zE 185 d Q 14 [l0, l1] (zI 2 :: st) G h k := E_iconst (by rfl)
theorem e185_14 : zE 185 d Q 14 [l0, l1] (zI y :: zI x :: st) G h k ↔ ((¬ x = y → zE 185 d Q 24 [l0, l1] st G h k) ∧ (¬ (¬ x = y) → zE 185 d Q 17 [l0, l1] st G h k)) := E_icmp_ne (by rfl)
theorem e185_17 : zE 185 d Q 17 [some (.inr (.inr w9)), l1] st G h k ↔ zE 185 d Q 18 [some (.inr (.inr w9)), l1] (.inr (.inr w9) :: st) G h k := E_aload_n (by rfl) rfl
theorem e185_18 : zE 185 d Q 18 [l0, l1] (zR (some r) :: st) G h k ↔ (zsum st ≤ 8 ∧ G.2.1 r = 9 ∧ zRunD ztb zmt' d 183 [zR (some r)] G h (fun v G' h' => zE 185 d Q 21 [l0, l1] (v.toList ++ st) G' h' k)) := E_invV2z (by rfl) (by decide) rfl
theorem e185_21 : zE 185 d Q 21 [l0, l1] st G h k ↔ zE 185 d Q 28 [l0, l1] st G h k := E_goto (by rfl)
theorem e185_24 : zE 185 d Q 24 [some (.inr (.inr w9)), l1] st G h k ↔ zE 185 d Q 25 [some (.inr (.inr w9)), l1] (.inr (.inr w9) :: st) G h k := E_aload_n (by rfl) rfl
theorem e185_25 : zE 185 d Q 25 [l0, l1] (zR (some r) :: st) G h k ↔ (zsum st ≤ 8 ∧ G.2.1 r = 9 ∧ zRunD ztb zmt' d 184 [zR (some r)] G h (fun v G' h' => zE 185 d Q 28 [l0, l1] (v.toList ++ st) G' h' k)) := E_invV2z (by rfl) (by decide) rfl
theorem e185_28 : zE 185 d Q 28 [l0, l1] [zI x] G h k ↔ Q (some (zI x)) G h := E_iret (by rfl) rfl
theorem e186_0 : zE 186 d Q 0 [some (.inr (.inr w9)), l1, l2] st G h k ↔ zE 186 d Q 1 [some (.inr (.inr w9)), l1, l2] (.inr (.inr w9) :: st) G h k := E_aload_n (by rfl) rfl
theorem e186_1 : zE 186 d Q 1 [l0, l1, l2] (zR (some r) :: st) G h k ↔ (zsum st ≤ 8 ∧ G.2.1 r = 9 ∧ zRunD ztb zmt' d 153 [zR (some r)] G h (fun v G' h' => zE 186 d Q 4 [l0, l1, l2] (v.toList ++ st) G' h' k)) := E_invV2z (by rfl) (by decide) rfl
theorem e186_4 : zE 186 d Q 4 [some (.inr (.inr w9)), l1, l2] st G h k ↔ zE 186 d Q 5 [some (.inr (.inr w9)), l1, l2] (.inr (.inr w9) :: st) G h k := E_aload_n (by rfl) rfl
theorem e186_5 : zE 186 d Q 5 [l0, l1, l2] st G h k ↔ zE 186 d Q 6 [l0, l1, l2] (zI 0 :: st) G h k := E_iconst (by rfl)
theorem e186_6 : zE 186 d Q 6 [l0, l1, l2] (zI x :: zR (some r) :: st) G h k ↔ (G.2.1 r = 9 ∧ (x = 0 ∨ x = 1) ∧ zE 186 d Q 9 [l0, l1, l2] st G (zu h r 43 x) k) := E_putZ (by rfl) rfl
theorem e186_9 : zE 186 d Q 9 [l0, l1, l2] st G h k ↔ zE 186 d Q 10 [l0, l1, l2] (zI 0 :: st) G h k := E_iconst (by rfl)
theorem e186_10 : zE 186 d Q 10 [l0, l1, l2] (zI x :: st) G h k ↔ zE 186 d Q 11 [l0, (zclr l1), some (zI x)] st G h k := E_istore_n (by rfl) (by decide)
theorem e186_11 : zE 186 d Q 11 [l0, l1, some (zI x)] st G h k ↔ zE 186 d Q 12 [l0, l1, some (zI x)] (zI x :: st) G h k := E_iload_n (by rfl) rfl
theorem e186_12 : zE 186 d Q 12 [l0, l1, l2] st G h k ↔ zE 186 d Q 14 [l0, l1, l2] (zI 12 :: st) G h k := E_bipush (by rfl)
theorem e186_14 : zE 186 d Q 14 [l0, l1, l2] (zI y :: zI x :: st) G h k ↔ ((y ≤ x → zE 186 d Q 40 [l0, l1, l2] st G h k) ∧ (¬ (y ≤ x) → zE 186 d Q 17 [l0, l1, l2] st G h k)) := E_icmp_ge (by rfl)
theorem e186_17 : zE 186 d Q 17 [some (.inr (.inr w9)), l1, l2] st G h k ↔ zE 186 d Q 18 [some (.inr (.inr w9)), l1, l2] (.inr (.inr w9) :: st) G h k := E_aload_n (by rfl) rfl
theorem e186_18 : zE 186 d Q 18 [l0, l1, l2] (zR (some r) :: st) G h k ↔ (G.2.1 r = 9 ∧ zE 186 d Q 21 [l0, l1, l2] (zR (G.2.2.2 r 41) :: st) G h k) := E_getR (by rfl) rfl
theorem e186_21 : zE 186 d Q 21 [l0, l1, l2] st G h k ↔ zE 186 d Q 23 [l0, l1, l2] (zI 12 :: st) G h k := E_bipush (by rfl)
theorem e186_23 : zE 186 d Q 23 [l0, some (zI x), l2] st G h k ↔ zE 186 d Q 24 [l0, some (zI x), l2] (zI x :: st) G h k := E_iload_n (by rfl) rfl
theorem e186_24 : zE 186 d Q 24 [l0, l1, l2] (zI y :: zI x :: st) G h k ↔ zE 186 d Q 25 [l0, l1, l2] (zI (wr (x * y)) :: st) G h k := E_imul (by rfl)
theorem e186_25 : zE 186 d Q 25 [l0, l1, some (zI x)] st G h k ↔ zE 186 d Q 26 [l0, l1, some (zI x)] (zI x :: st) G h k := E_iload_n (by rfl) rfl
theorem e186_26 : zE 186 d Q 26 [l0, l1, l2] (zI y :: zI x :: st) G h k ↔ zE 186 d Q 27 [l0, l1, l2] (zI (wr (x + y)) :: st) G h k := E_iadd (by rfl)
theorem e186_27 : zE 186 d Q 27 [some (.inr (.inr w9)), l1, l2] st G h k ↔ zE 186 d Q 28 [some (.inr (.inr w9)), l1, l2] (.inr (.inr w9) :: st) G h k := E_aload_n (by rfl) rfl
theorem e186_28 : zE 186 d Q 28 [l0, l1, l2] (zR (some r) :: st) G h k ↔ (G.2.1 r = 9 ∧ zE 186 d Q 31 [l0, l1, l2] (zR (G.2.2.2 r 32) :: st) G h k) := E_getR (by rfl) rfl
theorem e186_31 : zE 186 d Q 31 [l0, l1, some (zI x)] st G h k ↔ zE 186 d Q 32 [l0, l1, some (zI x)] (zI x :: st) G h k := E_iload_n (by rfl) rfl
theorem e186_32 : zE 186 d Q 32 [l0, l1, l2] (zI i :: zR (some r) :: st) G h k ↔ (G.2.1 r = 10 ∧ (0 ≤ i ∧ i < G.2.2.1 r) ∧ zE 186 d Q 33 [l0, l1, l2] (zI (h r i.toNat) :: st) G h k) := E_iaload (by rfl)
theorem e186_33 : zE 186 d Q 33 [l0, l1, l2] (zI x :: zI i :: zR (some r) :: st) G h k ↔ (G.2.1 r = 10 ∧ (0 ≤ i ∧ i < G.2.2.1 r) ∧ zE 186 d Q 34 [l0, l1, l2] st G (zu h r i.toNat x) k) := E_iastore (by rfl)
theorem e186_34 : zE 186 d Q 34 [l0, l1, some (zI x)] st G h k ↔ zE 186 d Q 37 [l0, (zclr l1), some (zI (wr (x + 1)))] st G h k := E_iinc (by rfl) rfl
theorem e186_37 : zE 186 d Q 37 [l0, l1, l2] st G h k ↔ zE 186 d Q 11 [l0, l1, l2] st G h k := E_goto (by rfl)
theorem e186_40 : zE 186 d Q 40 [l0, l1, l2] [] G h k ↔ Q none G h := E_vret (by rfl) rfl
theorem e187_0 : zE 187 d Q 0 [some (.inr (.inr w9)), l1, l2, l3] st G h k ↔ zE 187 d Q 1 [some (.inr (.inr w9)), l1, l2, l3] (.inr (.inr w9) :: st) G h k := E_aload_n (by rfl) rfl
theorem e187_1 : zE 187 d Q 1 [l0, l1, l2, l3] st G h k ↔ zE 187 d Q 2 [l0, l1, l2, l3] (zI 0 :: st) G h k := E_iconst (by rfl)
theorem e187_2 : zE 187 d Q 2 [l0, l1, l2, l3] (zI x :: zR (some r) :: st) G h k ↔ (G.2.1 r = 9 ∧ zE 187 d Q 5 [l0, l1, l2, l3] st G (zu h r 0 x) k) := E_putI (by rfl) rfl
theorem e187_5 : zE 187 d Q 5 [some (.inr (.inr w9)), l1, l2, l3] st G h k ↔ zE 187 d Q 6 [some (.inr (.inr w9)), l1, l2, l3] (.inr (.inr w9) :: st) G h k := E_aload_n (by rfl) rfl
theorem e187_6 : zE 187 d Q 6 [l0, l1, l2, l3] (zR (some r) :: st) G h k ↔ (G.2.1 r = 9 ∧ zE 187 d Q 9 [l0, l1, l2, l3] (zR (G.2.2.2 r 3) :: st) G h k) := E_getR (by rfl) rfl
theorem e187_9 : zE 187 d Q 9 [l0, l1, l2, l3] (zR q9 :: st) G h k ↔ ((q9 = none → zE 187 d Q 12 [l0, l1, l2, l3] st G h k) ∧ (∀ q, q9 = some q → zE 187 d Q 18 [l0, l1, l2, l3] st G h k)) := E_ifnonnull (by rfl)
theorem e187_12 : zE 187 d Q 12 [some (.inr (.inr w9)), l1, l2, l3] st G h k ↔ zE 187 d Q 13 [some (.inr (.inr w9)), l1, l2, l3] (.inr (.inr w9) :: st) G h k := E_aload_n (by rfl) rfl
theorem e187_13 : zE 187 d Q 13 [l0, l1, l2, l3] st G h k ↔ zE 187 d Q 14 [l0, l1, l2, l3] (zI 1 :: st) G h k := E_iconst (by rfl)
theorem e187_14 : zE 187 d Q 14 [l0, l1, l2, l3] (v0 :: zR (some r) :: st) G h k ↔ (zsum st ≤ 8 ∧ G.2.1 r = 9 ∧ zRunD ztb zmt' d 114 [zR (some r), v0] G h (fun v G' h' => zE 187 d Q 17 [l0, l1, l2, l3] (v.toList ++ st) G' h' k)) := E_invV2z (by rfl) (by decide) rfl
theorem e187_17 : zE 187 d Q 17 [l0, l1, l2, l3] [zI x] G h k ↔ Q (some (zI x)) G h := E_iret (by rfl) rfl
theorem e187_18 : zE 187 d Q 18 [l0, some (zI x), l2, l3] st G h k ↔ zE 187 d Q 19 [l0, some (zI x), l2, l3] (zI x :: st) G h k := E_iload_n (by rfl) rfl
theorem e187_19 : zE 187 d Q 19 [l0, l1, l2, l3] st G h k ↔ zE 187 d Q 20 [l0, l1, l2, l3] (zI 1 :: st) G h k := E_iconst (by rfl)
theorem e187_20 : zE 187 d Q 20 [l0, l1, l2, l3] st G h k ↔ zE 187 d Q 21 [l0, l1, l2, l3] (zI 3 :: st) G h k := E_iconst (by rfl)
theorem e187_21 : zE 187 d Q 21 [l0, l1, l2, l3] (v2 :: v1 :: v0 :: st) G h k ↔ (zsum st ≤ 8 ∧ zRunD ztb zmt' d 120 [v0, v1, v2] G h (fun v G' h' => zE 187 d Q 24 [l0, l1, l2, l3] (v.toList ++ st) G' h' k)) := E_invS2z (by rfl) (by decide) rfl
theorem e187_24 : zE 187 d Q 24 [l0, l1, l2, l3] (zI x :: st) G h k ↔ ((¬ x = 0 → zE 187 d Q 33 [l0, l1, l2, l3] st G h k) ∧ (¬ (¬ x = 0) → zE 187 d Q 27 [l0, l1, l2, l3] st G h k)) := E_if_ne (by rfl)
theorem e187_27 : zE 187 d Q 27 [some (.inr (.inr w9)), l1, l2, l3] st G h k ↔ zE 187 d Q 28 [some (.inr (.inr w9)), l1, l2, l3] (.inr (.inr w9) :: st) G h k := E_aload_n (by rfl) rfl
theorem e187_28 : zE 187 d Q 28 [l0, l1, l2, l3] st G h k ↔ zE 187 d Q 29 [l0, l1, l2, l3] (zI 2 :: st) G h k := E_iconst (by rfl)
theorem e187_29 : zE 187 d Q 29 [l0, l1, l2, l3] (v0 :: zR (some r) :: st) G h k ↔ (zsum st ≤ 8 ∧ G.2.1 r = 9 ∧ zRunD ztb zmt' d 114 [zR (some r), v0] G h (fun v G' h' => zE 187 d Q 32 [l0, l1, l2, l3] (v.toList ++ st) G' h' k)) := E_invV2z (by rfl) (by decide) rfl
theorem e187_32 : zE 187 d Q 32 [l0, l1, l2, l3] [zI x] G h k ↔ Q (some (zI x)) G h := E_iret (by rfl) rfl
theorem e187_33 : zE 187 d Q 33 [some (.inr (.inr w9)), l1, l2, l3] st G h k ↔ zE 187 d Q 34 [some (.inr (.inr w9)), l1, l2, l3] (.inr (.inr w9) :: st) G h k := E_aload_n (by rfl) rfl
theorem e187_34 : zE 187 d Q 34 [l0, l1, l2, l3] st G h k ↔ zE 187 d Q 35 [l0, l1, l2, l3] (zI 0 :: st) G h k := E_iconst (by rfl)
theorem e187_35 : zE 187 d Q 35 [l0, l1, l2, l3] (v0 :: zR (some r) :: st) G h k ↔ (zsum st ≤ 8 ∧ G.2.1 r = 9 ∧ zRunD ztb zmt' d 143 [zR (some r), v0] G h (fun v G' h' => zE 187 d Q 38 [l0, l1, l2, l3] (v.toList ++ st) G' h' k)) := E_invV2z (by rfl) (by decide) rfl
theorem e187_38 : zE 187 d Q 38 [some (.inr (.inr w9)), l1, l2, l3] st G h k ↔ zE 187 d Q 39 [some (.inr (.inr w9)), l1, l2, l3] (.inr (.inr w9) :: st) G h k := E_aload_n (by rfl) rfl
theorem e187_39 : zE 187 d Q 39 [l0, some (zI x), l2, l3] st G h k ↔ zE 187 d Q 40 [l0, some (zI x), l2, l3] (zI x :: st) G h k := E_iload_n (by rfl) rfl
theorem e187_40 : zE 187 d Q 40 [l0, l1, l2, l3] (v0 :: zR (some r) :: st) G h k ↔ (zsum st ≤ 8 ∧ G.2.1 r = 9 ∧ zRunD ztb zmt' d 171 [zR (some r), v0] G h (fun v G' h' => zE 187 d Q 43 [l0, l1, l2, l3] (v.toList ++ st) G' h' k)) := E_invV2z (by rfl) (by decide) rfl
theorem e187_43 : zE 187 d Q 43 [l0, l1, l2, l3] (zI x :: st) G h k ↔ ((x = 0 → zE 187 d Q 52 [l0, l1, l2, l3] st G h k) ∧ (¬ (x = 0) → zE 187 d Q 46 [l0, l1, l2, l3] st G h k)) := E_if_eq (by rfl)
theorem e187_46 : zE 187 d Q 46 [some (.inr (.inr w9)), l1, l2, l3] st G h k ↔ zE 187 d Q 47 [some (.inr (.inr w9)), l1, l2, l3] (.inr (.inr w9) :: st) G h k := E_aload_n (by rfl) rfl
theorem e187_47 : zE 187 d Q 47 [l0, l1, l2, l3] st G h k ↔ zE 187 d Q 48 [l0, l1, l2, l3] (zI 3 :: st) G h k := E_iconst (by rfl)
theorem e187_48 : zE 187 d Q 48 [l0, l1, l2, l3] (v0 :: zR (some r) :: st) G h k ↔ (zsum st ≤ 8 ∧ G.2.1 r = 9 ∧ zRunD ztb zmt' d 114 [zR (some r), v0] G h (fun v G' h' => zE 187 d Q 51 [l0, l1, l2, l3] (v.toList ++ st) G' h' k)) := E_invV2z (by rfl) (by decide) rfl
theorem e187_51 : zE 187 d Q 51 [l0, l1, l2, l3] [zI x] G h k ↔ Q (some (zI x)) G h := E_iret (by rfl) rfl
theorem e187_52 : zE 187 d Q 52 [some (.inr (.inr w9)), l1, l2, l3] st G h k ↔ zE 187 d Q 53 [some (.inr (.inr w9)), l1, l2, l3] (.inr (.inr w9) :: st) G h k := E_aload_n (by rfl) rfl
theorem e187_53 : zE 187 d Q 53 [l0, some (zI x), l2, l3] st G h k ↔ zE 187 d Q 54 [l0, some (zI x), l2, l3] (zI x :: st) G h k := E_iload_n (by rfl) rfl
theorem e187_54 : zE 187 d Q 54 [l0, l1, l2, l3] (v0 :: zR (some r) :: st) G h k ↔ (zsum st ≤ 8 ∧ G.2.1 r = 9 ∧ zRunD ztb zmt' d 186 [zR (some r), v0] G h (fun v G' h' => zE 187 d Q 57 [l0, l1, l2, l3] (v.toList ++ st) G' h' k)) := E_invV2z (by rfl) (by decide) rfl
theorem e187_57 : zE 187 d Q 57 [some (.inr (.inr w9)), l1, l2, l3] st G h k ↔ zE 187 d Q 58 [some (.inr (.inr w9)), l1, l2, l3] (.inr (.inr w9) :: st) G h k := E_aload_n (by rfl) rfl
theorem e187_58 : zE 187 d Q 58 [l0, some (zI x), l2, l3] st G h k ↔ zE 187 d Q 59 [l0, some (zI x), l2, l3] (zI x :: st) G h k := E_iload_n (by rfl) rfl
theorem e187_59 : zE 187 d Q 59 [l0, l1, l2, l3] (v0 :: zR (some r) :: st) G h k ↔ (zsum st ≤ 8 ∧ G.2.1 r = 9 ∧ zRunD ztb zmt' d 185 [zR (some r), v0] G h (fun v G' h' => zE 187 d Q 62 [l0, l1, l2, l3] (v.toList ++ st) G' h' k)) := E_invV2z (by rfl) (by decide) rfl
theorem e187_62 : zE 187 d Q 62 [l0, l1, l2, l3] (zI x :: st) G h k ↔ zE 187 d Q 63 [l0, (zclr l1), some (zI x), l3] st G h k := E_istore_n (by rfl) (by decide)
theorem e187_63 : zE 187 d Q 63 [l0, l1, l2, l3] st G h k ↔ zE 187 d Q 64 [l0, l1, l2, l3] (zI 0 :: st) G h k := E_iconst (by rfl)
theorem e187_64 : zE 187 d Q 64 [l0, l1, l2, l3] (zI x :: st) G h k ↔ zE 187 d Q 65 [l0, l1, (zclr l2), some (zI x)] st G h k := E_istore_n (by rfl) (by decide)
theorem e187_65 : zE 187 d Q 65 [l0, l1, l2, some (zI x)] st G h k ↔ zE 187 d Q 66 [l0, l1, l2, some (zI x)] (zI x :: st) G h k := E_iload_n (by rfl) rfl
theorem e187_66 : zE 187 d Q 66 [some (.inr (.inr w9)), l1, l2, l3] st G h k ↔ zE 187 d Q 67 [some (.inr (.inr w9)), l1, l2, l3] (.inr (.inr w9) :: st) G h k := E_aload_n (by rfl) rfl
theorem e187_67 : zE 187 d Q 67 [l0, l1, l2, l3] (zR (some r) :: st) G h k ↔ (G.2.1 r = 9 ∧ zE 187 d Q 70 [l0, l1, l2, l3] (zR (G.2.2.2 r 3) :: st) G h k) := E_getR (by rfl) rfl
theorem e187_70 : zE 187 d Q 70 [l0, l1, l2, l3] (zR (some r) :: st) G h k ↔ (G.2.1 r = 8 ∧ zE 187 d Q 73 [l0, l1, l2, l3] (zI (h r 0) :: st) G h k) := E_getI (by rfl) (by decide)
theorem e187_73 : zE 187 d Q 73 [l0, l1, l2, l3] (zI y :: zI x :: st) G h k ↔ ((y ≤ x → zE 187 d Q 131 [l0, l1, l2, l3] st G h k) ∧ (¬ (y ≤ x) → zE 187 d Q 76 [l0, l1, l2, l3] st G h k)) := E_icmp_ge (by rfl)
theorem e187_76 : zE 187 d Q 76 [some (.inr (.inr w9)), l1, l2, l3] st G h k ↔ zE 187 d Q 77 [some (.inr (.inr w9)), l1, l2, l3] (.inr (.inr w9) :: st) G h k := E_aload_n (by rfl) rfl
theorem e187_77 : zE 187 d Q 77 [l0, l1, l2, l3] (zR (some r) :: st) G h k ↔ (G.2.1 r = 9 ∧ zE 187 d Q 80 [l0, l1, l2, l3] (zR (G.2.2.2 r 48) :: st) G h k) := E_getR (by rfl) rfl
theorem e187_80 : zE 187 d Q 80 [l0, l1, l2, some (zI x)] st G h k ↔ zE 187 d Q 81 [l0, l1, l2, some (zI x)] (zI x :: st) G h k := E_iload_n (by rfl) rfl
theorem e187_81 : zE 187 d Q 81 [some (.inr (.inr w9)), l1, l2, l3] st G h k ↔ zE 187 d Q 82 [some (.inr (.inr w9)), l1, l2, l3] (.inr (.inr w9) :: st) G h k := E_aload_n (by rfl) rfl
theorem e187_82 : zE 187 d Q 82 [some (.inr (.inr w9)), l1, l2, l3] st G h k ↔ zE 187 d Q 83 [some (.inr (.inr w9)), l1, l2, l3] (.inr (.inr w9) :: st) G h k := E_aload_n (by rfl) rfl
theorem e187_83 : zE 187 d Q 83 [l0, l1, some (zI x), l3] st G h k ↔ zE 187 d Q 84 [l0, l1, some (zI x), l3] (zI x :: st) G h k := E_iload_n (by rfl) rfl
theorem e187_84 : zE 187 d Q 84 [l0, l1, l2, some (zI x)] st G h k ↔ zE 187 d Q 85 [l0, l1, l2, some (zI x)] (zI x :: st) G h k := E_iload_n (by rfl) rfl
theorem e187_85 : zE 187 d Q 85 [l0, l1, l2, l3] (v1 :: v0 :: zR (some r) :: st) G h k ↔ (zsum st ≤ 8 ∧ G.2.1 r = 9 ∧ zRunD ztb zmt' d 173 [zR (some r), v0, v1] G h (fun v G' h' => zE 187 d Q 88 [l0, l1, l2, l3] (v.toList ++ st) G' h' k)) := E_invV2z (by rfl) (by decide) rfl
theorem e187_88 : zE 187 d Q 88 [l0, l1, l2, l3] (v0 :: zR (some r) :: st) G h k ↔ (zsum st ≤ 8 ∧ G.2.1 r = 9 ∧ zRunD ztb zmt' d 174 [zR (some r), v0] G h (fun v G' h' => zE 187 d Q 91 [l0, l1, l2, l3] (v.toList ++ st) G' h' k)) := E_invV2z (by rfl) (by decide) rfl
theorem e187_91 : zE 187 d Q 91 [l0, l1, l2, l3] (zI x :: zI i :: zR (some r) :: st) G h k ↔ (G.2.1 r = 10 ∧ (0 ≤ i ∧ i < G.2.2.1 r) ∧ zE 187 d Q 92 [l0, l1, l2, l3] st G (zu h r i.toNat x) k) := E_iastore (by rfl)
theorem e187_92 : zE 187 d Q 92 [some (.inr (.inr w9)), l1, l2, l3] st G h k ↔ zE 187 d Q 93 [some (.inr (.inr w9)), l1, l2, l3] (.inr (.inr w9) :: st) G h k := E_aload_n (by rfl) rfl
theorem e187_93 : zE 187 d Q 93 [l0, l1, l2, l3] (zR (some r) :: st) G h k ↔ (G.2.1 r = 9 ∧ zE 187 d Q 96 [l0, l1, l2, l3] (zR (G.2.2.2 r 49) :: st) G h k) := E_getR (by rfl) rfl
theorem e187_96 : zE 187 d Q 96 [l0, l1, l2, some (zI x)] st G h k ↔ zE 187 d Q 97 [l0, l1, l2, some (zI x)] (zI x :: st) G h k := E_iload_n (by rfl) rfl
theorem e187_97 : zE 187 d Q 97 [some (.inr (.inr w9)), l1, l2, l3] st G h k ↔ zE 187 d Q 98 [some (.inr (.inr w9)), l1, l2, l3] (.inr (.inr w9) :: st) G h k := E_aload_n (by rfl) rfl
theorem e187_98 : zE 187 d Q 98 [some (.inr (.inr w9)), l1, l2, l3] st G h k ↔ zE 187 d Q 99 [some (.inr (.inr w9)), l1, l2, l3] (.inr (.inr w9) :: st) G h k := E_aload_n (by rfl) rfl
theorem e187_99 : zE 187 d Q 99 [l0, l1, some (zI x), l3] st G h k ↔ zE 187 d Q 100 [l0, l1, some (zI x), l3] (zI x :: st) G h k := E_iload_n (by rfl) rfl
theorem e187_100 : zE 187 d Q 100 [l0, l1, l2, some (zI x)] st G h k ↔ zE 187 d Q 101 [l0, l1, l2, some (zI x)] (zI x :: st) G h k := E_iload_n (by rfl) rfl
theorem e187_101 : zE 187 d Q 101 [l0, l1, l2, l3] (v1 :: v0 :: zR (some r) :: st) G h k ↔ (zsum st ≤ 8 ∧ G.2.1 r = 9 ∧ zRunD ztb zmt' d 173 [zR (some r), v0, v1] G h (fun v G' h' => zE 187 d Q 104 [l0, l1, l2, l3] (v.toList ++ st) G' h' k)) := E_invV2z (by rfl) (by decide) rfl
theorem e187_104 : zE 187 d Q 104 [l0, l1, l2, l3] (v0 :: zR (some r) :: st) G h k ↔ (zsum st ≤ 8 ∧ G.2.1 r = 9 ∧ zRunD ztb zmt' d 175 [zR (some r), v0] G h (fun v G' h' => zE 187 d Q 107 [l0, l1, l2, l3] (v.toList ++ st) G' h' k)) := E_invV2z (by rfl) (by decide) rfl
theorem e187_107 : zE 187 d Q 107 [l0, l1, l2, l3] (zI x :: zI i :: zR (some r) :: st) G h k ↔ (G.2.1 r = 10 ∧ (0 ≤ i ∧ i < G.2.2.1 r) ∧ zE 187 d Q 108 [l0, l1, l2, l3] st G (zu h r i.toNat x) k) := E_iastore (by rfl)
theorem e187_108 : zE 187 d Q 108 [some (.inr (.inr w9)), l1, l2, l3] st G h k ↔ zE 187 d Q 109 [some (.inr (.inr w9)), l1, l2, l3] (.inr (.inr w9) :: st) G h k := E_aload_n (by rfl) rfl
theorem e187_109 : zE 187 d Q 109 [l0, l1, l2, l3] (zR (some r) :: st) G h k ↔ (G.2.1 r = 9 ∧ zE 187 d Q 112 [l0, l1, l2, l3] (zR (G.2.2.2 r 50) :: st) G h k) := E_getR (by rfl) rfl
theorem e187_112 : zE 187 d Q 112 [l0, l1, l2, some (zI x)] st G h k ↔ zE 187 d Q 113 [l0, l1, l2, some (zI x)] (zI x :: st) G h k := E_iload_n (by rfl) rfl
theorem e187_113 : zE 187 d Q 113 [some (.inr (.inr w9)), l1, l2, l3] st G h k ↔ zE 187 d Q 114 [some (.inr (.inr w9)), l1, l2, l3] (.inr (.inr w9) :: st) G h k := E_aload_n (by rfl) rfl
theorem e187_114 : zE 187 d Q 114 [l0, l1, l2, l3] (zR (some r) :: st) G h k ↔ (G.2.1 r = 9 ∧ zE 187 d Q 117 [l0, l1, l2, l3] (zR (G.2.2.2 r 42) :: st) G h k) := E_getR (by rfl) rfl
theorem e187_117 : zE 187 d Q 117 [l0, some (zI x), l2, l3] st G h k ↔ zE 187 d Q 118 [l0, some (zI x), l2, l3] (zI x :: st) G h k := E_iload_n (by rfl) rfl
theorem e187_118 : zE 187 d Q 118 [l0, l1, some (zI x), l3] st G h k ↔ zE 187 d Q 119 [l0, l1, some (zI x), l3] (zI x :: st) G h k := E_iload_n (by rfl) rfl
theorem e187_119 : zE 187 d Q 119 [l0, l1, l2, some (zI x)] st G h k ↔ zE 187 d Q 120 [l0, l1, l2, some (zI x)] (zI x :: st) G h k := E_iload_n (by rfl) rfl
theorem e187_120 : zE 187 d Q 120 [l0, l1, l2, l3] (v2 :: v1 :: v0 :: st) G h k ↔ (zsum st ≤ 8 ∧ zRunD ztb zmt' d 177 [v0, v1, v2] G h (fun v G' h' => zE 187 d Q 123 [l0, l1, l2, l3] (v.toList ++ st) G' h' k)) := E_invS2z (by rfl) (by decide) rfl
theorem e187_123 : zE 187 d Q 123 [l0, l1, l2, l3] (zI i :: zR (some r) :: st) G h k ↔ (G.2.1 r = 11 ∧ (0 ≤ i ∧ i < G.2.2.1 r) ∧ zE 187 d Q 124 [l0, l1, l2, l3] (zL (h r i.toNat) :: st) G h k) := E_laload (by rfl)
theorem e187_124 : zE 187 d Q 124 [l0, l1, l2, l3] (zL x :: zI i :: zR (some r) :: st) G h k ↔ (G.2.1 r = 11 ∧ (0 ≤ i ∧ i < G.2.2.1 r) ∧ zE 187 d Q 125 [l0, l1, l2, l3] st G (zu h r i.toNat x) k) := E_lastore (by rfl)
theorem e187_125 : zE 187 d Q 125 [l0, l1, l2, some (zI x)] st G h k ↔ zE 187 d Q 128 [l0, l1, (zclr l2), some (zI (wr (x + 1)))] st G h k := E_iinc (by rfl) rfl
theorem e187_128 : zE 187 d Q 128 [l0, l1, l2, l3] st G h k ↔ zE 187 d Q 65 [l0, l1, l2, l3] st G h k := E_goto (by rfl)
theorem e187_131 : zE 187 d Q 131 [some (.inr (.inr w9)), l1, l2, l3] st G h k ↔ zE 187 d Q 132 [some (.inr (.inr w9)), l1, l2, l3] (.inr (.inr w9) :: st) G h k := E_aload_n (by rfl) rfl
theorem e187_132 : zE 187 d Q 132 [l0, l1, l2, l3] st G h k ↔ zE 187 d Q 133 [l0, l1, l2, l3] (zI 1 :: st) G h k := E_iconst (by rfl)
theorem e187_133 : zE 187 d Q 133 [l0, l1, l2, l3] (zI x :: zR (some r) :: st) G h k ↔ (G.2.1 r = 9 ∧ (x = 0 ∨ x = 1) ∧ zE 187 d Q 136 [l0, l1, l2, l3] st G (zu h r 47 x) k) := E_putZ (by rfl) rfl
theorem e187_136 : zE 187 d Q 136 [some (.inr (.inr w9)), l1, l2, l3] st G h k ↔ zE 187 d Q 137 [some (.inr (.inr w9)), l1, l2, l3] (.inr (.inr w9) :: st) G h k := E_aload_n (by rfl) rfl
theorem e187_137 : zE 187 d Q 137 [some (.inr (.inr w9)), l1, l2, l3] st G h k ↔ zE 187 d Q 138 [some (.inr (.inr w9)), l1, l2, l3] (.inr (.inr w9) :: st) G h k := E_aload_n (by rfl) rfl
theorem e187_138 : zE 187 d Q 138 [l0, l1, l2, l3] (zR (some r) :: st) G h k ↔ (G.2.1 r = 9 ∧ zE 187 d Q 141 [l0, l1, l2, l3] (zI (h r 43) :: st) G h k) := E_getI (by rfl) (by decide)
theorem e187_141 : zE 187 d Q 141 [l0, l1, l2, l3] (zI x :: st) G h k ↔ ((x = 0 → zE 187 d Q 148 [l0, l1, l2, l3] st G h k) ∧ (¬ (x = 0) → zE 187 d Q 144 [l0, l1, l2, l3] st G h k)) := E_if_eq (by rfl)
theorem e187_144 : zE 187 d Q 144 [l0, l1, l2, l3] st G h k ↔ zE 187 d Q 145 [l0, l1, l2, l3] (zI 1 :: st) G h k := E_iconst (by rfl)
theorem e187_145 : zE 187 d Q 145 [l0, l1, l2, l3] st G h k ↔ zE 187 d Q 149 [l0, l1, l2, l3] st G h k := E_goto (by rfl)
theorem e187_148 : zE 187 d Q 148 [l0, l1, l2, l3] st G h k ↔ zE 187 d Q 149 [l0, l1, l2, l3] (zI 0 :: st) G h k := E_iconst (by rfl)
theorem e187_149 : zE 187 d Q 149 [l0, l1, l2, l3] (v0 :: zR (some r) :: st) G h k ↔ (zsum st ≤ 8 ∧ G.2.1 r = 9 ∧ zRunD ztb zmt' d 117 [zR (some r), v0] G h (fun v G' h' => zE 187 d Q 152 [l0, l1, l2, l3] (v.toList ++ st) G' h' k)) := E_invV2z (by rfl) (by decide) rfl
theorem e187_152 : zE 187 d Q 152 [l0, l1, l2, l3] [zI x] G h k ↔ Q (some (zI x)) G h := E_iret (by rfl) rfl
theorem e188_0 : zE 188 d Q 0 [some (.inr (.inr w9)), l1, l2] st G h k ↔ zE 188 d Q 1 [some (.inr (.inr w9)), l1, l2] (.inr (.inr w9) :: st) G h k := E_aload_n (by rfl) rfl
theorem e188_1 : zE 188 d Q 1 [l0, l1, l2] st G h k ↔ zE 188 d Q 2 [l0, l1, l2] (zI 0 :: st) G h k := E_iconst (by rfl)
theorem e188_2 : zE 188 d Q 2 [l0, l1, l2] (zI x :: zR (some r) :: st) G h k ↔ (G.2.1 r = 9 ∧ zE 188 d Q 5 [l0, l1, l2] st G (zu h r 0 x) k) := E_putI (by rfl) rfl
theorem e188_5 : zE 188 d Q 5 [some (.inr (.inr w9)), l1, l2] st G h k ↔ zE 188 d Q 6 [some (.inr (.inr w9)), l1, l2] (.inr (.inr w9) :: st) G h k := E_aload_n (by rfl) rfl
theorem e188_6 : zE 188 d Q 6 [l0, some (zI x), l2] st G h k ↔ zE 188 d Q 7 [l0, some (zI x), l2] (zI x :: st) G h k := E_iload_n (by rfl) rfl
theorem e188_7 : zE 188 d Q 7 [l0, l1, l2] (v0 :: zR (some r) :: st) G h k ↔ (zsum st ≤ 8 ∧ G.2.1 r = 9 ∧ zRunD ztb zmt' d 154 [zR (some r), v0] G h (fun v G' h' => zE 188 d Q 10 [l0, l1, l2] (v.toList ++ st) G' h' k)) := E_invV2z (by rfl) (by decide) rfl
theorem e188_10 : zE 188 d Q 10 [l0, l1, l2] (zI x :: st) G h k ↔ ((x = 0 → zE 188 d Q 22 [l0, l1, l2] st G h k) ∧ (¬ (x = 0) → zE 188 d Q 13 [l0, l1, l2] st G h k)) := E_if_eq (by rfl)
theorem e188_13 : zE 188 d Q 13 [l0, l1, some (zI x)] st G h k ↔ zE 188 d Q 14 [l0, l1, some (zI x)] (zI x :: st) G h k := E_iload_n (by rfl) rfl
theorem e188_14 : zE 188 d Q 14 [l0, l1, l2] st G h k ↔ zE 188 d Q 15 [l0, l1, l2] (zI 0 :: st) G h k := E_iconst (by rfl)
theorem e188_15 : zE 188 d Q 15 [l0, l1, l2] st G h k ↔ zE 188 d Q 16 [l0, l1, l2] (zI 1 :: st) G h k := E_iconst (by rfl)
theorem e188_16 : zE 188 d Q 16 [l0, l1, l2] (v2 :: v1 :: v0 :: st) G h k ↔ (zsum st ≤ 8 ∧ zRunD ztb zmt' d 120 [v0, v1, v2] G h (fun v G' h' => zE 188 d Q 19 [l0, l1, l2] (v.toList ++ st) G' h' k)) := E_invS2z (by rfl) (by decide) rfl
theorem e188_19 : zE 188 d Q 19 [l0, l1, l2] (zI x :: st) G h k ↔ ((¬ x = 0 → zE 188 d Q 28 [l0, l1, l2] st G h k) ∧ (¬ (¬ x = 0) → zE 188 d Q 22 [l0, l1, l2] st G h k)) := E_if_ne (by rfl)
theorem e188_22 : zE 188 d Q 22 [some (.inr (.inr w9)), l1, l2] st G h k ↔ zE 188 d Q 23 [some (.inr (.inr w9)), l1, l2] (.inr (.inr w9) :: st) G h k := E_aload_n (by rfl) rfl
theorem e188_23 : zE 188 d Q 23 [l0, l1, l2] st G h k ↔ zE 188 d Q 24 [l0, l1, l2] (zI 1 :: st) G h k := E_iconst (by rfl)
theorem e188_24 : zE 188 d Q 24 [l0, l1, l2] (v0 :: zR (some r) :: st) G h k ↔ (zsum st ≤ 8 ∧ G.2.1 r = 9 ∧ zRunD ztb zmt' d 114 [zR (some r), v0] G h (fun v G' h' => zE 188 d Q 27 [l0, l1, l2] (v.toList ++ st) G' h' k)) := E_invV2z (by rfl) (by decide) rfl
theorem e188_27 : zE 188 d Q 27 [l0, l1, l2] [zI x] G h k ↔ Q (some (zI x)) G h := E_iret (by rfl) rfl
theorem e188_28 : zE 188 d Q 28 [some (.inr (.inr w9)), l1, l2] st G h k ↔ zE 188 d Q 29 [some (.inr (.inr w9)), l1, l2] (.inr (.inr w9) :: st) G h k := E_aload_n (by rfl) rfl
theorem e188_29 : zE 188 d Q 29 [l0, l1, l2] (zR (some r) :: st) G h k ↔ (G.2.1 r = 9 ∧ zE 188 d Q 32 [l0, l1, l2] (zI (h r 47) :: st) G h k) := E_getI (by rfl) (by decide)
theorem e188_32 : zE 188 d Q 32 [l0, l1, l2] (zI x :: st) G h k ↔ ((x = 0 → zE 188 d Q 61 [l0, l1, l2] st G h k) ∧ (¬ (x = 0) → zE 188 d Q 35 [l0, l1, l2] st G h k)) := E_if_eq (by rfl)
theorem e188_35 : zE 188 d Q 35 [some (.inr (.inr w9)), l1, l2] st G h k ↔ zE 188 d Q 36 [some (.inr (.inr w9)), l1, l2] (.inr (.inr w9) :: st) G h k := E_aload_n (by rfl) rfl
theorem e188_36 : zE 188 d Q 36 [l0, l1, some (zI x)] st G h k ↔ zE 188 d Q 37 [l0, l1, some (zI x)] (zI x :: st) G h k := E_iload_n (by rfl) rfl
theorem e188_37 : zE 188 d Q 37 [l0, l1, l2] (zI x :: st) G h k ↔ ((¬ x = 0 → zE 188 d Q 49 [l0, l1, l2] st G h k) ∧ (¬ (¬ x = 0) → zE 188 d Q 40 [l0, l1, l2] st G h k)) := E_if_ne (by rfl)
theorem e188_40 : zE 188 d Q 40 [some (.inr (.inr w9)), l1, l2] st G h k ↔ zE 188 d Q 41 [some (.inr (.inr w9)), l1, l2] (.inr (.inr w9) :: st) G h k := E_aload_n (by rfl) rfl
theorem e188_41 : zE 188 d Q 41 [l0, l1, l2] (zR (some r) :: st) G h k ↔ (G.2.1 r = 9 ∧ zE 188 d Q 44 [l0, l1, l2] (zR (G.2.2.2 r 48) :: st) G h k) := E_getR (by rfl) rfl
theorem e188_44 : zE 188 d Q 44 [l0, some (zI x), l2] st G h k ↔ zE 188 d Q 45 [l0, some (zI x), l2] (zI x :: st) G h k := E_iload_n (by rfl) rfl
theorem e188_45 : zE 188 d Q 45 [l0, l1, l2] (zI i :: zR (some r) :: st) G h k ↔ (G.2.1 r = 10 ∧ (0 ≤ i ∧ i < G.2.2.1 r) ∧ zE 188 d Q 46 [l0, l1, l2] (zI (h r i.toNat) :: st) G h k) := E_iaload (by rfl)
theorem e188_46 : zE 188 d Q 46 [l0, l1, l2] st G h k ↔ zE 188 d Q 55 [l0, l1, l2] st G h k := E_goto (by rfl)
theorem e188_49 : zE 188 d Q 49 [some (.inr (.inr w9)), l1, l2] st G h k ↔ zE 188 d Q 50 [some (.inr (.inr w9)), l1, l2] (.inr (.inr w9) :: st) G h k := E_aload_n (by rfl) rfl
theorem e188_50 : zE 188 d Q 50 [l0, l1, l2] (zR (some r) :: st) G h k ↔ (G.2.1 r = 9 ∧ zE 188 d Q 53 [l0, l1, l2] (zR (G.2.2.2 r 49) :: st) G h k) := E_getR (by rfl) rfl
theorem e188_53 : zE 188 d Q 53 [l0, some (zI x), l2] st G h k ↔ zE 188 d Q 54 [l0, some (zI x), l2] (zI x :: st) G h k := E_iload_n (by rfl) rfl
theorem e188_54 : zE 188 d Q 54 [l0, l1, l2] (zI i :: zR (some r) :: st) G h k ↔ (G.2.1 r = 10 ∧ (0 ≤ i ∧ i < G.2.2.1 r) ∧ zE 188 d Q 55 [l0, l1, l2] (zI (h r i.toNat) :: st) G h k) := E_iaload (by rfl)
theorem e188_55 : zE 188 d Q 55 [l0, l1, l2] (v0 :: zR (some r) :: st) G h k ↔ (zsum st ≤ 8 ∧ G.2.1 r = 9 ∧ zRunD ztb zmt' d 117 [zR (some r), v0] G h (fun v G' h' => zE 188 d Q 58 [l0, l1, l2] (v.toList ++ st) G' h' k)) := E_invV2z (by rfl) (by decide) rfl
theorem e188_58 : zE 188 d Q 58 [l0, l1, l2] st G h k ↔ zE 188 d Q 67 [l0, l1, l2] st G h k := E_goto (by rfl)
theorem e188_61 : zE 188 d Q 61 [some (.inr (.inr w9)), l1, l2] st G h k ↔ zE 188 d Q 62 [some (.inr (.inr w9)), l1, l2] (.inr (.inr w9) :: st) G h k := E_aload_n (by rfl) rfl
theorem e188_62 : zE 188 d Q 62 [l0, l1, l2] st G h k ↔ zE 188 d Q 64 [l0, l1, l2] (zI 6 :: st) G h k := E_bipush (by rfl)
theorem e188_64 : zE 188 d Q 64 [l0, l1, l2] (v0 :: zR (some r) :: st) G h k ↔ (zsum st ≤ 8 ∧ G.2.1 r = 9 ∧ zRunD ztb zmt' d 114 [zR (some r), v0] G h (fun v G' h' => zE 188 d Q 67 [l0, l1, l2] (v.toList ++ st) G' h' k)) := E_invV2z (by rfl) (by decide) rfl
theorem e188_67 : zE 188 d Q 67 [l0, l1, l2] [zI x] G h k ↔ Q (some (zI x)) G h := E_iret (by rfl) rfl
theorem e189_0 : zE 189 d Q 0 [some (.inr (.inr w9)), l1] st G h k ↔ zE 189 d Q 1 [some (.inr (.inr w9)), l1] (.inr (.inr w9) :: st) G h k := E_aload_n (by rfl) rfl
theorem e189_1 : zE 189 d Q 1 [l0, l1] st G h k ↔ zE 189 d Q 2 [l0, l1] (zI 0 :: st) G h k := E_iconst (by rfl)
theorem e189_2 : zE 189 d Q 2 [l0, l1] (zI x :: zR (some r) :: st) G h k ↔ (G.2.1 r = 9 ∧ zE 189 d Q 5 [l0, l1] st G (zu h r 0 x) k) := E_putI (by rfl) rfl
theorem e189_5 : zE 189 d Q 5 [some (.inr (.inr w9)), l1] st G h k ↔ zE 189 d Q 6 [some (.inr (.inr w9)), l1] (.inr (.inr w9) :: st) G h k := E_aload_n (by rfl) rfl
theorem e189_6 : zE 189 d Q 6 [l0, some (zI x)] st G h k ↔ zE 189 d Q 7 [l0, some (zI x)] (zI x :: st) G h k := E_iload_n (by rfl) rfl
theorem e189_7 : zE 189 d Q 7 [l0, l1] (v0 :: zR (some r) :: st) G h k ↔ (zsum st ≤ 8 ∧ G.2.1 r = 9 ∧ zRunD ztb zmt' d 154 [zR (some r), v0] G h (fun v G' h' => zE 189 d Q 10 [l0, l1] (v.toList ++ st) G' h' k)) := E_invV2z (by rfl) (by decide) rfl
theorem e189_10 : zE 189 d Q 10 [l0, l1] (zI x :: st) G h k ↔ ((¬ x = 0 → zE 189 d Q 19 [l0, l1] st G h k) ∧ (¬ (¬ x = 0) → zE 189 d Q 13 [l0, l1] st G h k)) := E_if_ne (by rfl)
theorem e189_13 : zE 189 d Q 13 [some (.inr (.inr w9)), l1] st G h k ↔ zE 189 d Q 14 [some (.inr (.inr w9)), l1] (.inr (.inr w9) :: st) G h k := E_aload_n (by rfl) rfl
theorem e189_14 : zE 189 d Q 14 [l0, l1] st G h k ↔ zE 189 d Q 15 [l0, l1] (zI 1 :: st) G h k := E_iconst (by rfl)
theorem e189_15 : zE 189 d Q 15 [l0, l1] (v0 :: zR (some r) :: st) G h k ↔ (zsum st ≤ 8 ∧ G.2.1 r = 9 ∧ zRunD ztb zmt' d 115 [zR (some r), v0] G h (fun v G' h' => zE 189 d Q 18 [l0, l1] (v.toList ++ st) G' h' k)) := E_invV2z (by rfl) (by decide) rfl
theorem e189_18 : zE 189 d Q 18 [l0, l1] [zL x] G h k ↔ Q (some (zL x)) G h := E_lret (by rfl) rfl
theorem e189_19 : zE 189 d Q 19 [some (.inr (.inr w9)), l1] st G h k ↔ zE 189 d Q 20 [some (.inr (.inr w9)), l1] (.inr (.inr w9) :: st) G h k := E_aload_n (by rfl) rfl
theorem e189_20 : zE 189 d Q 20 [l0, l1] (zR (some r) :: st) G h k ↔ (G.2.1 r = 9 ∧ zE 189 d Q 23 [l0, l1] (zI (h r 47) :: st) G h k) := E_getI (by rfl) (by decide)
theorem e189_23 : zE 189 d Q 23 [l0, l1] (zI x :: st) G h k ↔ ((x = 0 → zE 189 d Q 39 [l0, l1] st G h k) ∧ (¬ (x = 0) → zE 189 d Q 26 [l0, l1] st G h k)) := E_if_eq (by rfl)
theorem e189_26 : zE 189 d Q 26 [some (.inr (.inr w9)), l1] st G h k ↔ zE 189 d Q 27 [some (.inr (.inr w9)), l1] (.inr (.inr w9) :: st) G h k := E_aload_n (by rfl) rfl
theorem e189_27 : zE 189 d Q 27 [some (.inr (.inr w9)), l1] st G h k ↔ zE 189 d Q 28 [some (.inr (.inr w9)), l1] (.inr (.inr w9) :: st) G h k := E_aload_n (by rfl) rfl
theorem e189_28 : zE 189 d Q 28 [l0, l1] (zR (some r) :: st) G h k ↔ (G.2.1 r = 9 ∧ zE 189 d Q 31 [l0, l1] (zR (G.2.2.2 r 50) :: st) G h k) := E_getR (by rfl) rfl
theorem e189_31 : zE 189 d Q 31 [l0, some (zI x)] st G h k ↔ zE 189 d Q 32 [l0, some (zI x)] (zI x :: st) G h k := E_iload_n (by rfl) rfl
theorem e189_32 : zE 189 d Q 32 [l0, l1] (zI i :: zR (some r) :: st) G h k ↔ (G.2.1 r = 11 ∧ (0 ≤ i ∧ i < G.2.2.1 r) ∧ zE 189 d Q 33 [l0, l1] (zL (h r i.toNat) :: st) G h k) := E_laload (by rfl)
theorem e189_33 : zE 189 d Q 33 [l0, l1] (v0 :: zR (some r) :: st) G h k ↔ (zsum st ≤ 8 ∧ G.2.1 r = 9 ∧ zRunD ztb zmt' d 118 [zR (some r), v0] G h (fun v G' h' => zE 189 d Q 36 [l0, l1] (v.toList ++ st) G' h' k)) := E_invV2z (by rfl) (by decide) rfl
theorem e189_36 : zE 189 d Q 36 [l0, l1] st G h k ↔ zE 189 d Q 45 [l0, l1] st G h k := E_goto (by rfl)
theorem e189_39 : zE 189 d Q 39 [some (.inr (.inr w9)), l1] st G h k ↔ zE 189 d Q 40 [some (.inr (.inr w9)), l1] (.inr (.inr w9) :: st) G h k := E_aload_n (by rfl) rfl
theorem e189_40 : zE 189 d Q 40 [l0, l1] st G h k ↔ zE 189 d Q 42 [l0, l1] (zI 6 :: st) G h k := E_bipush (by rfl)
theorem e189_42 : zE 189 d Q 42 [l0, l1] (v0 :: zR (some r) :: st) G h k ↔ (zsum st ≤ 8 ∧ G.2.1 r = 9 ∧ zRunD ztb zmt' d 115 [zR (some r), v0] G h (fun v G' h' => zE 189 d Q 45 [l0, l1] (v.toList ++ st) G' h' k)) := E_invV2z (by rfl) (by decide) rfl
theorem e189_45 : zE 189 d Q 45 [l0, l1] [zL x] G h k ↔ Q (some (zL x)) G h := E_lret (by rfl) rfl
theorem e190_0 : zE 190 d Q 0 [some (.inr (.inr w9)), l1, l2, l3] st G h k ↔ zE 190 d Q 1 [some (.inr (.inr w9)), l1, l2, l3] (.inr (.inr w9) :: st) G h k := E_aload_n (by rfl) rfl
theorem e190_1 : zE 190 d Q 1 [l0, l1, l2, l3] (zR (some r) :: st) G h k ↔ (zsum st ≤ 8 ∧ G.2.1 r = 9 ∧ zRunD ztb zmt' d 157 [zR (some r)] G h (fun v G' h' => zE 190 d Q 4 [l0, l1, l2, l3] (v.toList ++ st) G' h' k)) := E_invV2z (by rfl) (by decide) rfl
theorem e190_4 : zE 190 d Q 4 [some (.inr (.inr w9)), l1, l2, l3] st G h k ↔ zE 190 d Q 5 [some (.inr (.inr w9)), l1, l2, l3] (.inr (.inr w9) :: st) G h k := E_aload_n (by rfl) rfl
theorem e190_5 : zE 190 d Q 5 [l0, l1, l2, l3] (zR (some r) :: st) G h k ↔ (G.2.1 r = 9 ∧ zE 190 d Q 8 [l0, l1, l2, l3] (zR (G.2.2.2 r 23) :: st) G h k) := E_getR (by rfl) rfl
theorem e190_8 : zE 190 d Q 8 [l0, some (zI x), l2, l3] st G h k ↔ zE 190 d Q 9 [l0, some (zI x), l2, l3] (zI x :: st) G h k := E_iload_n (by rfl) rfl
theorem e190_9 : zE 190 d Q 9 [some (.inr (.inr w9)), l1, l2, l3] st G h k ↔ zE 190 d Q 10 [some (.inr (.inr w9)), l1, l2, l3] (.inr (.inr w9) :: st) G h k := E_aload_n (by rfl) rfl
theorem e190_10 : zE 190 d Q 10 [l0, l1, l2, l3] (zR (some r) :: st) G h k ↔ (G.2.1 r = 9 ∧ zE 190 d Q 13 [l0, l1, l2, l3] (zR (G.2.2.2 r 3) :: st) G h k) := E_getR (by rfl) rfl
theorem e190_13 : zE 190 d Q 13 [l0, l1, l2, l3] (zR (some r) :: st) G h k ↔ (G.2.1 r = 8 ∧ zE 190 d Q 16 [l0, l1, l2, l3] (zR (G.2.2.2 r 9) :: st) G h k) := E_getR (by rfl) rfl
theorem e190_16 : zE 190 d Q 16 [l0, l1, some (zI x), l3] st G h k ↔ zE 190 d Q 17 [l0, l1, some (zI x), l3] (zI x :: st) G h k := E_iload_n (by rfl) rfl
theorem e190_17 : zE 190 d Q 17 [l0, l1, l2, l3] (zI i :: zR (some r) :: st) G h k ↔ (G.2.1 r = 10 ∧ (0 ≤ i ∧ i < G.2.2.1 r) ∧ zE 190 d Q 18 [l0, l1, l2, l3] (zI (h r i.toNat) :: st) G h k) := E_iaload (by rfl)
theorem e190_18 : zE 190 d Q 18 [l0, l1, l2, l3] (zI x :: zI i :: zR (some r) :: st) G h k ↔ (G.2.1 r = 10 ∧ (0 ≤ i ∧ i < G.2.2.1 r) ∧ zE 190 d Q 19 [l0, l1, l2, l3] st G (zu h r i.toNat x) k) := E_iastore (by rfl)
theorem e190_19 : zE 190 d Q 19 [some (.inr (.inr w9)), l1, l2, l3] st G h k ↔ zE 190 d Q 20 [some (.inr (.inr w9)), l1, l2, l3] (.inr (.inr w9) :: st) G h k := E_aload_n (by rfl) rfl
theorem e190_20 : zE 190 d Q 20 [l0, l1, l2, l3] (zR (some r) :: st) G h k ↔ (G.2.1 r = 9 ∧ zE 190 d Q 23 [l0, l1, l2, l3] (zR (G.2.2.2 r 24) :: st) G h k) := E_getR (by rfl) rfl
theorem e190_23 : zE 190 d Q 23 [l0, some (zI x), l2, l3] st G h k ↔ zE 190 d Q 24 [l0, some (zI x), l2, l3] (zI x :: st) G h k := E_iload_n (by rfl) rfl
theorem e190_24 : zE 190 d Q 24 [some (.inr (.inr w9)), l1, l2, l3] st G h k ↔ zE 190 d Q 25 [some (.inr (.inr w9)), l1, l2, l3] (.inr (.inr w9) :: st) G h k := E_aload_n (by rfl) rfl
theorem e190_25 : zE 190 d Q 25 [l0, l1, l2, l3] (zR (some r) :: st) G h k ↔ (G.2.1 r = 9 ∧ zE 190 d Q 28 [l0, l1, l2, l3] (zR (G.2.2.2 r 3) :: st) G h k) := E_getR (by rfl) rfl
theorem e190_28 : zE 190 d Q 28 [l0, l1, l2, l3] (zR (some r) :: st) G h k ↔ (G.2.1 r = 8 ∧ zE 190 d Q 31 [l0, l1, l2, l3] (zR (G.2.2.2 r 9) :: st) G h k) := E_getR (by rfl) rfl
theorem e190_31 : zE 190 d Q 31 [l0, l1, l2, some (zI x)] st G h k ↔ zE 190 d Q 32 [l0, l1, l2, some (zI x)] (zI x :: st) G h k := E_iload_n (by rfl) rfl
theorem e190_32 : zE 190 d Q 32 [l0, l1, l2, l3] (zI i :: zR (some r) :: st) G h k ↔ (G.2.1 r = 10 ∧ (0 ≤ i ∧ i < G.2.2.1 r) ∧ zE 190 d Q 33 [l0, l1, l2, l3] (zI (h r i.toNat) :: st) G h k) := E_iaload (by rfl)
theorem e190_33 : zE 190 d Q 33 [l0, l1, l2, l3] (zI x :: zI i :: zR (some r) :: st) G h k ↔ (G.2.1 r = 10 ∧ (0 ≤ i ∧ i < G.2.2.1 r) ∧ zE 190 d Q 34 [l0, l1, l2, l3] st G (zu h r i.toNat x) k) := E_iastore (by rfl)
theorem e190_34 : zE 190 d Q 34 [some (.inr (.inr w9)), l1, l2, l3] st G h k ↔ zE 190 d Q 35 [some (.inr (.inr w9)), l1, l2, l3] (.inr (.inr w9) :: st) G h k := E_aload_n (by rfl) rfl
theorem e190_35 : zE 190 d Q 35 [some (.inr (.inr w9)), l1, l2, l3] st G h k ↔ zE 190 d Q 36 [some (.inr (.inr w9)), l1, l2, l3] (.inr (.inr w9) :: st) G h k := E_aload_n (by rfl) rfl
theorem e190_36 : zE 190 d Q 36 [l0, l1, l2, l3] (zR (some r) :: st) G h k ↔ (G.2.1 r = 9 ∧ zE 190 d Q 39 [l0, l1, l2, l3] (zR (G.2.2.2 r 32) :: st) G h k) := E_getR (by rfl) rfl
theorem e190_39 : zE 190 d Q 39 [l0, l1, l2, l3] st G h k ↔ zE 190 d Q 40 [l0, l1, l2, l3] (zI 0 :: st) G h k := E_iconst (by rfl)
theorem e190_40 : zE 190 d Q 40 [l0, l1, l2, l3] st G h k ↔ zE 190 d Q 42 [l0, l1, l2, l3] (zI 12 :: st) G h k := E_bipush (by rfl)
theorem e190_42 : zE 190 d Q 42 [l0, l1, l2, l3] (v2 :: v1 :: v0 :: zR (some r) :: st) G h k ↔ (zsum st ≤ 8 ∧ G.2.1 r = 9 ∧ zRunD ztb zmt' d 152 [zR (some r), v0, v1, v2] G h (fun v G' h' => zE 190 d Q 45 [l0, l1, l2, l3] (v.toList ++ st) G' h' k)) := E_invV2z (by rfl) (by decide) rfl
theorem e190_45 : zE 190 d Q 45 [some (.inr (.inr w9)), l1, l2, l3] st G h k ↔ zE 190 d Q 46 [some (.inr (.inr w9)), l1, l2, l3] (.inr (.inr w9) :: st) G h k := E_aload_n (by rfl) rfl
theorem e190_46 : zE 190 d Q 46 [l0, l1, l2, l3] (zR (some r) :: st) G h k ↔ (G.2.1 r = 9 ∧ zE 190 d Q 49 [l0, l1, l2, l3] (zR (G.2.2.2 r 25) :: st) G h k) := E_getR (by rfl) rfl
theorem e190_49 : zE 190 d Q 49 [l0, some (zI x), l2, l3] st G h k ↔ zE 190 d Q 50 [l0, some (zI x), l2, l3] (zI x :: st) G h k := E_iload_n (by rfl) rfl
theorem e190_50 : zE 190 d Q 50 [l0, l1, l2, l3] (zI i :: zR (some r) :: st) G h k ↔ (G.2.1 r = 10 ∧ (0 ≤ i ∧ i < G.2.2.1 r) ∧ zE 190 d Q 51 [l0, l1, l2, l3] (zI (h r i.toNat) :: st) G h k) := E_iaload (by rfl)
theorem e190_51 : zE 190 d Q 51 [l0, l1, l2, l3] [zI x] G h k ↔ Q (some (zI x)) G h := E_iret (by rfl) rfl
theorem e191_0 : zE 191 d Q 0 [some (.inr (.inr w9)), l1, l2, l3, l4, l5] st G h k ↔ zE 191 d Q 1 [some (.inr (.inr w9)), l1, l2, l3, l4, l5] (.inr (.inr w9) :: st) G h k := E_aload_n (by rfl) rfl
theorem e191_1 : zE 191 d Q 1 [l0, l1, l2, l3, l4, l5] st G h k ↔ zE 191 d Q 2 [l0, l1, l2, l3, l4, l5] (zI 0 :: st) G h k := E_iconst (by rfl)
theorem e191_2 : zE 191 d Q 2 [l0, l1, l2, l3, l4, l5] (v0 :: zR (some r) :: st) G h k ↔ (zsum st ≤ 8 ∧ G.2.1 r = 9 ∧ zRunD ztb zmt' d 143 [zR (some r), v0] G h (fun v G' h' => zE 191 d Q 5 [l0, l1, l2, l3, l4, l5] (v.toList ++ st) G' h' k)) := E_invV2z (by rfl) (by decide) rfl
theorem e191_5 : zE 191 d Q 5 [some (.inr (.inr w9)), l1, l2, l3, l4, l5] st G h k ↔ zE 191 d Q 6 [some (.inr (.inr w9)), l1, l2, l3, l4, l5] (.inr (.inr w9) :: st) G h k := E_aload_n (by rfl) rfl
theorem e191_6 : zE 191 d Q 6 [l0, l1, l2, l3, l4, l5] (zR (some r) :: st) G h k ↔ (zsum st ≤ 8 ∧ G.2.1 r = 9 ∧ zRunD ztb zmt' d 153 [zR (some r)] G h (fun v G' h' => zE 191 d Q 9 [l0, l1, l2, l3, l4, l5] (v.toList ++ st) G' h' k)) := E_invV2z (by rfl) (by decide) rfl
theorem e191_9 : zE 191 d Q 9 [l0, l1, l2, l3, l4, l5] st G h k ↔ zE 191 d Q 10 [l0, l1, l2, l3, l4, l5] (zI 0 :: st) G h k := E_iconst (by rfl)
theorem e191_10 : zE 191 d Q 10 [l0, l1, l2, l3, l4, l5] (zI x :: st) G h k ↔ zE 191 d Q 11 [l0, (zclr l1), some (zI x), l3, l4, l5] st G h k := E_istore_n (by rfl) (by decide)
theorem e191_11 : zE 191 d Q 11 [some (.inr (.inr w9)), l1, l2, l3, l4, l5] st G h k ↔ zE 191 d Q 12 [some (.inr (.inr w9)), l1, l2, l3, l4, l5] (.inr (.inr w9) :: st) G h k := E_aload_n (by rfl) rfl
theorem e191_12 : zE 191 d Q 12 [l0, some (zI x), l2, l3, l4, l5] st G h k ↔ zE 191 d Q 13 [l0, some (zI x), l2, l3, l4, l5] (zI x :: st) G h k := E_iload_n (by rfl) rfl
theorem e191_13 : zE 191 d Q 13 [some (.inr (.inr w9)), l1, l2, l3, l4, l5] st G h k ↔ zE 191 d Q 14 [some (.inr (.inr w9)), l1, l2, l3, l4, l5] (.inr (.inr w9) :: st) G h k := E_aload_n (by rfl) rfl
theorem e191_14 : zE 191 d Q 14 [l0, l1, l2, l3, l4, l5] st G h k ↔ zE 191 d Q 15 [l0, l1, l2, l3, l4, l5] (zI 0 :: st) G h k := E_iconst (by rfl)
theorem e191_15 : zE 191 d Q 15 [l0, l1, l2, l3, l4, l5] (v0 :: zR (some r) :: st) G h k ↔ (zsum st ≤ 8 ∧ G.2.1 r = 9 ∧ zRunD ztb zmt' d 174 [zR (some r), v0] G h (fun v G' h' => zE 191 d Q 18 [l0, l1, l2, l3, l4, l5] (v.toList ++ st) G' h' k)) := E_invV2z (by rfl) (by decide) rfl
theorem e191_18 : zE 191 d Q 18 [some (.inr (.inr w9)), l1, l2, l3, l4, l5] st G h k ↔ zE 191 d Q 19 [some (.inr (.inr w9)), l1, l2, l3, l4, l5] (.inr (.inr w9) :: st) G h k := E_aload_n (by rfl) rfl
theorem e191_19 : zE 191 d Q 19 [l0, l1, l2, l3, l4, l5] st G h k ↔ zE 191 d Q 20 [l0, l1, l2, l3, l4, l5] (zI 0 :: st) G h k := E_iconst (by rfl)
theorem e191_20 : zE 191 d Q 20 [l0, l1, l2, l3, l4, l5] (v0 :: zR (some r) :: st) G h k ↔ (zsum st ≤ 8 ∧ G.2.1 r = 9 ∧ zRunD ztb zmt' d 175 [zR (some r), v0] G h (fun v G' h' => zE 191 d Q 23 [l0, l1, l2, l3, l4, l5] (v.toList ++ st) G' h' k)) := E_invV2z (by rfl) (by decide) rfl
theorem e191_23 : zE 191 d Q 23 [l0, l1, l2, l3, l4, l5] (v2 :: v1 :: v0 :: zR (some r) :: st) G h k ↔ (zsum st ≤ 8 ∧ G.2.1 r = 9 ∧ zRunD ztb zmt' d 190 [zR (some r), v0, v1, v2] G h (fun v G' h' => zE 191 d Q 26 [l0, l1, l2, l3, l4, l5] (v.toList ++ st) G' h' k)) := E_invV2z (by rfl) (by decide) rfl
theorem e191_26 : zE 191 d Q 26 [l0, l1, l2, l3, l4, l5] (zI x :: st) G h k ↔ zE 191 d Q 27 [l0, l1, (zclr l2), some (zI x), l4, l5] st G h k := E_istore_n (by rfl) (by decide)
theorem e191_27 : zE 191 d Q 27 [l0, l1, l2, l3, l4, l5] st G h k ↔ zE 191 d Q 28 [l0, l1, l2, l3, l4, l5] (zI 1 :: st) G h k := E_iconst (by rfl)
theorem e191_28 : zE 191 d Q 28 [l0, l1, l2, l3, l4, l5] (zI x :: st) G h k ↔ zE 191 d Q 30 [l0, l1, l2, (zclr l3), some (zI x), l5] st G h k := E_istore (by rfl) (by decide)
theorem e191_30 : zE 191 d Q 30 [l0, l1, l2, l3, some (zI x), l5] st G h k ↔ zE 191 d Q 32 [l0, l1, l2, l3, some (zI x), l5] (zI x :: st) G h k := E_iload (by rfl) rfl
theorem e191_32 : zE 191 d Q 32 [some (.inr (.inr w9)), l1, l2, l3, l4, l5] st G h k ↔ zE 191 d Q 33 [some (.inr (.inr w9)), l1, l2, l3, l4, l5] (.inr (.inr w9) :: st) G h k := E_aload_n (by rfl) rfl
theorem e191_33 : zE 191 d Q 33 [l0, some (zI x), l2, l3, l4, l5] st G h k ↔ zE 191 d Q 34 [l0, some (zI x), l2, l3, l4, l5] (zI x :: st) G h k := E_iload_n (by rfl) rfl
theorem e191_34 : zE 191 d Q 34 [l0, l1, l2, l3, l4, l5] (v0 :: zR (some r) :: st) G h k ↔ (zsum st ≤ 8 ∧ G.2.1 r = 9 ∧ zRunD ztb zmt' d 169 [zR (some r), v0] G h (fun v G' h' => zE 191 d Q 37 [l0, l1, l2, l3, l4, l5] (v.toList ++ st) G' h' k)) := E_invV2z (by rfl) (by decide) rfl
theorem e191_37 : zE 191 d Q 37 [l0, l1, l2, l3, l4, l5] (zI y :: zI x :: st) G h k ↔ ((y ≤ x → zE 191 d Q 80 [l0, l1, l2, l3, l4, l5] st G h k) ∧ (¬ (y ≤ x) → zE 191 d Q 40 [l0, l1, l2, l3, l4, l5] st G h k)) := E_icmp_ge (by rfl)
theorem e191_40 : zE 191 d Q 40 [some (.inr (.inr w9)), l1, l2, l3, l4, l5] st G h k ↔ zE 191 d Q 41 [some (.inr (.inr w9)), l1, l2, l3, l4, l5] (.inr (.inr w9) :: st) G h k := E_aload_n (by rfl) rfl
theorem e191_41 : zE 191 d Q 41 [l0, some (zI x), l2, l3, l4, l5] st G h k ↔ zE 191 d Q 42 [l0, some (zI x), l2, l3, l4, l5] (zI x :: st) G h k := E_iload_n (by rfl) rfl
theorem e191_42 : zE 191 d Q 42 [some (.inr (.inr w9)), l1, l2, l3, l4, l5] st G h k ↔ zE 191 d Q 43 [some (.inr (.inr w9)), l1, l2, l3, l4, l5] (.inr (.inr w9) :: st) G h k := E_aload_n (by rfl) rfl
theorem e191_43 : zE 191 d Q 43 [l0, l1, l2, l3, some (zI x), l5] st G h k ↔ zE 191 d Q 45 [l0, l1, l2, l3, some (zI x), l5] (zI x :: st) G h k := E_iload (by rfl) rfl
theorem e191_45 : zE 191 d Q 45 [l0, l1, l2, l3, l4, l5] (v0 :: zR (some r) :: st) G h k ↔ (zsum st ≤ 8 ∧ G.2.1 r = 9 ∧ zRunD ztb zmt' d 174 [zR (some r), v0] G h (fun v G' h' => zE 191 d Q 48 [l0, l1, l2, l3, l4, l5] (v.toList ++ st) G' h' k)) := E_invV2z (by rfl) (by decide) rfl
theorem e191_48 : zE 191 d Q 48 [some (.inr (.inr w9)), l1, l2, l3, l4, l5] st G h k ↔ zE 191 d Q 49 [some (.inr (.inr w9)), l1, l2, l3, l4, l5] (.inr (.inr w9) :: st) G h k := E_aload_n (by rfl) rfl
theorem e191_49 : zE 191 d Q 49 [l0, l1, l2, l3, some (zI x), l5] st G h k ↔ zE 191 d Q 51 [l0, l1, l2, l3, some (zI x), l5] (zI x :: st) G h k := E_iload (by rfl) rfl
theorem e191_51 : zE 191 d Q 51 [l0, l1, l2, l3, l4, l5] (v0 :: zR (some r) :: st) G h k ↔ (zsum st ≤ 8 ∧ G.2.1 r = 9 ∧ zRunD ztb zmt' d 175 [zR (some r), v0] G h (fun v G' h' => zE 191 d Q 54 [l0, l1, l2, l3, l4, l5] (v.toList ++ st) G' h' k)) := E_invV2z (by rfl) (by decide) rfl
theorem e191_54 : zE 191 d Q 54 [l0, l1, l2, l3, l4, l5] (v2 :: v1 :: v0 :: zR (some r) :: st) G h k ↔ (zsum st ≤ 8 ∧ G.2.1 r = 9 ∧ zRunD ztb zmt' d 190 [zR (some r), v0, v1, v2] G h (fun v G' h' => zE 191 d Q 57 [l0, l1, l2, l3, l4, l5] (v.toList ++ st) G' h' k)) := E_invV2z (by rfl) (by decide) rfl
theorem e191_57 : zE 191 d Q 57 [l0, l1, l2, l3, l4, l5] (zI x :: st) G h k ↔ zE 191 d Q 59 [l0, l1, l2, l3, (zclr l4), some (zI x)] st G h k := E_istore (by rfl) (by decide)
theorem e191_59 : zE 191 d Q 59 [l0, l1, l2, l3, l4, some (zI x)] st G h k ↔ zE 191 d Q 61 [l0, l1, l2, l3, l4, some (zI x)] (zI x :: st) G h k := E_iload (by rfl) rfl
theorem e191_61 : zE 191 d Q 61 [l0, l1, l2, some (zI x), l4, l5] st G h k ↔ zE 191 d Q 62 [l0, l1, l2, some (zI x), l4, l5] (zI x :: st) G h k := E_iload_n (by rfl) rfl
theorem e191_62 : zE 191 d Q 62 [l0, l1, l2, l3, l4, l5] (zI y :: zI x :: st) G h k ↔ ((y < x → zE 191 d Q 68 [l0, l1, l2, l3, l4, l5] st G h k) ∧ (¬ (y < x) → zE 191 d Q 65 [l0, l1, l2, l3, l4, l5] st G h k)) := E_icmp_gt (by rfl)
theorem e191_65 : zE 191 d Q 65 [l0, l1, l2, l3, l4, l5] st G h k ↔ zE 191 d Q 74 [l0, l1, l2, l3, l4, l5] st G h k := E_goto (by rfl)
theorem e191_68 : zE 191 d Q 68 [l0, l1, l2, l3, l4, some (zI x)] st G h k ↔ zE 191 d Q 70 [l0, l1, l2, l3, l4, some (zI x)] (zI x :: st) G h k := E_iload (by rfl) rfl
theorem e191_70 : zE 191 d Q 70 [l0, l1, l2, l3, l4, l5] (zI x :: st) G h k ↔ zE 191 d Q 71 [l0, l1, (zclr l2), some (zI x), l4, l5] st G h k := E_istore_n (by rfl) (by decide)
theorem e191_71 : zE 191 d Q 71 [l0, l1, l2, l3, some (zI x), l5] st G h k ↔ zE 191 d Q 73 [l0, l1, l2, l3, some (zI x), l5] (zI x :: st) G h k := E_iload (by rfl) rfl
theorem e191_73 : zE 191 d Q 73 [l0, l1, l2, l3, l4, l5] (zI x :: st) G h k ↔ zE 191 d Q 74 [l0, (zclr l1), some (zI x), l3, l4, l5] st G h k := E_istore_n (by rfl) (by decide)
theorem e191_74 : zE 191 d Q 74 [l0, l1, l2, l3, some (zI x), l5] st G h k ↔ zE 191 d Q 77 [l0, l1, l2, (zclr l3), some (zI (wr (x + 1))), l5] st G h k := E_iinc (by rfl) rfl
theorem e191_77 : zE 191 d Q 77 [l0, l1, l2, l3, l4, l5] st G h k ↔ zE 191 d Q 30 [l0, l1, l2, l3, l4, l5] st G h k := E_goto (by rfl)
theorem e191_80 : zE 191 d Q 80 [l0, l1, some (zI x), l3, l4, l5] st G h k ↔ zE 191 d Q 81 [l0, l1, some (zI x), l3, l4, l5] (zI x :: st) G h k := E_iload_n (by rfl) rfl
theorem e191_81 : zE 191 d Q 81 [l0, l1, l2, l3, l4, l5] [zI x] G h k ↔ Q (some (zI x)) G h := E_iret (by rfl) rfl
theorem e192_0 : zE 192 d Q 0 [some (.inr (.inr w9)), l1, l2, l3] st G h k ↔ zE 192 d Q 1 [some (.inr (.inr w9)), l1, l2, l3] (.inr (.inr w9) :: st) G h k := E_aload_n (by rfl) rfl
theorem e192_1 : zE 192 d Q 1 [l0, l1, l2, l3] st G h k ↔ zE 192 d Q 2 [l0, l1, l2, l3] (zI 0 :: st) G h k := E_iconst (by rfl)
theorem e192_2 : zE 192 d Q 2 [l0, l1, l2, l3] (zI x :: zR (some r) :: st) G h k ↔ (G.2.1 r = 9 ∧ zE 192 d Q 5 [l0, l1, l2, l3] st G (zu h r 0 x) k) := E_putI (by rfl) rfl
theorem e192_5 : zE 192 d Q 5 [some (.inr (.inr w9)), l1, l2, l3] st G h k ↔ zE 192 d Q 6 [some (.inr (.inr w9)), l1, l2, l3] (.inr (.inr w9) :: st) G h k := E_aload_n (by rfl) rfl
theorem e192_6 : zE 192 d Q 6 [l0, some (zI x), l2, l3] st G h k ↔ zE 192 d Q 7 [l0, some (zI x), l2, l3] (zI x :: st) G h k := E_iload_n (by rfl) rfl
theorem e192_7 : zE 192 d Q 7 [l0, l1, l2, l3] (v0 :: zR (some r) :: st) G h k ↔ (zsum st ≤ 8 ∧ G.2.1 r = 9 ∧ zRunD ztb zmt' d 154 [zR (some r), v0] G h (fun v G' h' => zE 192 d Q 10 [l0, l1, l2, l3] (v.toList ++ st) G' h' k)) := E_invV2z (by rfl) (by decide) rfl
theorem e192_10 : zE 192 d Q 10 [l0, l1, l2, l3] (zI x :: st) G h k ↔ ((¬ x = 0 → zE 192 d Q 19 [l0, l1, l2, l3] st G h k) ∧ (¬ (¬ x = 0) → zE 192 d Q 13 [l0, l1, l2, l3] st G h k)) := E_if_ne (by rfl)
theorem e192_13 : zE 192 d Q 13 [some (.inr (.inr w9)), l1, l2, l3] st G h k ↔ zE 192 d Q 14 [some (.inr (.inr w9)), l1, l2, l3] (.inr (.inr w9) :: st) G h k := E_aload_n (by rfl) rfl
theorem e192_14 : zE 192 d Q 14 [l0, l1, l2, l3] st G h k ↔ zE 192 d Q 15 [l0, l1, l2, l3] (zI 1 :: st) G h k := E_iconst (by rfl)
theorem e192_15 : zE 192 d Q 15 [l0, l1, l2, l3] (v0 :: zR (some r) :: st) G h k ↔ (zsum st ≤ 8 ∧ G.2.1 r = 9 ∧ zRunD ztb zmt' d 115 [zR (some r), v0] G h (fun v G' h' => zE 192 d Q 18 [l0, l1, l2, l3] (v.toList ++ st) G' h' k)) := E_invV2z (by rfl) (by decide) rfl
theorem e192_18 : zE 192 d Q 18 [l0, l1, l2, l3] [zL x] G h k ↔ Q (some (zL x)) G h := E_lret (by rfl) rfl
theorem e192_19 : zE 192 d Q 19 [some (.inr (.inr w9)), l1, l2, l3] st G h k ↔ zE 192 d Q 20 [some (.inr (.inr w9)), l1, l2, l3] (.inr (.inr w9) :: st) G h k := E_aload_n (by rfl) rfl
theorem e192_20 : zE 192 d Q 20 [l0, some (zI x), l2, l3] st G h k ↔ zE 192 d Q 21 [l0, some (zI x), l2, l3] (zI x :: st) G h k := E_iload_n (by rfl) rfl
theorem e192_21 : zE 192 d Q 21 [l0, l1, l2, l3] (v0 :: zR (some r) :: st) G h k ↔ (zsum st ≤ 8 ∧ G.2.1 r = 9 ∧ zRunD ztb zmt' d 191 [zR (some r), v0] G h (fun v G' h' => zE 192 d Q 24 [l0, l1, l2, l3] (v.toList ++ st) G' h' k)) := E_invV2z (by rfl) (by decide) rfl
theorem e192_24 : zE 192 d Q 24 [l0, l1, l2, l3] (zI x :: st) G h k ↔ zE 192 d Q 25 [l0, (zclr l1), some (zI x), l3] st G h k := E_istore_n (by rfl) (by decide)
theorem e192_25 : zE 192 d Q 25 [some (.inr (.inr w9)), l1, l2, l3] st G h k ↔ zE 192 d Q 26 [some (.inr (.inr w9)), l1, l2, l3] (.inr (.inr w9) :: st) G h k := E_aload_n (by rfl) rfl
theorem e192_26 : zE 192 d Q 26 [l0, some (zI x), l2, l3] st G h k ↔ zE 192 d Q 27 [l0, some (zI x), l2, l3] (zI x :: st) G h k := E_iload_n (by rfl) rfl
theorem e192_27 : zE 192 d Q 27 [some (.inr (.inr w9)), l1, l2, l3] st G h k ↔ zE 192 d Q 28 [some (.inr (.inr w9)), l1, l2, l3] (.inr (.inr w9) :: st) G h k := E_aload_n (by rfl) rfl
theorem e192_28 : zE 192 d Q 28 [l0, l1, some (zI x), l3] st G h k ↔ zE 192 d Q 29 [l0, l1, some (zI x), l3] (zI x :: st) G h k := E_iload_n (by rfl) rfl
theorem e192_29 : zE 192 d Q 29 [l0, l1, l2, l3] (v0 :: zR (some r) :: st) G h k ↔ (zsum st ≤ 8 ∧ G.2.1 r = 9 ∧ zRunD ztb zmt' d 174 [zR (some r), v0] G h (fun v G' h' => zE 192 d Q 32 [l0, l1, l2, l3] (v.toList ++ st) G' h' k)) := E_invV2z (by rfl) (by decide) rfl
theorem e192_32 : zE 192 d Q 32 [some (.inr (.inr w9)), l1, l2, l3] st G h k ↔ zE 192 d Q 33 [some (.inr (.inr w9)), l1, l2, l3] (.inr (.inr w9) :: st) G h k := E_aload_n (by rfl) rfl
theorem e192_33 : zE 192 d Q 33 [l0, l1, some (zI x), l3] st G h k ↔ zE 192 d Q 34 [l0, l1, some (zI x), l3] (zI x :: st) G h k := E_iload_n (by rfl) rfl
theorem e192_34 : zE 192 d Q 34 [l0, l1, l2, l3] (v0 :: zR (some r) :: st) G h k ↔ (zsum st ≤ 8 ∧ G.2.1 r = 9 ∧ zRunD ztb zmt' d 175 [zR (some r), v0] G h (fun v G' h' => zE 192 d Q 37 [l0, l1, l2, l3] (v.toList ++ st) G' h' k)) := E_invV2z (by rfl) (by decide) rfl
theorem e192_37 : zE 192 d Q 37 [l0, l1, l2, l3] (v2 :: v1 :: v0 :: zR (some r) :: st) G h k ↔ (zsum st ≤ 8 ∧ G.2.1 r = 9 ∧ zRunD ztb zmt' d 190 [zR (some r), v0, v1, v2] G h (fun v G' h' => zE 192 d Q 40 [l0, l1, l2, l3] (v.toList ++ st) G' h' k)) := E_invV2z (by rfl) (by decide) rfl
theorem e192_40 : zE 192 d Q 40 [l0, l1, l2, l3] (zI x :: st) G h k ↔ zE 192 d Q 41 [l0, l1, (zclr l2), some (zI x)] st G h k := E_istore_n (by rfl) (by decide)
theorem e192_41 : zE 192 d Q 41 [some (.inr (.inr w9)), l1, l2, l3] st G h k ↔ zE 192 d Q 42 [some (.inr (.inr w9)), l1, l2, l3] (.inr (.inr w9) :: st) G h k := E_aload_n (by rfl) rfl
theorem e192_42 : zE 192 d Q 42 [l0, l1, l2, some (zI x)] st G h k ↔ zE 192 d Q 43 [l0, l1, l2, some (zI x)] (zI x :: st) G h k := E_iload_n (by rfl) rfl
theorem e192_43 : zE 192 d Q 43 [l0, l1, l2, l3] (zI x :: st) G h k ↔ zE 192 d Q 44 [l0, l1, l2, l3] (zL x :: st) G h k := E_i2l (by rfl)
theorem e192_44 : zE 192 d Q 44 [some (.inr (.inr w9)), l1, l2, l3] st G h k ↔ zE 192 d Q 45 [some (.inr (.inr w9)), l1, l2, l3] (.inr (.inr w9) :: st) G h k := E_aload_n (by rfl) rfl
theorem e192_45 : zE 192 d Q 45 [l0, some (zI x), l2, l3] st G h k ↔ zE 192 d Q 46 [l0, some (zI x), l2, l3] (zI x :: st) G h k := E_iload_n (by rfl) rfl
theorem e192_46 : zE 192 d Q 46 [some (.inr (.inr w9)), l1, l2, l3] st G h k ↔ zE 192 d Q 47 [some (.inr (.inr w9)), l1, l2, l3] (.inr (.inr w9) :: st) G h k := E_aload_n (by rfl) rfl
theorem e192_47 : zE 192 d Q 47 [l0, l1, l2, l3] (zR (some r) :: st) G h k ↔ (G.2.1 r = 9 ∧ zE 192 d Q 50 [l0, l1, l2, l3] (zR (G.2.2.2 r 33) :: st) G h k) := E_getR (by rfl) rfl
theorem e192_50 : zE 192 d Q 50 [l0, some (zI x), l2, l3] st G h k ↔ zE 192 d Q 51 [l0, some (zI x), l2, l3] (zI x :: st) G h k := E_iload_n (by rfl) rfl
theorem e192_51 : zE 192 d Q 51 [l0, l1, l2, l3] (zI i :: zR (some r) :: st) G h k ↔ (G.2.1 r = 10 ∧ (0 ≤ i ∧ i < G.2.2.1 r) ∧ zE 192 d Q 52 [l0, l1, l2, l3] (zI (h r i.toNat) :: st) G h k) := E_iaload (by rfl)
theorem e192_52 : zE 192 d Q 52 [some (.inr (.inr w9)), l1, l2, l3] st G h k ↔ zE 192 d Q 53 [some (.inr (.inr w9)), l1, l2, l3] (.inr (.inr w9) :: st) G h k := E_aload_n (by rfl) rfl
theorem e192_53 : zE 192 d Q 53 [l0, l1, l2, l3] (zR (some r) :: st) G h k ↔ (G.2.1 r = 9 ∧ zE 192 d Q 56 [l0, l1, l2, l3] (zR (G.2.2.2 r 34) :: st) G h k) := E_getR (by rfl) rfl
theorem e192_56 : zE 192 d Q 56 [l0, some (zI x), l2, l3] st G h k ↔ zE 192 d Q 57 [l0, some (zI x), l2, l3] (zI x :: st) G h k := E_iload_n (by rfl) rfl
theorem e192_57 : zE 192 d Q 57 [l0, l1, l2, l3] (zI i :: zR (some r) :: st) G h k ↔ (G.2.1 r = 10 ∧ (0 ≤ i ∧ i < G.2.2.1 r) ∧ zE 192 d Q 58 [l0, l1, l2, l3] (zI (h r i.toNat) :: st) G h k) := E_iaload (by rfl)
theorem e192_58 : zE 192 d Q 58 [l0, l1, l2, l3] (v2 :: v1 :: v0 :: zR (some r) :: st) G h k ↔ (zsum st ≤ 8 ∧ G.2.1 r = 9 ∧ zRunD ztb zmt' d 190 [zR (some r), v0, v1, v2] G h (fun v G' h' => zE 192 d Q 61 [l0, l1, l2, l3] (v.toList ++ st) G' h' k)) := E_invV2z (by rfl) (by decide) rfl
theorem e192_61 : zE 192 d Q 61 [l0, l1, l2, l3] (zI x :: st) G h k ↔ zE 192 d Q 62 [l0, l1, l2, l3] (zL x :: st) G h k := E_i2l (by rfl)
theorem e192_62 : zE 192 d Q 62 [l0, l1, l2, l3] (zL y :: zL x :: st) G h k ↔ zE 192 d Q 63 [l0, l1, l2, l3] (zL (wl (x - y)) :: st) G h k := E_lsub (by rfl)
theorem e192_63 : zE 192 d Q 63 [l0, l1, l2, l3] (v0 :: zR (some r) :: st) G h k ↔ (zsum st ≤ 8 ∧ G.2.1 r = 9 ∧ zRunD ztb zmt' d 118 [zR (some r), v0] G h (fun v G' h' => zE 192 d Q 66 [l0, l1, l2, l3] (v.toList ++ st) G' h' k)) := E_invV2z (by rfl) (by decide) rfl
theorem e192_66 : zE 192 d Q 66 [l0, l1, l2, l3] [zL x] G h k ↔ Q (some (zL x)) G h := E_lret (by rfl) rfl
theorem e193_0 : zE 193 d Q 0 [some (.inr (.inr w9)), l1, l2] st G h k ↔ zE 193 d Q 1 [some (.inr (.inr w9)), l1, l2] (.inr (.inr w9) :: st) G h k := E_aload_n (by rfl) rfl
theorem e193_1 : zE 193 d Q 1 [l0, l1, l2] st G h k ↔ zE 193 d Q 2 [l0, l1, l2] (zI 0 :: st) G h k := E_iconst (by rfl)
theorem e193_2 : zE 193 d Q 2 [l0, l1, l2] (zI x :: zR (some r) :: st) G h k ↔ (G.2.1 r = 9 ∧ zE 193 d Q 5 [l0, l1, l2] st G (zu h r 0 x) k) := E_putI (by rfl) rfl
theorem e193_5 : zE 193 d Q 5 [some (.inr (.inr w9)), l1, l2] st G h k ↔ zE 193 d Q 6 [some (.inr (.inr w9)), l1, l2] (.inr (.inr w9) :: st) G h k := E_aload_n (by rfl) rfl
theorem e193_6 : zE 193 d Q 6 [l0, some (zI x), l2] st G h k ↔ zE 193 d Q 7 [l0, some (zI x), l2] (zI x :: st) G h k := E_iload_n (by rfl) rfl
theorem e193_7 : zE 193 d Q 7 [l0, l1, l2] (v0 :: zR (some r) :: st) G h k ↔ (zsum st ≤ 8 ∧ G.2.1 r = 9 ∧ zRunD ztb zmt' d 154 [zR (some r), v0] G h (fun v G' h' => zE 193 d Q 10 [l0, l1, l2] (v.toList ++ st) G' h' k)) := E_invV2z (by rfl) (by decide) rfl
theorem e193_10 : zE 193 d Q 10 [l0, l1, l2] (zI x :: st) G h k ↔ ((¬ x = 0 → zE 193 d Q 19 [l0, l1, l2] st G h k) ∧ (¬ (¬ x = 0) → zE 193 d Q 13 [l0, l1, l2] st G h k)) := E_if_ne (by rfl)
theorem e193_13 : zE 193 d Q 13 [some (.inr (.inr w9)), l1, l2] st G h k ↔ zE 193 d Q 14 [some (.inr (.inr w9)), l1, l2] (.inr (.inr w9) :: st) G h k := E_aload_n (by rfl) rfl
theorem e193_14 : zE 193 d Q 14 [l0, l1, l2] st G h k ↔ zE 193 d Q 15 [l0, l1, l2] (zI 1 :: st) G h k := E_iconst (by rfl)
theorem e193_15 : zE 193 d Q 15 [l0, l1, l2] (v0 :: zR (some r) :: st) G h k ↔ (zsum st ≤ 8 ∧ G.2.1 r = 9 ∧ zRunD ztb zmt' d 114 [zR (some r), v0] G h (fun v G' h' => zE 193 d Q 18 [l0, l1, l2] (v.toList ++ st) G' h' k)) := E_invV2z (by rfl) (by decide) rfl
theorem e193_18 : zE 193 d Q 18 [l0, l1, l2] [zI x] G h k ↔ Q (some (zI x)) G h := E_iret (by rfl) rfl
theorem e193_19 : zE 193 d Q 19 [some (.inr (.inr w9)), l1, l2] st G h k ↔ zE 193 d Q 20 [some (.inr (.inr w9)), l1, l2] (.inr (.inr w9) :: st) G h k := E_aload_n (by rfl) rfl
theorem e193_20 : zE 193 d Q 20 [l0, some (zI x), l2] st G h k ↔ zE 193 d Q 21 [l0, some (zI x), l2] (zI x :: st) G h k := E_iload_n (by rfl) rfl
theorem e193_21 : zE 193 d Q 21 [l0, l1, l2] (v0 :: zR (some r) :: st) G h k ↔ (zsum st ≤ 8 ∧ G.2.1 r = 9 ∧ zRunD ztb zmt' d 191 [zR (some r), v0] G h (fun v G' h' => zE 193 d Q 24 [l0, l1, l2] (v.toList ++ st) G' h' k)) := E_invV2z (by rfl) (by decide) rfl
theorem e193_24 : zE 193 d Q 24 [l0, l1, l2] (zI x :: st) G h k ↔ zE 193 d Q 25 [l0, (zclr l1), some (zI x)] st G h k := E_istore_n (by rfl) (by decide)
theorem e193_25 : zE 193 d Q 25 [some (.inr (.inr w9)), l1, l2] st G h k ↔ zE 193 d Q 26 [some (.inr (.inr w9)), l1, l2] (.inr (.inr w9) :: st) G h k := E_aload_n (by rfl) rfl
theorem e193_26 : zE 193 d Q 26 [l0, l1, l2] st G h k ↔ zE 193 d Q 28 [l0, l1, l2] (zI 10 :: st) G h k := E_bipush (by rfl)
theorem e193_28 : zE 193 d Q 28 [some (.inr (.inr w9)), l1, l2] st G h k ↔ zE 193 d Q 29 [some (.inr (.inr w9)), l1, l2] (.inr (.inr w9) :: st) G h k := E_aload_n (by rfl) rfl
theorem e193_29 : zE 193 d Q 29 [l0, l1, some (zI x)] st G h k ↔ zE 193 d Q 30 [l0, l1, some (zI x)] (zI x :: st) G h k := E_iload_n (by rfl) rfl
theorem e193_30 : zE 193 d Q 30 [l0, l1, l2] (v0 :: zR (some r) :: st) G h k ↔ (zsum st ≤ 8 ∧ G.2.1 r = 9 ∧ zRunD ztb zmt' d 174 [zR (some r), v0] G h (fun v G' h' => zE 193 d Q 33 [l0, l1, l2] (v.toList ++ st) G' h' k)) := E_invV2z (by rfl) (by decide) rfl
theorem e193_33 : zE 193 d Q 33 [l0, l1, l2] (zI y :: zI x :: st) G h k ↔ zE 193 d Q 34 [l0, l1, l2] (zI (wr (x * y)) :: st) G h k := E_imul (by rfl)
theorem e193_34 : zE 193 d Q 34 [some (.inr (.inr w9)), l1, l2] st G h k ↔ zE 193 d Q 35 [some (.inr (.inr w9)), l1, l2] (.inr (.inr w9) :: st) G h k := E_aload_n (by rfl) rfl
theorem e193_35 : zE 193 d Q 35 [l0, l1, some (zI x)] st G h k ↔ zE 193 d Q 36 [l0, l1, some (zI x)] (zI x :: st) G h k := E_iload_n (by rfl) rfl
theorem e193_36 : zE 193 d Q 36 [l0, l1, l2] (v0 :: zR (some r) :: st) G h k ↔ (zsum st ≤ 8 ∧ G.2.1 r = 9 ∧ zRunD ztb zmt' d 175 [zR (some r), v0] G h (fun v G' h' => zE 193 d Q 39 [l0, l1, l2] (v.toList ++ st) G' h' k)) := E_invV2z (by rfl) (by decide) rfl
theorem e193_39 : zE 193 d Q 39 [l0, l1, l2] (zI y :: zI x :: st) G h k ↔ zE 193 d Q 40 [l0, l1, l2] (zI (wr (x + y)) :: st) G h k := E_iadd (by rfl)
theorem e193_40 : zE 193 d Q 40 [l0, l1, l2] (v0 :: zR (some r) :: st) G h k ↔ (zsum st ≤ 8 ∧ G.2.1 r = 9 ∧ zRunD ztb zmt' d 117 [zR (some r), v0] G h (fun v G' h' => zE 193 d Q 43 [l0, l1, l2] (v.toList ++ st) G' h' k)) := E_invV2z (by rfl) (by decide) rfl
theorem e193_43 : zE 193 d Q 43 [l0, l1, l2] [zI x] G h k ↔ Q (some (zI x)) G h := E_iret (by rfl) rfl
theorem e194_0 : zE 194 d Q 0 [some (.inr (.inr w9)), l1, l2, l3, l4] st G h k ↔ zE 194 d Q 1 [some (.inr (.inr w9)), l1, l2, l3, l4] (.inr (.inr w9) :: st) G h k := E_aload_n (by rfl) rfl
theorem e194_1 : zE 194 d Q 1 [l0, some (zI x), l2, l3, l4] st G h k ↔ zE 194 d Q 2 [l0, some (zI x), l2, l3, l4] (zI x :: st) G h k := E_iload_n (by rfl) rfl
theorem e194_2 : zE 194 d Q 2 [l0, l1, l2, l3, l4] (v0 :: zR (some r) :: st) G h k ↔ (zsum st ≤ 8 ∧ G.2.1 r = 9 ∧ zRunD ztb zmt' d 186 [zR (some r), v0] G h (fun v G' h' => zE 194 d Q 5 [l0, l1, l2, l3, l4] (v.toList ++ st) G' h' k)) := E_invV2z (by rfl) (by decide) rfl
theorem e194_5 : zE 194 d Q 5 [l0, l1, l2, l3, l4] st G h k ↔ zE 194 d Q 6 [l0, l1, l2, l3, l4] (zI 0 :: st) G h k := E_iconst (by rfl)
theorem e194_6 : zE 194 d Q 6 [l0, l1, l2, l3, l4] (zI x :: st) G h k ↔ zE 194 d Q 7 [l0, (zclr l1), some (zI x), l3, l4] st G h k := E_istore_n (by rfl) (by decide)
theorem e194_7 : zE 194 d Q 7 [l0, l1, some (zI x), l3, l4] st G h k ↔ zE 194 d Q 8 [l0, l1, some (zI x), l3, l4] (zI x :: st) G h k := E_iload_n (by rfl) rfl
theorem e194_8 : zE 194 d Q 8 [l0, l1, l2, l3, l4] st G h k ↔ zE 194 d Q 9 [l0, l1, l2, l3, l4] (zI 4 :: st) G h k := E_iconst (by rfl)
theorem e194_9 : zE 194 d Q 9 [l0, l1, l2, l3, l4] (zI y :: zI x :: st) G h k ↔ ((y ≤ x → zE 194 d Q 32 [l0, l1, l2, l3, l4] st G h k) ∧ (¬ (y ≤ x) → zE 194 d Q 12 [l0, l1, l2, l3, l4] st G h k)) := E_icmp_ge (by rfl)
theorem e194_12 : zE 194 d Q 12 [some (.inr (.inr w9)), l1, l2, l3, l4] st G h k ↔ zE 194 d Q 13 [some (.inr (.inr w9)), l1, l2, l3, l4] (.inr (.inr w9) :: st) G h k := E_aload_n (by rfl) rfl
theorem e194_13 : zE 194 d Q 13 [l0, l1, l2, l3, l4] (zR (some r) :: st) G h k ↔ (G.2.1 r = 9 ∧ zE 194 d Q 16 [l0, l1, l2, l3, l4] (zR (G.2.2.2 r 51) :: st) G h k) := E_getR (by rfl) rfl
theorem e194_16 : zE 194 d Q 16 [l0, l1, some (zI x), l3, l4] st G h k ↔ zE 194 d Q 17 [l0, l1, some (zI x), l3, l4] (zI x :: st) G h k := E_iload_n (by rfl) rfl
theorem e194_17 : zE 194 d Q 17 [l0, l1, l2, l3, l4] st G h k ↔ zE 194 d Q 18 [l0, l1, l2, l3, l4] (zL 0 :: st) G h k := E_lconst (by rfl)
theorem e194_18 : zE 194 d Q 18 [l0, l1, l2, l3, l4] (zL x :: zI i :: zR (some r) :: st) G h k ↔ (G.2.1 r = 11 ∧ (0 ≤ i ∧ i < G.2.2.1 r) ∧ zE 194 d Q 19 [l0, l1, l2, l3, l4] st G (zu h r i.toNat x) k) := E_lastore (by rfl)
theorem e194_19 : zE 194 d Q 19 [some (.inr (.inr w9)), l1, l2, l3, l4] st G h k ↔ zE 194 d Q 20 [some (.inr (.inr w9)), l1, l2, l3, l4] (.inr (.inr w9) :: st) G h k := E_aload_n (by rfl) rfl
theorem e194_20 : zE 194 d Q 20 [l0, l1, l2, l3, l4] (zR (some r) :: st) G h k ↔ (G.2.1 r = 9 ∧ zE 194 d Q 23 [l0, l1, l2, l3, l4] (zR (G.2.2.2 r 52) :: st) G h k) := E_getR (by rfl) rfl
theorem e194_23 : zE 194 d Q 23 [l0, l1, some (zI x), l3, l4] st G h k ↔ zE 194 d Q 24 [l0, l1, some (zI x), l3, l4] (zI x :: st) G h k := E_iload_n (by rfl) rfl
theorem e194_24 : zE 194 d Q 24 [l0, l1, l2, l3, l4] st G h k ↔ zE 194 d Q 25 [l0, l1, l2, l3, l4] (zL 0 :: st) G h k := E_lconst (by rfl)
theorem e194_25 : zE 194 d Q 25 [l0, l1, l2, l3, l4] (zL x :: zI i :: zR (some r) :: st) G h k ↔ (G.2.1 r = 11 ∧ (0 ≤ i ∧ i < G.2.2.1 r) ∧ zE 194 d Q 26 [l0, l1, l2, l3, l4] st G (zu h r i.toNat x) k) := E_lastore (by rfl)
theorem e194_26 : zE 194 d Q 26 [l0, l1, some (zI x), l3, l4] st G h k ↔ zE 194 d Q 29 [l0, (zclr l1), some (zI (wr (x + 1))), l3, l4] st G h k := E_iinc (by rfl) rfl
theorem e194_29 : zE 194 d Q 29 [l0, l1, l2, l3, l4] st G h k ↔ zE 194 d Q 7 [l0, l1, l2, l3, l4] st G h k := E_goto (by rfl)
theorem e194_32 : zE 194 d Q 32 [l0, some (zI x), l2, l3, l4] st G h k ↔ zE 194 d Q 33 [l0, some (zI x), l2, l3, l4] (zI x :: st) G h k := E_iload_n (by rfl) rfl
theorem e194_33 : zE 194 d Q 33 [l0, l1, l2, l3, l4] (zI x :: st) G h k ↔ zE 194 d Q 34 [l0, (zclr l1), some (zI x), l3, l4] st G h k := E_istore_n (by rfl) (by decide)
theorem e194_34 : zE 194 d Q 34 [l0, l1, some (zI x), l3, l4] st G h k ↔ zE 194 d Q 35 [l0, l1, some (zI x), l3, l4] (zI x :: st) G h k := E_iload_n (by rfl) rfl
theorem e194_35 : zE 194 d Q 35 [l0, l1, l2, l3, l4] (zI x :: st) G h k ↔ ((x ≤ 0 → zE 194 d Q 113 [l0, l1, l2, l3, l4] st G h k) ∧ (¬ (x ≤ 0) → zE 194 d Q 38 [l0, l1, l2, l3, l4] st G h k)) := E_if_le (by rfl)
theorem e194_38 : zE 194 d Q 38 [some (.inr (.inr w9)), l1, l2, l3, l4] st G h k ↔ zE 194 d Q 39 [some (.inr (.inr w9)), l1, l2, l3, l4] (.inr (.inr w9) :: st) G h k := E_aload_n (by rfl) rfl
theorem e194_39 : zE 194 d Q 39 [l0, l1, some (zI x), l3, l4] st G h k ↔ zE 194 d Q 40 [l0, l1, some (zI x), l3, l4] (zI x :: st) G h k := E_iload_n (by rfl) rfl
theorem e194_40 : zE 194 d Q 40 [l0, l1, l2, l3, l4] (v0 :: zR (some r) :: st) G h k ↔ (zsum st ≤ 8 ∧ G.2.1 r = 9 ∧ zRunD ztb zmt' d 185 [zR (some r), v0] G h (fun v G' h' => zE 194 d Q 43 [l0, l1, l2, l3, l4] (v.toList ++ st) G' h' k)) := E_invV2z (by rfl) (by decide) rfl
theorem e194_43 : zE 194 d Q 43 [l0, l1, l2, l3, l4] (zI x :: st) G h k ↔ zE 194 d Q 44 [l0, l1, (zclr l2), some (zI x), l4] st G h k := E_istore_n (by rfl) (by decide)
theorem e194_44 : zE 194 d Q 44 [some (.inr (.inr w9)), l1, l2, l3, l4] st G h k ↔ zE 194 d Q 45 [some (.inr (.inr w9)), l1, l2, l3, l4] (.inr (.inr w9) :: st) G h k := E_aload_n (by rfl) rfl
theorem e194_45 : zE 194 d Q 45 [l0, l1, some (zI x), l3, l4] st G h k ↔ zE 194 d Q 46 [l0, l1, some (zI x), l3, l4] (zI x :: st) G h k := E_iload_n (by rfl) rfl
theorem e194_46 : zE 194 d Q 46 [l0, l1, l2, some (zI x), l4] st G h k ↔ zE 194 d Q 47 [l0, l1, l2, some (zI x), l4] (zI x :: st) G h k := E_iload_n (by rfl) rfl
theorem e194_47 : zE 194 d Q 47 [l0, l1, l2, l3, l4] (v1 :: v0 :: zR (some r) :: st) G h k ↔ (zsum st ≤ 8 ∧ G.2.1 r = 9 ∧ zRunD ztb zmt' d 181 [zR (some r), v0, v1] G h (fun v G' h' => zE 194 d Q 50 [l0, l1, l2, l3, l4] (v.toList ++ st) G' h' k)) := E_invV2z (by rfl) (by decide) rfl
theorem e194_50 : zE 194 d Q 50 [l0, l1, l2, l3, l4] st G h k ↔ zE 194 d Q 51 [l0, l1, l2, l3, l4] (zI 0 :: st) G h k := E_iconst (by rfl)
theorem e194_51 : zE 194 d Q 51 [l0, l1, l2, l3, l4] (zI x :: st) G h k ↔ zE 194 d Q 53 [l0, l1, l2, (zclr l3), some (zI x)] st G h k := E_istore (by rfl) (by decide)
theorem e194_53 : zE 194 d Q 53 [l0, l1, l2, l3, some (zI x)] st G h k ↔ zE 194 d Q 55 [l0, l1, l2, l3, some (zI x)] (zI x :: st) G h k := E_iload (by rfl) rfl
theorem e194_55 : zE 194 d Q 55 [some (.inr (.inr w9)), l1, l2, l3, l4] st G h k ↔ zE 194 d Q 56 [some (.inr (.inr w9)), l1, l2, l3, l4] (.inr (.inr w9) :: st) G h k := E_aload_n (by rfl) rfl
theorem e194_56 : zE 194 d Q 56 [l0, l1, l2, l3, l4] (zR (some r) :: st) G h k ↔ (G.2.1 r = 9 ∧ zE 194 d Q 59 [l0, l1, l2, l3, l4] (zR (G.2.2.2 r 3) :: st) G h k) := E_getR (by rfl) rfl
theorem e194_59 : zE 194 d Q 59 [l0, l1, l2, l3, l4] (zR (some r) :: st) G h k ↔ (G.2.1 r = 8 ∧ zE 194 d Q 62 [l0, l1, l2, l3, l4] (zI (h r 1) :: st) G h k) := E_getI (by rfl) (by decide)
theorem e194_62 : zE 194 d Q 62 [l0, l1, l2, l3, l4] (zI y :: zI x :: st) G h k ↔ ((y ≤ x → zE 194 d Q 107 [l0, l1, l2, l3, l4] st G h k) ∧ (¬ (y ≤ x) → zE 194 d Q 65 [l0, l1, l2, l3, l4] st G h k)) := E_icmp_ge (by rfl)
theorem e194_65 : zE 194 d Q 65 [some (.inr (.inr w9)), l1, l2, l3, l4] st G h k ↔ zE 194 d Q 66 [some (.inr (.inr w9)), l1, l2, l3, l4] (.inr (.inr w9) :: st) G h k := E_aload_n (by rfl) rfl
theorem e194_66 : zE 194 d Q 66 [l0, l1, l2, l3, l4] (zR (some r) :: st) G h k ↔ (G.2.1 r = 9 ∧ zE 194 d Q 69 [l0, l1, l2, l3, l4] (zR (G.2.2.2 r 51) :: st) G h k) := E_getR (by rfl) rfl
theorem e194_69 : zE 194 d Q 69 [l0, l1, l2, l3, some (zI x)] st G h k ↔ zE 194 d Q 71 [l0, l1, l2, l3, some (zI x)] (zI x :: st) G h k := E_iload (by rfl) rfl
theorem e194_71 : zE 194 d Q 71 [l0, l1, l2, l3, l4] (zI x :: .inr (.inr w9) :: st) G h k ↔ zE 194 d Q 72 [l0, l1, l2, l3, l4] (zI x :: .inr (.inr w9) :: zI x :: .inr (.inr w9) :: st) G h k := E_dup2 (by rfl) rfl rfl
theorem e194_72 : zE 194 d Q 72 [l0, l1, l2, l3, l4] (zI i :: zR (some r) :: st) G h k ↔ (G.2.1 r = 11 ∧ (0 ≤ i ∧ i < G.2.2.1 r) ∧ zE 194 d Q 73 [l0, l1, l2, l3, l4] (zL (h r i.toNat) :: st) G h k) := E_laload (by rfl)
theorem e194_73 : zE 194 d Q 73 [some (.inr (.inr w9)), l1, l2, l3, l4] st G h k ↔ zE 194 d Q 74 [some (.inr (.inr w9)), l1, l2, l3, l4] (.inr (.inr w9) :: st) G h k := E_aload_n (by rfl) rfl
theorem e194_74 : zE 194 d Q 74 [l0, l1, l2, l3, l4] (zR (some r) :: st) G h k ↔ (G.2.1 r = 9 ∧ zE 194 d Q 77 [l0, l1, l2, l3, l4] (zR (G.2.2.2 r 26) :: st) G h k) := E_getR (by rfl) rfl
theorem e194_77 : zE 194 d Q 77 [l0, l1, l2, l3, some (zI x)] st G h k ↔ zE 194 d Q 79 [l0, l1, l2, l3, some (zI x)] (zI x :: st) G h k := E_iload (by rfl) rfl
theorem e194_79 : zE 194 d Q 79 [l0, l1, l2, l3, l4] (zI i :: zR (some r) :: st) G h k ↔ (G.2.1 r = 10 ∧ (0 ≤ i ∧ i < G.2.2.1 r) ∧ zE 194 d Q 80 [l0, l1, l2, l3, l4] (zI (h r i.toNat) :: st) G h k) := E_iaload (by rfl)
theorem e194_80 : zE 194 d Q 80 [l0, l1, l2, l3, l4] (zI x :: st) G h k ↔ zE 194 d Q 81 [l0, l1, l2, l3, l4] (zL x :: st) G h k := E_i2l (by rfl)
theorem e194_81 : zE 194 d Q 81 [l0, l1, l2, l3, l4] (zL y :: zL x :: st) G h k ↔ zE 194 d Q 82 [l0, l1, l2, l3, l4] (zL (wl (x + y)) :: st) G h k := E_ladd (by rfl)
theorem e194_82 : zE 194 d Q 82 [l0, l1, l2, l3, l4] (zL x :: zI i :: zR (some r) :: st) G h k ↔ (G.2.1 r = 11 ∧ (0 ≤ i ∧ i < G.2.2.1 r) ∧ zE 194 d Q 83 [l0, l1, l2, l3, l4] st G (zu h r i.toNat x) k) := E_lastore (by rfl)
theorem e194_83 : zE 194 d Q 83 [some (.inr (.inr w9)), l1, l2, l3, l4] st G h k ↔ zE 194 d Q 84 [some (.inr (.inr w9)), l1, l2, l3, l4] (.inr (.inr w9) :: st) G h k := E_aload_n (by rfl) rfl
theorem e194_84 : zE 194 d Q 84 [l0, l1, l2, l3, l4] (zR (some r) :: st) G h k ↔ (G.2.1 r = 9 ∧ zE 194 d Q 87 [l0, l1, l2, l3, l4] (zR (G.2.2.2 r 52) :: st) G h k) := E_getR (by rfl) rfl
theorem e194_87 : zE 194 d Q 87 [l0, l1, l2, l3, some (zI x)] st G h k ↔ zE 194 d Q 89 [l0, l1, l2, l3, some (zI x)] (zI x :: st) G h k := E_iload (by rfl) rfl
theorem e194_89 : zE 194 d Q 89 [l0, l1, l2, l3, l4] (zI x :: .inr (.inr w9) :: st) G h k ↔ zE 194 d Q 90 [l0, l1, l2, l3, l4] (zI x :: .inr (.inr w9) :: zI x :: .inr (.inr w9) :: st) G h k := E_dup2 (by rfl) rfl rfl
theorem e194_90 : zE 194 d Q 90 [l0, l1, l2, l3, l4] (zI i :: zR (some r) :: st) G h k ↔ (G.2.1 r = 11 ∧ (0 ≤ i ∧ i < G.2.2.1 r) ∧ zE 194 d Q 91 [l0, l1, l2, l3, l4] (zL (h r i.toNat) :: st) G h k) := E_laload (by rfl)
theorem e194_91 : zE 194 d Q 91 [some (.inr (.inr w9)), l1, l2, l3, l4] st G h k ↔ zE 194 d Q 92 [some (.inr (.inr w9)), l1, l2, l3, l4] (.inr (.inr w9) :: st) G h k := E_aload_n (by rfl) rfl
theorem e194_92 : zE 194 d Q 92 [l0, l1, l2, l3, l4] (zR (some r) :: st) G h k ↔ (G.2.1 r = 9 ∧ zE 194 d Q 95 [l0, l1, l2, l3, l4] (zR (G.2.2.2 r 27) :: st) G h k) := E_getR (by rfl) rfl
theorem e194_95 : zE 194 d Q 95 [l0, l1, l2, l3, some (zI x)] st G h k ↔ zE 194 d Q 97 [l0, l1, l2, l3, some (zI x)] (zI x :: st) G h k := E_iload (by rfl) rfl
theorem e194_97 : zE 194 d Q 97 [l0, l1, l2, l3, l4] (zI i :: zR (some r) :: st) G h k ↔ (G.2.1 r = 10 ∧ (0 ≤ i ∧ i < G.2.2.1 r) ∧ zE 194 d Q 98 [l0, l1, l2, l3, l4] (zI (h r i.toNat) :: st) G h k) := E_iaload (by rfl)
theorem e194_98 : zE 194 d Q 98 [l0, l1, l2, l3, l4] (zI x :: st) G h k ↔ zE 194 d Q 99 [l0, l1, l2, l3, l4] (zL x :: st) G h k := E_i2l (by rfl)
theorem e194_99 : zE 194 d Q 99 [l0, l1, l2, l3, l4] (zL y :: zL x :: st) G h k ↔ zE 194 d Q 100 [l0, l1, l2, l3, l4] (zL (wl (x + y)) :: st) G h k := E_ladd (by rfl)
theorem e194_100 : zE 194 d Q 100 [l0, l1, l2, l3, l4] (zL x :: zI i :: zR (some r) :: st) G h k ↔ (G.2.1 r = 11 ∧ (0 ≤ i ∧ i < G.2.2.1 r) ∧ zE 194 d Q 101 [l0, l1, l2, l3, l4] st G (zu h r i.toNat x) k) := E_lastore (by rfl)
theorem e194_101 : zE 194 d Q 101 [l0, l1, l2, l3, some (zI x)] st G h k ↔ zE 194 d Q 104 [l0, l1, l2, (zclr l3), some (zI (wr (x + 1)))] st G h k := E_iinc (by rfl) rfl
theorem e194_104 : zE 194 d Q 104 [l0, l1, l2, l3, l4] st G h k ↔ zE 194 d Q 53 [l0, l1, l2, l3, l4] st G h k := E_goto (by rfl)
theorem e194_107 : zE 194 d Q 107 [l0, l1, some (zI x), l3, l4] st G h k ↔ zE 194 d Q 110 [l0, (zclr l1), some (zI (wr (x + (-1)))), l3, l4] st G h k := E_iinc (by rfl) rfl
theorem e194_110 : zE 194 d Q 110 [l0, l1, l2, l3, l4] st G h k ↔ zE 194 d Q 34 [l0, l1, l2, l3, l4] st G h k := E_goto (by rfl)
theorem e194_113 : zE 194 d Q 113 [l0, l1, l2, l3, l4] [] G h k ↔ Q none G h := E_vret (by rfl) rfl
theorem e195_0 : zE 195 d Q 0 [some (.inr (.inr w9)), l1, l2, l3] st G h k ↔ zE 195 d Q 1 [some (.inr (.inr w9)), l1, l2, l3] (.inr (.inr w9) :: st) G h k := E_aload_n (by rfl) rfl
theorem e195_1 : zE 195 d Q 1 [l0, some (zI x), l2, l3] st G h k ↔ zE 195 d Q 2 [l0, some (zI x), l2, l3] (zI x :: st) G h k := E_iload_n (by rfl) rfl
theorem e195_2 : zE 195 d Q 2 [l0, l1, l2, l3] (v0 :: zR (some r) :: st) G h k ↔ (zsum st ≤ 8 ∧ G.2.1 r = 9 ∧ zRunD ztb zmt' d 155 [zR (some r), v0] G h (fun v G' h' => zE 195 d Q 5 [l0, l1, l2, l3] (v.toList ++ st) G' h' k)) := E_invV2z (by rfl) (by decide) rfl
theorem e195_5 : zE 195 d Q 5 [l0, l1, l2, l3] (zI x :: st) G h k ↔ ((x = 0 → zE 195 d Q 17 [l0, l1, l2, l3] st G h k) ∧ (¬ (x = 0) → zE 195 d Q 8 [l0, l1, l2, l3] st G h k)) := E_if_eq (by rfl)
theorem e195_8 : zE 195 d Q 8 [l0, l1, l2, some (zI x)] st G h k ↔ zE 195 d Q 9 [l0, l1, l2, some (zI x)] (zI x :: st) G h k := E_iload_n (by rfl) rfl
theorem e195_9 : zE 195 d Q 9 [l0, l1, l2, l3] st G h k ↔ zE 195 d Q 10 [l0, l1, l2, l3] (zI 0 :: st) G h k := E_iconst (by rfl)
theorem e195_10 : zE 195 d Q 10 [l0, l1, l2, l3] st G h k ↔ zE 195 d Q 11 [l0, l1, l2, l3] (zI 5 :: st) G h k := E_iconst (by rfl)
theorem e195_11 : zE 195 d Q 11 [l0, l1, l2, l3] (v2 :: v1 :: v0 :: st) G h k ↔ (zsum st ≤ 8 ∧ zRunD ztb zmt' d 120 [v0, v1, v2] G h (fun v G' h' => zE 195 d Q 14 [l0, l1, l2, l3] (v.toList ++ st) G' h' k)) := E_invS2z (by rfl) (by decide) rfl
theorem e195_14 : zE 195 d Q 14 [l0, l1, l2, l3] (zI x :: st) G h k ↔ ((¬ x = 0 → zE 195 d Q 19 [l0, l1, l2, l3] st G h k) ∧ (¬ (¬ x = 0) → zE 195 d Q 17 [l0, l1, l2, l3] st G h k)) := E_if_ne (by rfl)
theorem e195_17 : zE 195 d Q 17 [l0, l1, l2, l3] st G h k ↔ zE 195 d Q 18 [l0, l1, l2, l3] (zI 1 :: st) G h k := E_iconst (by rfl)
theorem e195_18 : zE 195 d Q 18 [l0, l1, l2, l3] [zI x] G h k ↔ Q (some (zI x)) G h := E_iret (by rfl) rfl
theorem e195_19 : zE 195 d Q 19 [l0, l1, some (zI x), l3] st G h k ↔ zE 195 d Q 20 [l0, l1, some (zI x), l3] (zI x :: st) G h k := E_iload_n (by rfl) rfl
theorem e195_20 : zE 195 d Q 20 [l0, l1, l2, l3] st G h k ↔ zE 195 d Q 21 [l0, l1, l2, l3] (zI 1 :: st) G h k := E_iconst (by rfl)
theorem e195_21 : zE 195 d Q 21 [l0, l1, l2, l3] st G h k ↔ zE 195 d Q 22 [l0, l1, l2, l3] (zI 3 :: st) G h k := E_iconst (by rfl)
theorem e195_22 : zE 195 d Q 22 [l0, l1, l2, l3] (v2 :: v1 :: v0 :: st) G h k ↔ (zsum st ≤ 8 ∧ zRunD ztb zmt' d 120 [v0, v1, v2] G h (fun v G' h' => zE 195 d Q 25 [l0, l1, l2, l3] (v.toList ++ st) G' h' k)) := E_invS2z (by rfl) (by decide) rfl
theorem e195_25 : zE 195 d Q 25 [l0, l1, l2, l3] (zI x :: st) G h k ↔ ((¬ x = 0 → zE 195 d Q 30 [l0, l1, l2, l3] st G h k) ∧ (¬ (¬ x = 0) → zE 195 d Q 28 [l0, l1, l2, l3] st G h k)) := E_if_ne (by rfl)
theorem e195_28 : zE 195 d Q 28 [l0, l1, l2, l3] st G h k ↔ zE 195 d Q 29 [l0, l1, l2, l3] (zI 2 :: st) G h k := E_iconst (by rfl)
theorem e195_29 : zE 195 d Q 29 [l0, l1, l2, l3] [zI x] G h k ↔ Q (some (zI x)) G h := E_iret (by rfl) rfl
theorem e195_30 : zE 195 d Q 30 [some (.inr (.inr w9)), l1, l2, l3] st G h k ↔ zE 195 d Q 31 [some (.inr (.inr w9)), l1, l2, l3] (.inr (.inr w9) :: st) G h k := E_aload_n (by rfl) rfl
theorem e195_31 : zE 195 d Q 31 [l0, l1, l2, some (zI x)] st G h k ↔ zE 195 d Q 32 [l0, l1, l2, some (zI x)] (zI x :: st) G h k := E_iload_n (by rfl) rfl
theorem e195_32 : zE 195 d Q 32 [l0, l1, l2, l3] (v0 :: zR (some r) :: st) G h k ↔ (zsum st ≤ 8 ∧ G.2.1 r = 9 ∧ zRunD ztb zmt' d 143 [zR (some r), v0] G h (fun v G' h' => zE 195 d Q 35 [l0, l1, l2, l3] (v.toList ++ st) G' h' k)) := E_invV2z (by rfl) (by decide) rfl
theorem e195_35 : zE 195 d Q 35 [some (.inr (.inr w9)), l1, l2, l3] st G h k ↔ zE 195 d Q 36 [some (.inr (.inr w9)), l1, l2, l3] (.inr (.inr w9) :: st) G h k := E_aload_n (by rfl) rfl
theorem e195_36 : zE 195 d Q 36 [l0, l1, some (zI x), l3] st G h k ↔ zE 195 d Q 37 [l0, l1, some (zI x), l3] (zI x :: st) G h k := E_iload_n (by rfl) rfl
theorem e195_37 : zE 195 d Q 37 [l0, l1, l2, l3] (v0 :: zR (some r) :: st) G h k ↔ (zsum st ≤ 8 ∧ G.2.1 r = 9 ∧ zRunD ztb zmt' d 171 [zR (some r), v0] G h (fun v G' h' => zE 195 d Q 40 [l0, l1, l2, l3] (v.toList ++ st) G' h' k)) := E_invV2z (by rfl) (by decide) rfl
theorem e195_40 : zE 195 d Q 40 [l0, l1, l2, l3] (zI x :: st) G h k ↔ ((x = 0 → zE 195 d Q 47 [l0, l1, l2, l3] st G h k) ∧ (¬ (x = 0) → zE 195 d Q 43 [l0, l1, l2, l3] st G h k)) := E_if_eq (by rfl)
theorem e195_43 : zE 195 d Q 43 [l0, l1, l2, l3] st G h k ↔ zE 195 d Q 44 [l0, l1, l2, l3] (zI 3 :: st) G h k := E_iconst (by rfl)
theorem e195_44 : zE 195 d Q 44 [l0, l1, l2, l3] st G h k ↔ zE 195 d Q 48 [l0, l1, l2, l3] st G h k := E_goto (by rfl)
theorem e195_47 : zE 195 d Q 47 [l0, l1, l2, l3] st G h k ↔ zE 195 d Q 48 [l0, l1, l2, l3] (zI 0 :: st) G h k := E_iconst (by rfl)
theorem e195_48 : zE 195 d Q 48 [l0, l1, l2, l3] [zI x] G h k ↔ Q (some (zI x)) G h := E_iret (by rfl) rfl
theorem e196_0 : zE 196 d Q 0 [some (.inr (.inr w9)), l1, l2, l3, l4] st G h k ↔ zE 196 d Q 1 [some (.inr (.inr w9)), l1, l2, l3, l4] (.inr (.inr w9) :: st) G h k := E_aload_n (by rfl) rfl
theorem e196_1 : zE 196 d Q 1 [l0, l1, l2, l3, l4] st G h k ↔ zE 196 d Q 2 [l0, l1, l2, l3, l4] (zI 0 :: st) G h k := E_iconst (by rfl)
theorem e196_2 : zE 196 d Q 2 [l0, l1, l2, l3, l4] (zI x :: zR (some r) :: st) G h k ↔ (G.2.1 r = 9 ∧ zE 196 d Q 5 [l0, l1, l2, l3, l4] st G (zu h r 0 x) k) := E_putI (by rfl) rfl
theorem e196_5 : zE 196 d Q 5 [some (.inr (.inr w9)), l1, l2, l3, l4] st G h k ↔ zE 196 d Q 6 [some (.inr (.inr w9)), l1, l2, l3, l4] (.inr (.inr w9) :: st) G h k := E_aload_n (by rfl) rfl
theorem e196_6 : zE 196 d Q 6 [l0, some (zI x), l2, l3, l4] st G h k ↔ zE 196 d Q 7 [l0, some (zI x), l2, l3, l4] (zI x :: st) G h k := E_iload_n (by rfl) rfl
theorem e196_7 : zE 196 d Q 7 [l0, l1, some (zI x), l3, l4] st G h k ↔ zE 196 d Q 8 [l0, l1, some (zI x), l3, l4] (zI x :: st) G h k := E_iload_n (by rfl) rfl
theorem e196_8 : zE 196 d Q 8 [l0, l1, l2, some (zI x), l4] st G h k ↔ zE 196 d Q 9 [l0, l1, l2, some (zI x), l4] (zI x :: st) G h k := E_iload_n (by rfl) rfl
theorem e196_9 : zE 196 d Q 9 [l0, l1, l2, l3, l4] (v2 :: v1 :: v0 :: zR (some r) :: st) G h k ↔ (zsum st ≤ 8 ∧ G.2.1 r = 9 ∧ zRunD ztb zmt' d 195 [zR (some r), v0, v1, v2] G h (fun v G' h' => zE 196 d Q 12 [l0, l1, l2, l3, l4] (v.toList ++ st) G' h' k)) := E_invV2z (by rfl) (by decide) rfl
theorem e196_12 : zE 196 d Q 12 [l0, l1, l2, l3, l4] (zI x :: st) G h k ↔ zE 196 d Q 14 [l0, l1, l2, (zclr l3), some (zI x)] st G h k := E_istore (by rfl) (by decide)
theorem e196_14 : zE 196 d Q 14 [l0, l1, l2, l3, some (zI x)] st G h k ↔ zE 196 d Q 16 [l0, l1, l2, l3, some (zI x)] (zI x :: st) G h k := E_iload (by rfl) rfl
theorem e196_16 : zE 196 d Q 16 [l0, l1, l2, l3, l4] (zI x :: st) G h k ↔ ((x ≤ 0 → zE 196 d Q 26 [l0, l1, l2, l3, l4] st G h k) ∧ (¬ (x ≤ 0) → zE 196 d Q 19 [l0, l1, l2, l3, l4] st G h k)) := E_if_le (by rfl)
theorem e196_19 : zE 196 d Q 19 [some (.inr (.inr w9)), l1, l2, l3, l4] st G h k ↔ zE 196 d Q 20 [some (.inr (.inr w9)), l1, l2, l3, l4] (.inr (.inr w9) :: st) G h k := E_aload_n (by rfl) rfl
theorem e196_20 : zE 196 d Q 20 [l0, l1, l2, l3, some (zI x)] st G h k ↔ zE 196 d Q 22 [l0, l1, l2, l3, some (zI x)] (zI x :: st) G h k := E_iload (by rfl) rfl
theorem e196_22 : zE 196 d Q 22 [l0, l1, l2, l3, l4] (v0 :: zR (some r) :: st) G h k ↔ (zsum st ≤ 8 ∧ G.2.1 r = 9 ∧ zRunD ztb zmt' d 115 [zR (some r), v0] G h (fun v G' h' => zE 196 d Q 25 [l0, l1, l2, l3, l4] (v.toList ++ st) G' h' k)) := E_invV2z (by rfl) (by decide) rfl
theorem e196_25 : zE 196 d Q 25 [l0, l1, l2, l3, l4] [zL x] G h k ↔ Q (some (zL x)) G h := E_lret (by rfl) rfl
theorem e196_26 : zE 196 d Q 26 [some (.inr (.inr w9)), l1, l2, l3, l4] st G h k ↔ zE 196 d Q 27 [some (.inr (.inr w9)), l1, l2, l3, l4] (.inr (.inr w9) :: st) G h k := E_aload_n (by rfl) rfl
theorem e196_27 : zE 196 d Q 27 [l0, l1, some (zI x), l3, l4] st G h k ↔ zE 196 d Q 28 [l0, l1, some (zI x), l3, l4] (zI x :: st) G h k := E_iload_n (by rfl) rfl
theorem e196_28 : zE 196 d Q 28 [l0, l1, l2, l3, l4] (v0 :: zR (some r) :: st) G h k ↔ (zsum st ≤ 8 ∧ G.2.1 r = 9 ∧ zRunD ztb zmt' d 194 [zR (some r), v0] G h (fun v G' h' => zE 196 d Q 31 [l0, l1, l2, l3, l4] (v.toList ++ st) G' h' k)) := E_invV2z (by rfl) (by decide) rfl
theorem e196_31 : zE 196 d Q 31 [some (.inr (.inr w9)), l1, l2, l3, l4] st G h k ↔ zE 196 d Q 32 [some (.inr (.inr w9)), l1, l2, l3, l4] (.inr (.inr w9) :: st) G h k := E_aload_n (by rfl) rfl
theorem e196_32 : zE 196 d Q 32 [some (.inr (.inr w9)), l1, l2, l3, l4] st G h k ↔ zE 196 d Q 33 [some (.inr (.inr w9)), l1, l2, l3, l4] (.inr (.inr w9) :: st) G h k := E_aload_n (by rfl) rfl
theorem e196_33 : zE 196 d Q 33 [l0, l1, l2, l3, l4] (zR (some r) :: st) G h k ↔ (G.2.1 r = 9 ∧ zE 196 d Q 36 [l0, l1, l2, l3, l4] (zR (G.2.2.2 r 51) :: st) G h k) := E_getR (by rfl) rfl
theorem e196_36 : zE 196 d Q 36 [l0, some (zI x), l2, l3, l4] st G h k ↔ zE 196 d Q 37 [l0, some (zI x), l2, l3, l4] (zI x :: st) G h k := E_iload_n (by rfl) rfl
theorem e196_37 : zE 196 d Q 37 [l0, l1, l2, l3, l4] (zI i :: zR (some r) :: st) G h k ↔ (G.2.1 r = 11 ∧ (0 ≤ i ∧ i < G.2.2.1 r) ∧ zE 196 d Q 38 [l0, l1, l2, l3, l4] (zL (h r i.toNat) :: st) G h k) := E_laload (by rfl)
theorem e196_38 : zE 196 d Q 38 [l0, l1, l2, l3, l4] (v0 :: zR (some r) :: st) G h k ↔ (zsum st ≤ 8 ∧ G.2.1 r = 9 ∧ zRunD ztb zmt' d 118 [zR (some r), v0] G h (fun v G' h' => zE 196 d Q 41 [l0, l1, l2, l3, l4] (v.toList ++ st) G' h' k)) := E_invV2z (by rfl) (by decide) rfl
theorem e196_41 : zE 196 d Q 41 [l0, l1, l2, l3, l4] [zL x] G h k ↔ Q (some (zL x)) G h := E_lret (by rfl) rfl
theorem e197_0 : zE 197 d Q 0 [some (.inr (.inr w9)), l1, l2, l3, l4] st G h k ↔ zE 197 d Q 1 [some (.inr (.inr w9)), l1, l2, l3, l4] (.inr (.inr w9) :: st) G h k := E_aload_n (by rfl) rfl
theorem e197_1 : zE 197 d Q 1 [l0, l1, l2, l3, l4] st G h k ↔ zE 197 d Q 2 [l0, l1, l2, l3, l4] (zI 0 :: st) G h k := E_iconst (by rfl)
theorem e197_2 : zE 197 d Q 2 [l0, l1, l2, l3, l4] (zI x :: zR (some r) :: st) G h k ↔ (G.2.1 r = 9 ∧ zE 197 d Q 5 [l0, l1, l2, l3, l4] st G (zu h r 0 x) k) := E_putI (by rfl) rfl
theorem e197_5 : zE 197 d Q 5 [some (.inr (.inr w9)), l1, l2, l3, l4] st G h k ↔ zE 197 d Q 6 [some (.inr (.inr w9)), l1, l2, l3, l4] (.inr (.inr w9) :: st) G h k := E_aload_n (by rfl) rfl
theorem e197_6 : zE 197 d Q 6 [l0, some (zI x), l2, l3, l4] st G h k ↔ zE 197 d Q 7 [l0, some (zI x), l2, l3, l4] (zI x :: st) G h k := E_iload_n (by rfl) rfl
theorem e197_7 : zE 197 d Q 7 [l0, l1, some (zI x), l3, l4] st G h k ↔ zE 197 d Q 8 [l0, l1, some (zI x), l3, l4] (zI x :: st) G h k := E_iload_n (by rfl) rfl
theorem e197_8 : zE 197 d Q 8 [l0, l1, l2, some (zI x), l4] st G h k ↔ zE 197 d Q 9 [l0, l1, l2, some (zI x), l4] (zI x :: st) G h k := E_iload_n (by rfl) rfl
theorem e197_9 : zE 197 d Q 9 [l0, l1, l2, l3, l4] (v2 :: v1 :: v0 :: zR (some r) :: st) G h k ↔ (zsum st ≤ 8 ∧ G.2.1 r = 9 ∧ zRunD ztb zmt' d 195 [zR (some r), v0, v1, v2] G h (fun v G' h' => zE 197 d Q 12 [l0, l1, l2, l3, l4] (v.toList ++ st) G' h' k)) := E_invV2z (by rfl) (by decide) rfl
theorem e197_12 : zE 197 d Q 12 [l0, l1, l2, l3, l4] (zI x :: st) G h k ↔ zE 197 d Q 14 [l0, l1, l2, (zclr l3), some (zI x)] st G h k := E_istore (by rfl) (by decide)
theorem e197_14 : zE 197 d Q 14 [l0, l1, l2, l3, some (zI x)] st G h k ↔ zE 197 d Q 16 [l0, l1, l2, l3, some (zI x)] (zI x :: st) G h k := E_iload (by rfl) rfl
theorem e197_16 : zE 197 d Q 16 [l0, l1, l2, l3, l4] (zI x :: st) G h k ↔ ((x ≤ 0 → zE 197 d Q 26 [l0, l1, l2, l3, l4] st G h k) ∧ (¬ (x ≤ 0) → zE 197 d Q 19 [l0, l1, l2, l3, l4] st G h k)) := E_if_le (by rfl)
theorem e197_19 : zE 197 d Q 19 [some (.inr (.inr w9)), l1, l2, l3, l4] st G h k ↔ zE 197 d Q 20 [some (.inr (.inr w9)), l1, l2, l3, l4] (.inr (.inr w9) :: st) G h k := E_aload_n (by rfl) rfl
theorem e197_20 : zE 197 d Q 20 [l0, l1, l2, l3, some (zI x)] st G h k ↔ zE 197 d Q 22 [l0, l1, l2, l3, some (zI x)] (zI x :: st) G h k := E_iload (by rfl) rfl
theorem e197_22 : zE 197 d Q 22 [l0, l1, l2, l3, l4] (v0 :: zR (some r) :: st) G h k ↔ (zsum st ≤ 8 ∧ G.2.1 r = 9 ∧ zRunD ztb zmt' d 115 [zR (some r), v0] G h (fun v G' h' => zE 197 d Q 25 [l0, l1, l2, l3, l4] (v.toList ++ st) G' h' k)) := E_invV2z (by rfl) (by decide) rfl
theorem e197_25 : zE 197 d Q 25 [l0, l1, l2, l3, l4] [zL x] G h k ↔ Q (some (zL x)) G h := E_lret (by rfl) rfl
theorem e197_26 : zE 197 d Q 26 [some (.inr (.inr w9)), l1, l2, l3, l4] st G h k ↔ zE 197 d Q 27 [some (.inr (.inr w9)), l1, l2, l3, l4] (.inr (.inr w9) :: st) G h k := E_aload_n (by rfl) rfl
theorem e197_27 : zE 197 d Q 27 [l0, l1, some (zI x), l3, l4] st G h k ↔ zE 197 d Q 28 [l0, l1, some (zI x), l3, l4] (zI x :: st) G h k := E_iload_n (by rfl) rfl
theorem e197_28 : zE 197 d Q 28 [l0, l1, l2, l3, l4] (v0 :: zR (some r) :: st) G h k ↔ (zsum st ≤ 8 ∧ G.2.1 r = 9 ∧ zRunD ztb zmt' d 194 [zR (some r), v0] G h (fun v G' h' => zE 197 d Q 31 [l0, l1, l2, l3, l4] (v.toList ++ st) G' h' k)) := E_invV2z (by rfl) (by decide) rfl
theorem e197_31 : zE 197 d Q 31 [some (.inr (.inr w9)), l1, l2, l3, l4] st G h k ↔ zE 197 d Q 32 [some (.inr (.inr w9)), l1, l2, l3, l4] (.inr (.inr w9) :: st) G h k := E_aload_n (by rfl) rfl
theorem e197_32 : zE 197 d Q 32 [some (.inr (.inr w9)), l1, l2, l3, l4] st G h k ↔ zE 197 d Q 33 [some (.inr (.inr w9)), l1, l2, l3, l4] (.inr (.inr w9) :: st) G h k := E_aload_n (by rfl) rfl
theorem e197_33 : zE 197 d Q 33 [l0, l1, l2, l3, l4] (zR (some r) :: st) G h k ↔ (G.2.1 r = 9 ∧ zE 197 d Q 36 [l0, l1, l2, l3, l4] (zR (G.2.2.2 r 52) :: st) G h k) := E_getR (by rfl) rfl
theorem e197_36 : zE 197 d Q 36 [l0, some (zI x), l2, l3, l4] st G h k ↔ zE 197 d Q 37 [l0, some (zI x), l2, l3, l4] (zI x :: st) G h k := E_iload_n (by rfl) rfl
theorem e197_37 : zE 197 d Q 37 [l0, l1, l2, l3, l4] (zI i :: zR (some r) :: st) G h k ↔ (G.2.1 r = 11 ∧ (0 ≤ i ∧ i < G.2.2.1 r) ∧ zE 197 d Q 38 [l0, l1, l2, l3, l4] (zL (h r i.toNat) :: st) G h k) := E_laload (by rfl)
theorem e197_38 : zE 197 d Q 38 [l0, l1, l2, l3, l4] (v0 :: zR (some r) :: st) G h k ↔ (zsum st ≤ 8 ∧ G.2.1 r = 9 ∧ zRunD ztb zmt' d 118 [zR (some r), v0] G h (fun v G' h' => zE 197 d Q 41 [l0, l1, l2, l3, l4] (v.toList ++ st) G' h' k)) := E_invV2z (by rfl) (by decide) rfl
theorem e197_41 : zE 197 d Q 41 [l0, l1, l2, l3, l4] [zL x] G h k ↔ Q (some (zL x)) G h := E_lret (by rfl) rfl
theorem e198_0 : zE 198 d Q 0 [some (.inr (.inr w9)), l1, l2, l3, l4, l5, l6] st G h k ↔ zE 198 d Q 1 [some (.inr (.inr w9)), l1, l2, l3, l4, l5, l6] (.inr (.inr w9) :: st) G h k := E_aload_n (by rfl) rfl
theorem e198_1 : zE 198 d Q 1 [l0, l1, l2, l3, l4, l5, l6] st G h k ↔ zE 198 d Q 2 [l0, l1, l2, l3, l4, l5, l6] (zI 0 :: st) G h k := E_iconst (by rfl)
theorem e198_2 : zE 198 d Q 2 [l0, l1, l2, l3, l4, l5, l6] (zI x :: zR (some r) :: st) G h k ↔ (G.2.1 r = 9 ∧ zE 198 d Q 5 [l0, l1, l2, l3, l4, l5, l6] st G (zu h r 0 x) k) := E_putI (by rfl) rfl
theorem e198_5 : zE 198 d Q 5 [l0, l1, l2, l3, l4, l5, l6] st G h k ↔ zE 198 d Q 6 [l0, l1, l2, l3, l4, l5, l6] (zI 0 :: st) G h k := E_iconst (by rfl)
theorem e198_6 : zE 198 d Q 6 [l0, l1, l2, l3, l4, l5, l6] (zI x :: st) G h k ↔ zE 198 d Q 7 [l0, l1, (zclr l2), some (zI x), l4, l5, l6] st G h k := E_istore_n (by rfl) (by decide)
theorem e198_7 : zE 198 d Q 7 [l0, l1, l2, some (zI x), l4, l5, l6] st G h k ↔ zE 198 d Q 8 [l0, l1, l2, some (zI x), l4, l5, l6] (zI x :: st) G h k := E_iload_n (by rfl) rfl
theorem e198_8 : zE 198 d Q 8 [l0, l1, l2, l3, l4, l5, l6] st G h k ↔ zE 198 d Q 9 [l0, l1, l2, l3, l4, l5, l6] (zI 5 :: st) G h k := E_iconst (by rfl)
theorem e198_9 : zE 198 d Q 9 [l0, l1, l2, l3, l4, l5, l6] (zI y :: zI x :: st) G h k ↔ ((y < x → zE 198 d Q 39 [l0, l1, l2, l3, l4, l5, l6] st G h k) ∧ (¬ (y < x) → zE 198 d Q 12 [l0, l1, l2, l3, l4, l5, l6] st G h k)) := E_icmp_gt (by rfl)
theorem e198_12 : zE 198 d Q 12 [some (.inr (.inr w9)), l1, l2, l3, l4, l5, l6] st G h k ↔ zE 198 d Q 13 [some (.inr (.inr w9)), l1, l2, l3, l4, l5, l6] (.inr (.inr w9) :: st) G h k := E_aload_n (by rfl) rfl
theorem e198_13 : zE 198 d Q 13 [l0, some (zI x), l2, l3, l4, l5, l6] st G h k ↔ zE 198 d Q 14 [l0, some (zI x), l2, l3, l4, l5, l6] (zI x :: st) G h k := E_iload_n (by rfl) rfl
theorem e198_14 : zE 198 d Q 14 [l0, l1, some (zI x), l3, l4, l5, l6] st G h k ↔ zE 198 d Q 15 [l0, l1, some (zI x), l3, l4, l5, l6] (zI x :: st) G h k := E_iload_n (by rfl) rfl
theorem e198_15 : zE 198 d Q 15 [l0, l1, l2, some (zI x), l4, l5, l6] st G h k ↔ zE 198 d Q 16 [l0, l1, l2, some (zI x), l4, l5, l6] (zI x :: st) G h k := E_iload_n (by rfl) rfl
theorem e198_16 : zE 198 d Q 16 [l0, l1, l2, l3, l4, l5, l6] (v2 :: v1 :: v0 :: zR (some r) :: st) G h k ↔ (zsum st ≤ 8 ∧ G.2.1 r = 9 ∧ zRunD ztb zmt' d 195 [zR (some r), v0, v1, v2] G h (fun v G' h' => zE 198 d Q 19 [l0, l1, l2, l3, l4, l5, l6] (v.toList ++ st) G' h' k)) := E_invV2z (by rfl) (by decide) rfl
theorem e198_19 : zE 198 d Q 19 [l0, l1, l2, l3, l4, l5, l6] (zI x :: st) G h k ↔ zE 198 d Q 21 [l0, l1, l2, (zclr l3), some (zI x), l5, l6] st G h k := E_istore (by rfl) (by decide)
theorem e198_21 : zE 198 d Q 21 [l0, l1, l2, l3, some (zI x), l5, l6] st G h k ↔ zE 198 d Q 23 [l0, l1, l2, l3, some (zI x), l5, l6] (zI x :: st) G h k := E_iload (by rfl) rfl
theorem e198_23 : zE 198 d Q 23 [l0, l1, l2, l3, l4, l5, l6] (zI x :: st) G h k ↔ ((x ≤ 0 → zE 198 d Q 33 [l0, l1, l2, l3, l4, l5, l6] st G h k) ∧ (¬ (x ≤ 0) → zE 198 d Q 26 [l0, l1, l2, l3, l4, l5, l6] st G h k)) := E_if_le (by rfl)
theorem e198_26 : zE 198 d Q 26 [some (.inr (.inr w9)), l1, l2, l3, l4, l5, l6] st G h k ↔ zE 198 d Q 27 [some (.inr (.inr w9)), l1, l2, l3, l4, l5, l6] (.inr (.inr w9) :: st) G h k := E_aload_n (by rfl) rfl
theorem e198_27 : zE 198 d Q 27 [l0, l1, l2, l3, some (zI x), l5, l6] st G h k ↔ zE 198 d Q 29 [l0, l1, l2, l3, some (zI x), l5, l6] (zI x :: st) G h k := E_iload (by rfl) rfl
theorem e198_29 : zE 198 d Q 29 [l0, l1, l2, l3, l4, l5, l6] (v0 :: zR (some r) :: st) G h k ↔ (zsum st ≤ 8 ∧ G.2.1 r = 9 ∧ zRunD ztb zmt' d 114 [zR (some r), v0] G h (fun v G' h' => zE 198 d Q 32 [l0, l1, l2, l3, l4, l5, l6] (v.toList ++ st) G' h' k)) := E_invV2z (by rfl) (by decide) rfl
theorem e198_32 : zE 198 d Q 32 [l0, l1, l2, l3, l4, l5, l6] [zI x] G h k ↔ Q (some (zI x)) G h := E_iret (by rfl) rfl
theorem e198_33 : zE 198 d Q 33 [l0, l1, l2, some (zI x), l4, l5, l6] st G h k ↔ zE 198 d Q 36 [l0, l1, (zclr l2), some (zI (wr (x + 1))), l4, l5, l6] st G h k := E_iinc (by rfl) rfl
theorem e198_36 : zE 198 d Q 36 [l0, l1, l2, l3, l4, l5, l6] st G h k ↔ zE 198 d Q 7 [l0, l1, l2, l3, l4, l5, l6] st G h k := E_goto (by rfl)
theorem e198_39 : zE 198 d Q 39 [l0, l1, l2, l3, l4, l5, l6] st G h k ↔ zE 198 d Q 40 [l0, l1, l2, l3, l4, l5, l6] (zI 0 :: st) G h k := E_iconst (by rfl)
theorem e198_40 : zE 198 d Q 40 [l0, l1, l2, l3, l4, l5, l6] (zI x :: st) G h k ↔ zE 198 d Q 41 [l0, l1, (zclr l2), some (zI x), l4, l5, l6] st G h k := E_istore_n (by rfl) (by decide)
theorem e198_41 : zE 198 d Q 41 [l0, l1, l2, l3, l4, l5, l6] st G h k ↔ zE 198 d Q 42 [l0, l1, l2, l3, l4, l5, l6] (zL 0 :: st) G h k := E_lconst (by rfl)
theorem e198_42 : zE 198 d Q 42 [l0, l1, l2, l3, l4, l5, l6] (zL x :: st) G h k ↔ zE 198 d Q 44 [l0, l1, l2, (zclr l3), some (zL x), none, l6] st G h k := E_lstore (by rfl) (by decide)
theorem e198_44 : zE 198 d Q 44 [l0, l1, l2, l3, l4, l5, l6] st G h k ↔ zE 198 d Q 45 [l0, l1, l2, l3, l4, l5, l6] (zI 0 :: st) G h k := E_iconst (by rfl)
theorem e198_45 : zE 198 d Q 45 [l0, l1, l2, l3, l4, l5, l6] (zI x :: st) G h k ↔ zE 198 d Q 47 [l0, l1, l2, l3, l4, (zclr l5), some (zI x)] st G h k := E_istore (by rfl) (by decide)
theorem e198_47 : zE 198 d Q 47 [l0, l1, l2, l3, l4, l5, some (zI x)] st G h k ↔ zE 198 d Q 49 [l0, l1, l2, l3, l4, l5, some (zI x)] (zI x :: st) G h k := E_iload (by rfl) rfl
theorem e198_49 : zE 198 d Q 49 [l0, l1, l2, l3, l4, l5, l6] st G h k ↔ zE 198 d Q 50 [l0, l1, l2, l3, l4, l5, l6] (zI 5 :: st) G h k := E_iconst (by rfl)
theorem e198_50 : zE 198 d Q 50 [l0, l1, l2, l3, l4, l5, l6] (zI y :: zI x :: st) G h k ↔ ((y < x → zE 198 d Q 101 [l0, l1, l2, l3, l4, l5, l6] st G h k) ∧ (¬ (y < x) → zE 198 d Q 53 [l0, l1, l2, l3, l4, l5, l6] st G h k)) := E_icmp_gt (by rfl)
theorem e198_53 : zE 198 d Q 53 [some (.inr (.inr w9)), l1, l2, l3, l4, l5, l6] st G h k ↔ zE 198 d Q 54 [some (.inr (.inr w9)), l1, l2, l3, l4, l5, l6] (.inr (.inr w9) :: st) G h k := E_aload_n (by rfl) rfl
theorem e198_54 : zE 198 d Q 54 [l0, l1, l2, l3, l4, l5, some (zI x)] st G h k ↔ zE 198 d Q 56 [l0, l1, l2, l3, l4, l5, some (zI x)] (zI x :: st) G h k := E_iload (by rfl) rfl
theorem e198_56 : zE 198 d Q 56 [l0, l1, l2, l3, l4, l5, l6] (v0 :: zR (some r) :: st) G h k ↔ (zsum st ≤ 8 ∧ G.2.1 r = 9 ∧ zRunD ztb zmt' d 143 [zR (some r), v0] G h (fun v G' h' => zE 198 d Q 59 [l0, l1, l2, l3, l4, l5, l6] (v.toList ++ st) G' h' k)) := E_invV2z (by rfl) (by decide) rfl
theorem e198_59 : zE 198 d Q 59 [some (.inr (.inr w9)), l1, l2, l3, l4, l5, l6] st G h k ↔ zE 198 d Q 60 [some (.inr (.inr w9)), l1, l2, l3, l4, l5, l6] (.inr (.inr w9) :: st) G h k := E_aload_n (by rfl) rfl
theorem e198_60 : zE 198 d Q 60 [l0, l1, some (zI x), l3, l4, l5, l6] st G h k ↔ zE 198 d Q 61 [l0, l1, some (zI x), l3, l4, l5, l6] (zI x :: st) G h k := E_iload_n (by rfl) rfl
theorem e198_61 : zE 198 d Q 61 [l0, l1, l2, l3, l4, l5, l6] (v0 :: zR (some r) :: st) G h k ↔ (zsum st ≤ 8 ∧ G.2.1 r = 9 ∧ zRunD ztb zmt' d 194 [zR (some r), v0] G h (fun v G' h' => zE 198 d Q 64 [l0, l1, l2, l3, l4, l5, l6] (v.toList ++ st) G' h' k)) := E_invV2z (by rfl) (by decide) rfl
theorem e198_64 : zE 198 d Q 64 [l0, l1, l2, l3, l4, l5, some (zI x)] st G h k ↔ zE 198 d Q 66 [l0, l1, l2, l3, l4, l5, some (zI x)] (zI x :: st) G h k := E_iload (by rfl) rfl
theorem e198_66 : zE 198 d Q 66 [l0, l1, l2, l3, l4, l5, l6] (zI x :: st) G h k ↔ ((x ≤ 0 → zE 198 d Q 84 [l0, l1, l2, l3, l4, l5, l6] st G h k) ∧ (¬ (x ≤ 0) → zE 198 d Q 69 [l0, l1, l2, l3, l4, l5, l6] st G h k)) := E_if_le (by rfl)
theorem e198_69 : zE 198 d Q 69 [some (.inr (.inr w9)), l1, l2, l3, l4, l5, l6] st G h k ↔ zE 198 d Q 70 [some (.inr (.inr w9)), l1, l2, l3, l4, l5, l6] (.inr (.inr w9) :: st) G h k := E_aload_n (by rfl) rfl
theorem e198_70 : zE 198 d Q 70 [l0, l1, l2, l3, l4, l5, l6] (zR (some r) :: st) G h k ↔ (G.2.1 r = 9 ∧ zE 198 d Q 73 [l0, l1, l2, l3, l4, l5, l6] (zR (G.2.2.2 r 51) :: st) G h k) := E_getR (by rfl) rfl
theorem e198_73 : zE 198 d Q 73 [l0, some (zI x), l2, l3, l4, l5, l6] st G h k ↔ zE 198 d Q 74 [l0, some (zI x), l2, l3, l4, l5, l6] (zI x :: st) G h k := E_iload_n (by rfl) rfl
theorem e198_74 : zE 198 d Q 74 [l0, l1, l2, l3, l4, l5, l6] (zI i :: zR (some r) :: st) G h k ↔ (G.2.1 r = 11 ∧ (0 ≤ i ∧ i < G.2.2.1 r) ∧ zE 198 d Q 75 [l0, l1, l2, l3, l4, l5, l6] (zL (h r i.toNat) :: st) G h k) := E_laload (by rfl)
theorem e198_75 : zE 198 d Q 75 [l0, l1, l2, l3, some (zL x), l5, l6] st G h k ↔ zE 198 d Q 77 [l0, l1, l2, l3, some (zL x), l5, l6] (zL x :: st) G h k := E_lload (by rfl) rfl
theorem e198_77 : zE 198 d Q 77 [l0, l1, l2, l3, l4, l5, l6] (zL y :: zL x :: st) G h k ↔ zE 198 d Q 78 [l0, l1, l2, l3, l4, l5, l6] (zI (zlc x y) :: st) G h k := E_lcmp (by rfl)
theorem e198_78 : zE 198 d Q 78 [l0, l1, l2, l3, l4, l5, l6] (zI x :: st) G h k ↔ ((x < 0 → zE 198 d Q 84 [l0, l1, l2, l3, l4, l5, l6] st G h k) ∧ (¬ (x < 0) → zE 198 d Q 81 [l0, l1, l2, l3, l4, l5, l6] st G h k)) := E_if_lt (by rfl)
theorem e198_81 : zE 198 d Q 81 [l0, l1, l2, l3, l4, l5, l6] st G h k ↔ zE 198 d Q 95 [l0, l1, l2, l3, l4, l5, l6] st G h k := E_goto (by rfl)
theorem e198_84 : zE 198 d Q 84 [some (.inr (.inr w9)), l1, l2, l3, l4, l5, l6] st G h k ↔ zE 198 d Q 85 [some (.inr (.inr w9)), l1, l2, l3, l4, l5, l6] (.inr (.inr w9) :: st) G h k := E_aload_n (by rfl) rfl
theorem e198_85 : zE 198 d Q 85 [l0, l1, l2, l3, l4, l5, l6] (zR (some r) :: st) G h k ↔ (G.2.1 r = 9 ∧ zE 198 d Q 88 [l0, l1, l2, l3, l4, l5, l6] (zR (G.2.2.2 r 51) :: st) G h k) := E_getR (by rfl) rfl
theorem e198_88 : zE 198 d Q 88 [l0, some (zI x), l2, l3, l4, l5, l6] st G h k ↔ zE 198 d Q 89 [l0, some (zI x), l2, l3, l4, l5, l6] (zI x :: st) G h k := E_iload_n (by rfl) rfl
theorem e198_89 : zE 198 d Q 89 [l0, l1, l2, l3, l4, l5, l6] (zI i :: zR (some r) :: st) G h k ↔ (G.2.1 r = 11 ∧ (0 ≤ i ∧ i < G.2.2.1 r) ∧ zE 198 d Q 90 [l0, l1, l2, l3, l4, l5, l6] (zL (h r i.toNat) :: st) G h k) := E_laload (by rfl)
theorem e198_90 : zE 198 d Q 90 [l0, l1, l2, l3, l4, l5, l6] (zL x :: st) G h k ↔ zE 198 d Q 92 [l0, l1, l2, (zclr l3), some (zL x), none, l6] st G h k := E_lstore (by rfl) (by decide)
theorem e198_92 : zE 198 d Q 92 [l0, l1, l2, l3, l4, l5, some (zI x)] st G h k ↔ zE 198 d Q 94 [l0, l1, l2, l3, l4, l5, some (zI x)] (zI x :: st) G h k := E_iload (by rfl) rfl
theorem e198_94 : zE 198 d Q 94 [l0, l1, l2, l3, l4, l5, l6] (zI x :: st) G h k ↔ zE 198 d Q 95 [l0, l1, (zclr l2), some (zI x), l4, l5, l6] st G h k := E_istore_n (by rfl) (by decide)
theorem e198_95 : zE 198 d Q 95 [l0, l1, l2, l3, l4, l5, some (zI x)] st G h k ↔ zE 198 d Q 98 [l0, l1, l2, l3, l4, (zclr l5), some (zI (wr (x + 1)))] st G h k := E_iinc (by rfl) rfl
theorem e198_98 : zE 198 d Q 98 [l0, l1, l2, l3, l4, l5, l6] st G h k ↔ zE 198 d Q 47 [l0, l1, l2, l3, l4, l5, l6] st G h k := E_goto (by rfl)
theorem e198_101 : zE 198 d Q 101 [some (.inr (.inr w9)), l1, l2, l3, l4, l5, l6] st G h k ↔ zE 198 d Q 102 [some (.inr (.inr w9)), l1, l2, l3, l4, l5, l6] (.inr (.inr w9) :: st) G h k := E_aload_n (by rfl) rfl
theorem e198_102 : zE 198 d Q 102 [l0, l1, l2, some (zI x), l4, l5, l6] st G h k ↔ zE 198 d Q 103 [l0, l1, l2, some (zI x), l4, l5, l6] (zI x :: st) G h k := E_iload_n (by rfl) rfl
theorem e198_103 : zE 198 d Q 103 [l0, l1, l2, l3, l4, l5, l6] (v0 :: zR (some r) :: st) G h k ↔ (zsum st ≤ 8 ∧ G.2.1 r = 9 ∧ zRunD ztb zmt' d 117 [zR (some r), v0] G h (fun v G' h' => zE 198 d Q 106 [l0, l1, l2, l3, l4, l5, l6] (v.toList ++ st) G' h' k)) := E_invV2z (by rfl) (by decide) rfl
theorem e198_106 : zE 198 d Q 106 [l0, l1, l2, l3, l4, l5, l6] [zI x] G h k ↔ Q (some (zI x)) G h := E_iret (by rfl) rfl
theorem e199_0 : zE 199 d Q 0 [some (.inr (.inr w9)), l1, l2, l3] st G h k ↔ zE 199 d Q 1 [some (.inr (.inr w9)), l1, l2, l3] (.inr (.inr w9) :: st) G h k := E_aload_n (by rfl) rfl
theorem e199_1 : zE 199 d Q 1 [l0, l1, some (zI x), l3] st G h k ↔ zE 199 d Q 2 [l0, l1, some (zI x), l3] (zI x :: st) G h k := E_iload_n (by rfl) rfl
theorem e199_2 : zE 199 d Q 2 [l0, l1, l2, l3] (v0 :: zR (some r) :: st) G h k ↔ (zsum st ≤ 8 ∧ G.2.1 r = 9 ∧ zRunD ztb zmt' d 185 [zR (some r), v0] G h (fun v G' h' => zE 199 d Q 5 [l0, l1, l2, l3] (v.toList ++ st) G' h' k)) := E_invV2z (by rfl) (by decide) rfl
theorem e199_5 : zE 199 d Q 5 [l0, l1, l2, l3] (zI x :: st) G h k ↔ zE 199 d Q 6 [l0, l1, (zclr l2), some (zI x)] st G h k := E_istore_n (by rfl) (by decide)
theorem e199_6 : zE 199 d Q 6 [some (.inr (.inr w9)), l1, l2, l3] st G h k ↔ zE 199 d Q 7 [some (.inr (.inr w9)), l1, l2, l3] (.inr (.inr w9) :: st) G h k := E_aload_n (by rfl) rfl
theorem e199_7 : zE 199 d Q 7 [l0, l1, l2, l3] (zR (some r) :: st) G h k ↔ (G.2.1 r = 9 ∧ zE 199 d Q 10 [l0, l1, l2, l3] (zR (G.2.2.2 r 42) :: st) G h k) := E_getR (by rfl) rfl
theorem e199_10 : zE 199 d Q 10 [l0, l1, some (zI x), l3] st G h k ↔ zE 199 d Q 11 [l0, l1, some (zI x), l3] (zI x :: st) G h k := E_iload_n (by rfl) rfl
theorem e199_11 : zE 199 d Q 11 [l0, l1, l2, some (zI x)] st G h k ↔ zE 199 d Q 12 [l0, l1, l2, some (zI x)] (zI x :: st) G h k := E_iload_n (by rfl) rfl
theorem e199_12 : zE 199 d Q 12 [l0, some (zI x), l2, l3] st G h k ↔ zE 199 d Q 13 [l0, some (zI x), l2, l3] (zI x :: st) G h k := E_iload_n (by rfl) rfl
theorem e199_13 : zE 199 d Q 13 [l0, l1, l2, l3] (v2 :: v1 :: v0 :: st) G h k ↔ (zsum st ≤ 8 ∧ zRunD ztb zmt' d 177 [v0, v1, v2] G h (fun v G' h' => zE 199 d Q 16 [l0, l1, l2, l3] (v.toList ++ st) G' h' k)) := E_invS2z (by rfl) (by decide) rfl
theorem e199_16 : zE 199 d Q 16 [l0, l1, l2, l3] (zI i :: zR (some r) :: st) G h k ↔ (G.2.1 r = 11 ∧ (0 ≤ i ∧ i < G.2.2.1 r) ∧ zE 199 d Q 17 [l0, l1, l2, l3] (zL (h r i.toNat) :: st) G h k) := E_laload (by rfl)
theorem e199_17 : zE 199 d Q 17 [l0, l1, l2, l3] [zL x] G h k ↔ Q (some (zL x)) G h := E_lret (by rfl) rfl
theorem e200_0 : zE 200 d Q 0 [some (.inr (.inr w9)), l1, l2, l3] st G h k ↔ zE 200 d Q 1 [some (.inr (.inr w9)), l1, l2, l3] (.inr (.inr w9) :: st) G h k := E_aload_n (by rfl) rfl
theorem e200_1 : zE 200 d Q 1 [l0, l1, l2, l3] st G h k ↔ zE 200 d Q 2 [l0, l1, l2, l3] (zI 0 :: st) G h k := E_iconst (by rfl)
theorem e200_2 : zE 200 d Q 2 [l0, l1, l2, l3] (zI x :: zR (some r) :: st) G h k ↔ (G.2.1 r = 9 ∧ zE 200 d Q 5 [l0, l1, l2, l3] st G (zu h r 0 x) k) := E_putI (by rfl) rfl
theorem e200_5 : zE 200 d Q 5 [some (.inr (.inr w9)), l1, l2, l3] st G h k ↔ zE 200 d Q 6 [some (.inr (.inr w9)), l1, l2, l3] (.inr (.inr w9) :: st) G h k := E_aload_n (by rfl) rfl
theorem e200_6 : zE 200 d Q 6 [l0, some (zI x), l2, l3] st G h k ↔ zE 200 d Q 7 [l0, some (zI x), l2, l3] (zI x :: st) G h k := E_iload_n (by rfl) rfl
theorem e200_7 : zE 200 d Q 7 [l0, l1, l2, l3] (v0 :: zR (some r) :: st) G h k ↔ (zsum st ≤ 8 ∧ G.2.1 r = 9 ∧ zRunD ztb zmt' d 154 [zR (some r), v0] G h (fun v G' h' => zE 200 d Q 10 [l0, l1, l2, l3] (v.toList ++ st) G' h' k)) := E_invV2z (by rfl) (by decide) rfl
theorem e200_10 : zE 200 d Q 10 [l0, l1, l2, l3] (zI x :: st) G h k ↔ ((¬ x = 0 → zE 200 d Q 19 [l0, l1, l2, l3] st G h k) ∧ (¬ (¬ x = 0) → zE 200 d Q 13 [l0, l1, l2, l3] st G h k)) := E_if_ne (by rfl)
theorem e200_13 : zE 200 d Q 13 [some (.inr (.inr w9)), l1, l2, l3] st G h k ↔ zE 200 d Q 14 [some (.inr (.inr w9)), l1, l2, l3] (.inr (.inr w9) :: st) G h k := E_aload_n (by rfl) rfl
theorem e200_14 : zE 200 d Q 14 [l0, l1, l2, l3] st G h k ↔ zE 200 d Q 15 [l0, l1, l2, l3] (zI 1 :: st) G h k := E_iconst (by rfl)
theorem e200_15 : zE 200 d Q 15 [l0, l1, l2, l3] (v0 :: zR (some r) :: st) G h k ↔ (zsum st ≤ 8 ∧ G.2.1 r = 9 ∧ zRunD ztb zmt' d 115 [zR (some r), v0] G h (fun v G' h' => zE 200 d Q 18 [l0, l1, l2, l3] (v.toList ++ st) G' h' k)) := E_invV2z (by rfl) (by decide) rfl
theorem e200_18 : zE 200 d Q 18 [l0, l1, l2, l3] [zL x] G h k ↔ Q (some (zL x)) G h := E_lret (by rfl) rfl
theorem e200_19 : zE 200 d Q 19 [some (.inr (.inr w9)), l1, l2, l3] st G h k ↔ zE 200 d Q 20 [some (.inr (.inr w9)), l1, l2, l3] (.inr (.inr w9) :: st) G h k := E_aload_n (by rfl) rfl
theorem e200_20 : zE 200 d Q 20 [l0, l1, some (zI x), l3] st G h k ↔ zE 200 d Q 21 [l0, l1, some (zI x), l3] (zI x :: st) G h k := E_iload_n (by rfl) rfl
theorem e200_21 : zE 200 d Q 21 [l0, l1, l2, l3] (v0 :: zR (some r) :: st) G h k ↔ (zsum st ≤ 8 ∧ G.2.1 r = 9 ∧ zRunD ztb zmt' d 156 [zR (some r), v0] G h (fun v G' h' => zE 200 d Q 24 [l0, l1, l2, l3] (v.toList ++ st) G' h' k)) := E_invV2z (by rfl) (by decide) rfl
theorem e200_24 : zE 200 d Q 24 [l0, l1, l2, l3] (zI x :: st) G h k ↔ ((x = 0 → zE 200 d Q 36 [l0, l1, l2, l3] st G h k) ∧ (¬ (x = 0) → zE 200 d Q 27 [l0, l1, l2, l3] st G h k)) := E_if_eq (by rfl)
theorem e200_27 : zE 200 d Q 27 [l0, l1, l2, some (zI x)] st G h k ↔ zE 200 d Q 28 [l0, l1, l2, some (zI x)] (zI x :: st) G h k := E_iload_n (by rfl) rfl
theorem e200_28 : zE 200 d Q 28 [l0, l1, l2, l3] st G h k ↔ zE 200 d Q 29 [l0, l1, l2, l3] (zI 1 :: st) G h k := E_iconst (by rfl)
theorem e200_29 : zE 200 d Q 29 [l0, l1, l2, l3] st G h k ↔ zE 200 d Q 30 [l0, l1, l2, l3] (zI 3 :: st) G h k := E_iconst (by rfl)
theorem e200_30 : zE 200 d Q 30 [l0, l1, l2, l3] (v2 :: v1 :: v0 :: st) G h k ↔ (zsum st ≤ 8 ∧ zRunD ztb zmt' d 120 [v0, v1, v2] G h (fun v G' h' => zE 200 d Q 33 [l0, l1, l2, l3] (v.toList ++ st) G' h' k)) := E_invS2z (by rfl) (by decide) rfl
theorem e200_33 : zE 200 d Q 33 [l0, l1, l2, l3] (zI x :: st) G h k ↔ ((¬ x = 0 → zE 200 d Q 42 [l0, l1, l2, l3] st G h k) ∧ (¬ (¬ x = 0) → zE 200 d Q 36 [l0, l1, l2, l3] st G h k)) := E_if_ne (by rfl)
theorem e200_36 : zE 200 d Q 36 [some (.inr (.inr w9)), l1, l2, l3] st G h k ↔ zE 200 d Q 37 [some (.inr (.inr w9)), l1, l2, l3] (.inr (.inr w9) :: st) G h k := E_aload_n (by rfl) rfl
theorem e200_37 : zE 200 d Q 37 [l0, l1, l2, l3] st G h k ↔ zE 200 d Q 38 [l0, l1, l2, l3] (zI 2 :: st) G h k := E_iconst (by rfl)
theorem e200_38 : zE 200 d Q 38 [l0, l1, l2, l3] (v0 :: zR (some r) :: st) G h k ↔ (zsum st ≤ 8 ∧ G.2.1 r = 9 ∧ zRunD ztb zmt' d 115 [zR (some r), v0] G h (fun v G' h' => zE 200 d Q 41 [l0, l1, l2, l3] (v.toList ++ st) G' h' k)) := E_invV2z (by rfl) (by decide) rfl
theorem e200_41 : zE 200 d Q 41 [l0, l1, l2, l3] [zL x] G h k ↔ Q (some (zL x)) G h := E_lret (by rfl) rfl
theorem e200_42 : zE 200 d Q 42 [some (.inr (.inr w9)), l1, l2, l3] st G h k ↔ zE 200 d Q 43 [some (.inr (.inr w9)), l1, l2, l3] (.inr (.inr w9) :: st) G h k := E_aload_n (by rfl) rfl
theorem e200_43 : zE 200 d Q 43 [l0, l1, l2, l3] st G h k ↔ zE 200 d Q 44 [l0, l1, l2, l3] (zI 0 :: st) G h k := E_iconst (by rfl)
theorem e200_44 : zE 200 d Q 44 [l0, l1, l2, l3] (v0 :: zR (some r) :: st) G h k ↔ (zsum st ≤ 8 ∧ G.2.1 r = 9 ∧ zRunD ztb zmt' d 143 [zR (some r), v0] G h (fun v G' h' => zE 200 d Q 47 [l0, l1, l2, l3] (v.toList ++ st) G' h' k)) := E_invV2z (by rfl) (by decide) rfl
theorem e200_47 : zE 200 d Q 47 [some (.inr (.inr w9)), l1, l2, l3] st G h k ↔ zE 200 d Q 48 [some (.inr (.inr w9)), l1, l2, l3] (.inr (.inr w9) :: st) G h k := E_aload_n (by rfl) rfl
theorem e200_48 : zE 200 d Q 48 [l0, l1, l2, some (zI x)] st G h k ↔ zE 200 d Q 49 [l0, l1, l2, some (zI x)] (zI x :: st) G h k := E_iload_n (by rfl) rfl
theorem e200_49 : zE 200 d Q 49 [l0, l1, l2, l3] (v0 :: zR (some r) :: st) G h k ↔ (zsum st ≤ 8 ∧ G.2.1 r = 9 ∧ zRunD ztb zmt' d 171 [zR (some r), v0] G h (fun v G' h' => zE 200 d Q 52 [l0, l1, l2, l3] (v.toList ++ st) G' h' k)) := E_invV2z (by rfl) (by decide) rfl
theorem e200_52 : zE 200 d Q 52 [l0, l1, l2, l3] (zI x :: st) G h k ↔ ((x = 0 → zE 200 d Q 61 [l0, l1, l2, l3] st G h k) ∧ (¬ (x = 0) → zE 200 d Q 55 [l0, l1, l2, l3] st G h k)) := E_if_eq (by rfl)
theorem e200_55 : zE 200 d Q 55 [some (.inr (.inr w9)), l1, l2, l3] st G h k ↔ zE 200 d Q 56 [some (.inr (.inr w9)), l1, l2, l3] (.inr (.inr w9) :: st) G h k := E_aload_n (by rfl) rfl
theorem e200_56 : zE 200 d Q 56 [l0, l1, l2, l3] st G h k ↔ zE 200 d Q 57 [l0, l1, l2, l3] (zI 3 :: st) G h k := E_iconst (by rfl)
theorem e200_57 : zE 200 d Q 57 [l0, l1, l2, l3] (v0 :: zR (some r) :: st) G h k ↔ (zsum st ≤ 8 ∧ G.2.1 r = 9 ∧ zRunD ztb zmt' d 115 [zR (some r), v0] G h (fun v G' h' => zE 200 d Q 60 [l0, l1, l2, l3] (v.toList ++ st) G' h' k)) := E_invV2z (by rfl) (by decide) rfl
theorem e200_60 : zE 200 d Q 60 [l0, l1, l2, l3] [zL x] G h k ↔ Q (some (zL x)) G h := E_lret (by rfl) rfl
theorem e200_61 : zE 200 d Q 61 [some (.inr (.inr w9)), l1, l2, l3] st G h k ↔ zE 200 d Q 62 [some (.inr (.inr w9)), l1, l2, l3] (.inr (.inr w9) :: st) G h k := E_aload_n (by rfl) rfl
theorem e200_62 : zE 200 d Q 62 [l0, some (zI x), l2, l3] st G h k ↔ zE 200 d Q 63 [l0, some (zI x), l2, l3] (zI x :: st) G h k := E_iload_n (by rfl) rfl
theorem e200_63 : zE 200 d Q 63 [l0, l1, l2, l3] (zI x :: zR (some r) :: st) G h k ↔ (G.2.1 r = 9 ∧ zE 200 d Q 66 [l0, l1, l2, l3] st G (zu h r 20 x) k) := E_putI (by rfl) rfl
theorem e200_66 : zE 200 d Q 66 [some (.inr (.inr w9)), l1, l2, l3] st G h k ↔ zE 200 d Q 67 [some (.inr (.inr w9)), l1, l2, l3] (.inr (.inr w9) :: st) G h k := E_aload_n (by rfl) rfl
theorem e200_67 : zE 200 d Q 67 [l0, l1, some (zI x), l3] st G h k ↔ zE 200 d Q 68 [l0, l1, some (zI x), l3] (zI x :: st) G h k := E_iload_n (by rfl) rfl
theorem e200_68 : zE 200 d Q 68 [l0, l1, l2, l3] (zI x :: zR (some r) :: st) G h k ↔ (G.2.1 r = 9 ∧ zE 200 d Q 71 [l0, l1, l2, l3] st G (zu h r 21 x) k) := E_putI (by rfl) rfl
theorem e200_71 : zE 200 d Q 71 [some (.inr (.inr w9)), l1, l2, l3] st G h k ↔ zE 200 d Q 72 [some (.inr (.inr w9)), l1, l2, l3] (.inr (.inr w9) :: st) G h k := E_aload_n (by rfl) rfl
theorem e200_72 : zE 200 d Q 72 [l0, l1, l2, some (zI x)] st G h k ↔ zE 200 d Q 73 [l0, l1, l2, some (zI x)] (zI x :: st) G h k := E_iload_n (by rfl) rfl
theorem e200_73 : zE 200 d Q 73 [l0, l1, l2, l3] (v0 :: zR (some r) :: st) G h k ↔ (zsum st ≤ 8 ∧ G.2.1 r = 9 ∧ zRunD ztb zmt' d 186 [zR (some r), v0] G h (fun v G' h' => zE 200 d Q 76 [l0, l1, l2, l3] (v.toList ++ st) G' h' k)) := E_invV2z (by rfl) (by decide) rfl
theorem e200_76 : zE 200 d Q 76 [some (.inr (.inr w9)), l1, l2, l3] st G h k ↔ zE 200 d Q 77 [some (.inr (.inr w9)), l1, l2, l3] (.inr (.inr w9) :: st) G h k := E_aload_n (by rfl) rfl
theorem e200_77 : zE 200 d Q 77 [some (.inr (.inr w9)), l1, l2, l3] st G h k ↔ zE 200 d Q 78 [some (.inr (.inr w9)), l1, l2, l3] (.inr (.inr w9) :: st) G h k := E_aload_n (by rfl) rfl
theorem e200_78 : zE 200 d Q 78 [l0, some (zI x), l2, l3] st G h k ↔ zE 200 d Q 79 [l0, some (zI x), l2, l3] (zI x :: st) G h k := E_iload_n (by rfl) rfl
theorem e200_79 : zE 200 d Q 79 [l0, l1, l2, some (zI x)] st G h k ↔ zE 200 d Q 80 [l0, l1, l2, some (zI x)] (zI x :: st) G h k := E_iload_n (by rfl) rfl
theorem e200_80 : zE 200 d Q 80 [l0, l1, l2, l3] (v1 :: v0 :: zR (some r) :: st) G h k ↔ (zsum st ≤ 8 ∧ G.2.1 r = 9 ∧ zRunD ztb zmt' d 199 [zR (some r), v0, v1] G h (fun v G' h' => zE 200 d Q 83 [l0, l1, l2, l3] (v.toList ++ st) G' h' k)) := E_invV2z (by rfl) (by decide) rfl
theorem e200_83 : zE 200 d Q 83 [l0, l1, l2, l3] (v0 :: zR (some r) :: st) G h k ↔ (zsum st ≤ 8 ∧ G.2.1 r = 9 ∧ zRunD ztb zmt' d 118 [zR (some r), v0] G h (fun v G' h' => zE 200 d Q 86 [l0, l1, l2, l3] (v.toList ++ st) G' h' k)) := E_invV2z (by rfl) (by decide) rfl
theorem e200_86 : zE 200 d Q 86 [l0, l1, l2, l3] [zL x] G h k ↔ Q (some (zL x)) G h := E_lret (by rfl) rfl
theorem e201_0 : zE 201 d Q 0 [some (.inr (.inr w9)), l1, l2, l3] st G h k ↔ zE 201 d Q 1 [some (.inr (.inr w9)), l1, l2, l3] (.inr (.inr w9) :: st) G h k := E_aload_n (by rfl) rfl
theorem e201_1 : zE 201 d Q 1 [l0, l1, l2, l3] st G h k ↔ zE 201 d Q 2 [l0, l1, l2, l3] (zI 0 :: st) G h k := E_iconst (by rfl)
theorem e201_2 : zE 201 d Q 2 [l0, l1, l2, l3] (v0 :: zR (some r) :: st) G h k ↔ (zsum st ≤ 8 ∧ G.2.1 r = 9 ∧ zRunD ztb zmt' d 143 [zR (some r), v0] G h (fun v G' h' => zE 201 d Q 5 [l0, l1, l2, l3] (v.toList ++ st) G' h' k)) := E_invV2z (by rfl) (by decide) rfl
theorem e201_5 : zE 201 d Q 5 [some (.inr (.inr w9)), l1, l2, l3] st G h k ↔ zE 201 d Q 6 [some (.inr (.inr w9)), l1, l2, l3] (.inr (.inr w9) :: st) G h k := E_aload_n (by rfl) rfl
theorem e201_6 : zE 201 d Q 6 [l0, l1, l2, l3] (zR (some r) :: st) G h k ↔ (G.2.1 r = 9 ∧ zE 201 d Q 9 [l0, l1, l2, l3] (zR (G.2.2.2 r 22) :: st) G h k) := E_getR (by rfl) rfl
theorem e201_9 : zE 201 d Q 9 [l0, some (zI x), l2, l3] st G h k ↔ zE 201 d Q 10 [l0, some (zI x), l2, l3] (zI x :: st) G h k := E_iload_n (by rfl) rfl
theorem e201_10 : zE 201 d Q 10 [some (.inr (.inr w9)), l1, l2, l3] st G h k ↔ zE 201 d Q 11 [some (.inr (.inr w9)), l1, l2, l3] (.inr (.inr w9) :: st) G h k := E_aload_n (by rfl) rfl
theorem e201_11 : zE 201 d Q 11 [l0, l1, l2, l3] (zR (some r) :: st) G h k ↔ (G.2.1 r = 9 ∧ zE 201 d Q 14 [l0, l1, l2, l3] (zR (G.2.2.2 r 3) :: st) G h k) := E_getR (by rfl) rfl
theorem e201_14 : zE 201 d Q 14 [l0, l1, l2, l3] (zR (some r) :: st) G h k ↔ (G.2.1 r = 8 ∧ zE 201 d Q 17 [l0, l1, l2, l3] (zR (G.2.2.2 r 7) :: st) G h k) := E_getR (by rfl) rfl
theorem e201_17 : zE 201 d Q 17 [l0, l1, some (zI x), l3] st G h k ↔ zE 201 d Q 18 [l0, l1, some (zI x), l3] (zI x :: st) G h k := E_iload_n (by rfl) rfl
theorem e201_18 : zE 201 d Q 18 [l0, l1, l2, l3] (zI i :: zR (some r) :: st) G h k ↔ (G.2.1 r = 10 ∧ (0 ≤ i ∧ i < G.2.2.1 r) ∧ zE 201 d Q 19 [l0, l1, l2, l3] (zI (h r i.toNat) :: st) G h k) := E_iaload (by rfl)
theorem e201_19 : zE 201 d Q 19 [l0, l1, l2, l3] (zI x :: zI i :: zR (some r) :: st) G h k ↔ (G.2.1 r = 10 ∧ (0 ≤ i ∧ i < G.2.2.1 r) ∧ zE 201 d Q 20 [l0, l1, l2, l3] st G (zu h r i.toNat x) k) := E_iastore (by rfl)
theorem e201_20 : zE 201 d Q 20 [some (.inr (.inr w9)), l1, l2, l3] st G h k ↔ zE 201 d Q 21 [some (.inr (.inr w9)), l1, l2, l3] (.inr (.inr w9) :: st) G h k := E_aload_n (by rfl) rfl
theorem e201_21 : zE 201 d Q 21 [l0, l1, l2, some (zI x)] st G h k ↔ zE 201 d Q 22 [l0, l1, l2, some (zI x)] (zI x :: st) G h k := E_iload_n (by rfl) rfl
theorem e201_22 : zE 201 d Q 22 [l0, l1, l2, l3] (v0 :: zR (some r) :: st) G h k ↔ (zsum st ≤ 8 ∧ G.2.1 r = 9 ∧ zRunD ztb zmt' d 186 [zR (some r), v0] G h (fun v G' h' => zE 201 d Q 25 [l0, l1, l2, l3] (v.toList ++ st) G' h' k)) := E_invV2z (by rfl) (by decide) rfl
theorem e201_25 : zE 201 d Q 25 [some (.inr (.inr w9)), l1, l2, l3] st G h k ↔ zE 201 d Q 26 [some (.inr (.inr w9)), l1, l2, l3] (.inr (.inr w9) :: st) G h k := E_aload_n (by rfl) rfl
theorem e201_26 : zE 201 d Q 26 [l0, some (zI x), l2, l3] st G h k ↔ zE 201 d Q 27 [l0, some (zI x), l2, l3] (zI x :: st) G h k := E_iload_n (by rfl) rfl
theorem e201_27 : zE 201 d Q 27 [l0, l1, l2, some (zI x)] st G h k ↔ zE 201 d Q 28 [l0, l1, l2, some (zI x)] (zI x :: st) G h k := E_iload_n (by rfl) rfl
theorem e201_28 : zE 201 d Q 28 [l0, l1, l2, l3] (v1 :: v0 :: zR (some r) :: st) G h k ↔ (zsum st ≤ 8 ∧ G.2.1 r = 9 ∧ zRunD ztb zmt' d 199 [zR (some r), v0, v1] G h (fun v G' h' => zE 201 d Q 31 [l0, l1, l2, l3] (v.toList ++ st) G' h' k)) := E_invV2z (by rfl) (by decide) rfl
theorem e201_31 : zE 201 d Q 31 [l0, l1, l2, l3] [zL x] G h k ↔ Q (some (zL x)) G h := E_lret (by rfl) rfl
theorem e202_0 : zE 202 d Q 0 [some (.inr (.inr w9)), l1, l2, l3] st G h k ↔ zE 202 d Q 1 [some (.inr (.inr w9)), l1, l2, l3] (.inr (.inr w9) :: st) G h k := E_aload_n (by rfl) rfl
theorem e202_1 : zE 202 d Q 1 [l0, l1, l2, l3] st G h k ↔ zE 202 d Q 2 [l0, l1, l2, l3] (zI 0 :: st) G h k := E_iconst (by rfl)
theorem e202_2 : zE 202 d Q 2 [l0, l1, l2, l3] (zI x :: zR (some r) :: st) G h k ↔ (G.2.1 r = 9 ∧ zE 202 d Q 5 [l0, l1, l2, l3] st G (zu h r 0 x) k) := E_putI (by rfl) rfl
theorem e202_5 : zE 202 d Q 5 [some (.inr (.inr w9)), l1, l2, l3] st G h k ↔ zE 202 d Q 6 [some (.inr (.inr w9)), l1, l2, l3] (.inr (.inr w9) :: st) G h k := E_aload_n (by rfl) rfl
theorem e202_6 : zE 202 d Q 6 [l0, some (zI x), l2, l3] st G h k ↔ zE 202 d Q 7 [l0, some (zI x), l2, l3] (zI x :: st) G h k := E_iload_n (by rfl) rfl
theorem e202_7 : zE 202 d Q 7 [l0, l1, l2, l3] (v0 :: zR (some r) :: st) G h k ↔ (zsum st ≤ 8 ∧ G.2.1 r = 9 ∧ zRunD ztb zmt' d 154 [zR (some r), v0] G h (fun v G' h' => zE 202 d Q 10 [l0, l1, l2, l3] (v.toList ++ st) G' h' k)) := E_invV2z (by rfl) (by decide) rfl
theorem e202_10 : zE 202 d Q 10 [l0, l1, l2, l3] (zI x :: st) G h k ↔ ((x = 0 → zE 202 d Q 21 [l0, l1, l2, l3] st G h k) ∧ (¬ (x = 0) → zE 202 d Q 13 [l0, l1, l2, l3] st G h k)) := E_if_eq (by rfl)
theorem e202_13 : zE 202 d Q 13 [some (.inr (.inr w9)), l1, l2, l3] st G h k ↔ zE 202 d Q 14 [some (.inr (.inr w9)), l1, l2, l3] (.inr (.inr w9) :: st) G h k := E_aload_n (by rfl) rfl
theorem e202_14 : zE 202 d Q 14 [l0, l1, some (zI x), l3] st G h k ↔ zE 202 d Q 15 [l0, l1, some (zI x), l3] (zI x :: st) G h k := E_iload_n (by rfl) rfl
theorem e202_15 : zE 202 d Q 15 [l0, l1, l2, l3] (v0 :: zR (some r) :: st) G h k ↔ (zsum st ≤ 8 ∧ G.2.1 r = 9 ∧ zRunD ztb zmt' d 154 [zR (some r), v0] G h (fun v G' h' => zE 202 d Q 18 [l0, l1, l2, l3] (v.toList ++ st) G' h' k)) := E_invV2z (by rfl) (by decide) rfl
theorem e202_18 : zE 202 d Q 18 [l0, l1, l2, l3] (zI x :: st) G h k ↔ ((¬ x = 0 → zE 202 d Q 27 [l0, l1, l2, l3] st G h k) ∧ (¬ (¬ x = 0) → zE 202 d Q 21 [l0, l1, l2, l3] st G h k)) := E_if_ne (by rfl)
theorem e202_21 : zE 202 d Q 21 [some (.inr (.inr w9)), l1, l2, l3] st G h k ↔ zE 202 d Q 22 [some (.inr (.inr w9)), l1, l2, l3] (.inr (.inr w9) :: st) G h k := E_aload_n (by rfl) rfl
theorem e202_22 : zE 202 d Q 22 [l0, l1, l2, l3] st G h k ↔ zE 202 d Q 23 [l0, l1, l2, l3] (zI 1 :: st) G h k := E_iconst (by rfl)
theorem e202_23 : zE 202 d Q 23 [l0, l1, l2, l3] (v0 :: zR (some r) :: st) G h k ↔ (zsum st ≤ 8 ∧ G.2.1 r = 9 ∧ zRunD ztb zmt' d 115 [zR (some r), v0] G h (fun v G' h' => zE 202 d Q 26 [l0, l1, l2, l3] (v.toList ++ st) G' h' k)) := E_invV2z (by rfl) (by decide) rfl
theorem e202_26 : zE 202 d Q 26 [l0, l1, l2, l3] [zL x] G h k ↔ Q (some (zL x)) G h := E_lret (by rfl) rfl
theorem e202_27 : zE 202 d Q 27 [l0, l1, l2, some (zI x)] st G h k ↔ zE 202 d Q 28 [l0, l1, l2, some (zI x)] (zI x :: st) G h k := E_iload_n (by rfl) rfl
theorem e202_28 : zE 202 d Q 28 [l0, l1, l2, l3] st G h k ↔ zE 202 d Q 29 [l0, l1, l2, l3] (zI 1 :: st) G h k := E_iconst (by rfl)
theorem e202_29 : zE 202 d Q 29 [l0, l1, l2, l3] st G h k ↔ zE 202 d Q 30 [l0, l1, l2, l3] (zI 3 :: st) G h k := E_iconst (by rfl)
theorem e202_30 : zE 202 d Q 30 [l0, l1, l2, l3] (v2 :: v1 :: v0 :: st) G h k ↔ (zsum st ≤ 8 ∧ zRunD ztb zmt' d 120 [v0, v1, v2] G h (fun v G' h' => zE 202 d Q 33 [l0, l1, l2, l3] (v.toList ++ st) G' h' k)) := E_invS2z (by rfl) (by decide) rfl
theorem e202_33 : zE 202 d Q 33 [l0, l1, l2, l3] (zI x :: st) G h k ↔ ((¬ x = 0 → zE 202 d Q 42 [l0, l1, l2, l3] st G h k) ∧ (¬ (¬ x = 0) → zE 202 d Q 36 [l0, l1, l2, l3] st G h k)) := E_if_ne (by rfl)
theorem e202_36 : zE 202 d Q 36 [some (.inr (.inr w9)), l1, l2, l3] st G h k ↔ zE 202 d Q 37 [some (.inr (.inr w9)), l1, l2, l3] (.inr (.inr w9) :: st) G h k := E_aload_n (by rfl) rfl
theorem e202_37 : zE 202 d Q 37 [l0, l1, l2, l3] st G h k ↔ zE 202 d Q 38 [l0, l1, l2, l3] (zI 2 :: st) G h k := E_iconst (by rfl)
theorem e202_38 : zE 202 d Q 38 [l0, l1, l2, l3] (v0 :: zR (some r) :: st) G h k ↔ (zsum st ≤ 8 ∧ G.2.1 r = 9 ∧ zRunD ztb zmt' d 115 [zR (some r), v0] G h (fun v G' h' => zE 202 d Q 41 [l0, l1, l2, l3] (v.toList ++ st) G' h' k)) := E_invV2z (by rfl) (by decide) rfl
theorem e202_41 : zE 202 d Q 41 [l0, l1, l2, l3] [zL x] G h k ↔ Q (some (zL x)) G h := E_lret (by rfl) rfl
theorem e202_42 : zE 202 d Q 42 [some (.inr (.inr w9)), l1, l2, l3] st G h k ↔ zE 202 d Q 43 [some (.inr (.inr w9)), l1, l2, l3] (.inr (.inr w9) :: st) G h k := E_aload_n (by rfl) rfl
theorem e202_43 : zE 202 d Q 43 [l0, l1, l2, l3] st G h k ↔ zE 202 d Q 44 [l0, l1, l2, l3] (zI 0 :: st) G h k := E_iconst (by rfl)
theorem e202_44 : zE 202 d Q 44 [l0, l1, l2, l3] (v0 :: zR (some r) :: st) G h k ↔ (zsum st ≤ 8 ∧ G.2.1 r = 9 ∧ zRunD ztb zmt' d 143 [zR (some r), v0] G h (fun v G' h' => zE 202 d Q 47 [l0, l1, l2, l3] (v.toList ++ st) G' h' k)) := E_invV2z (by rfl) (by decide) rfl
theorem e202_47 : zE 202 d Q 47 [some (.inr (.inr w9)), l1, l2, l3] st G h k ↔ zE 202 d Q 48 [some (.inr (.inr w9)), l1, l2, l3] (.inr (.inr w9) :: st) G h k := E_aload_n (by rfl) rfl
theorem e202_48 : zE 202 d Q 48 [l0, l1, l2, some (zI x)] st G h k ↔ zE 202 d Q 49 [l0, l1, l2, some (zI x)] (zI x :: st) G h k := E_iload_n (by rfl) rfl
theorem e202_49 : zE 202 d Q 49 [l0, l1, l2, l3] (v0 :: zR (some r) :: st) G h k ↔ (zsum st ≤ 8 ∧ G.2.1 r = 9 ∧ zRunD ztb zmt' d 171 [zR (some r), v0] G h (fun v G' h' => zE 202 d Q 52 [l0, l1, l2, l3] (v.toList ++ st) G' h' k)) := E_invV2z (by rfl) (by decide) rfl
theorem e202_52 : zE 202 d Q 52 [l0, l1, l2, l3] (zI x :: st) G h k ↔ ((x = 0 → zE 202 d Q 63 [l0, l1, l2, l3] st G h k) ∧ (¬ (x = 0) → zE 202 d Q 55 [l0, l1, l2, l3] st G h k)) := E_if_eq (by rfl)
theorem e202_55 : zE 202 d Q 55 [some (.inr (.inr w9)), l1, l2, l3] st G h k ↔ zE 202 d Q 56 [some (.inr (.inr w9)), l1, l2, l3] (.inr (.inr w9) :: st) G h k := E_aload_n (by rfl) rfl
theorem e202_56 : zE 202 d Q 56 [l0, l1, l2, l3] st G h k ↔ zE 202 d Q 57 [l0, l1, l2, l3] (zI 3 :: st) G h k := E_iconst (by rfl)
theorem e202_57 : zE 202 d Q 57 [l0, l1, l2, l3] (v0 :: zR (some r) :: st) G h k ↔ (zsum st ≤ 8 ∧ G.2.1 r = 9 ∧ zRunD ztb zmt' d 115 [zR (some r), v0] G h (fun v G' h' => zE 202 d Q 60 [l0, l1, l2, l3] (v.toList ++ st) G' h' k)) := E_invV2z (by rfl) (by decide) rfl
theorem e202_60 : zE 202 d Q 60 [l0, l1, l2, l3] st G h k ↔ zE 202 d Q 74 [l0, l1, l2, l3] st G h k := E_goto (by rfl)
theorem e202_63 : zE 202 d Q 63 [some (.inr (.inr w9)), l1, l2, l3] st G h k ↔ zE 202 d Q 64 [some (.inr (.inr w9)), l1, l2, l3] (.inr (.inr w9) :: st) G h k := E_aload_n (by rfl) rfl
theorem e202_64 : zE 202 d Q 64 [some (.inr (.inr w9)), l1, l2, l3] st G h k ↔ zE 202 d Q 65 [some (.inr (.inr w9)), l1, l2, l3] (.inr (.inr w9) :: st) G h k := E_aload_n (by rfl) rfl
theorem e202_65 : zE 202 d Q 65 [l0, some (zI x), l2, l3] st G h k ↔ zE 202 d Q 66 [l0, some (zI x), l2, l3] (zI x :: st) G h k := E_iload_n (by rfl) rfl
theorem e202_66 : zE 202 d Q 66 [l0, l1, some (zI x), l3] st G h k ↔ zE 202 d Q 67 [l0, l1, some (zI x), l3] (zI x :: st) G h k := E_iload_n (by rfl) rfl
theorem e202_67 : zE 202 d Q 67 [l0, l1, l2, some (zI x)] st G h k ↔ zE 202 d Q 68 [l0, l1, l2, some (zI x)] (zI x :: st) G h k := E_iload_n (by rfl) rfl
theorem e202_68 : zE 202 d Q 68 [l0, l1, l2, l3] (v2 :: v1 :: v0 :: zR (some r) :: st) G h k ↔ (zsum st ≤ 8 ∧ G.2.1 r = 9 ∧ zRunD ztb zmt' d 201 [zR (some r), v0, v1, v2] G h (fun v G' h' => zE 202 d Q 71 [l0, l1, l2, l3] (v.toList ++ st) G' h' k)) := E_invV2z (by rfl) (by decide) rfl
theorem e202_71 : zE 202 d Q 71 [l0, l1, l2, l3] (v0 :: zR (some r) :: st) G h k ↔ (zsum st ≤ 8 ∧ G.2.1 r = 9 ∧ zRunD ztb zmt' d 118 [zR (some r), v0] G h (fun v G' h' => zE 202 d Q 74 [l0, l1, l2, l3] (v.toList ++ st) G' h' k)) := E_invV2z (by rfl) (by decide) rfl
theorem e202_74 : zE 202 d Q 74 [l0, l1, l2, l3] [zL x] G h k ↔ Q (some (zL x)) G h := E_lret (by rfl) rfl
theorem e203_0 : zE 203 d Q 0 [some (.inr (.inr w9)), l1, l2, l3, l4, l5, l6, l7, l8] st G h k ↔ zE 203 d Q 1 [some (.inr (.inr w9)), l1, l2, l3, l4, l5, l6, l7, l8] (.inr (.inr w9) :: st) G h k := E_aload_n (by rfl) rfl
theorem e203_1 : zE 203 d Q 1 [l0, l1, l2, l3, l4, l5, l6, l7, l8] st G h k ↔ zE 203 d Q 2 [l0, l1, l2, l3, l4, l5, l6, l7, l8] (zI 0 :: st) G h k := E_iconst (by rfl)
theorem e203_2 : zE 203 d Q 2 [l0, l1, l2, l3, l4, l5, l6, l7, l8] (zI x :: zR (some r) :: st) G h k ↔ (G.2.1 r = 9 ∧ zE 203 d Q 5 [l0, l1, l2, l3, l4, l5, l6, l7, l8] st G (zu h r 0 x) k) := E_putI (by rfl) rfl
theorem e203_5 : zE 203 d Q 5 [some (.inr (.inr w9)), l1, l2, l3, l4, l5, l6, l7, l8] st G h k ↔ zE 203 d Q 6 [some (.inr (.inr w9)), l1, l2, l3, l4, l5, l6, l7, l8] (.inr (.inr w9) :: st) G h k := E_aload_n (by rfl) rfl
theorem e203_6 : zE 203 d Q 6 [l0, some (zI x), l2, l3, l4, l5, l6, l7, l8] st G h k ↔ zE 203 d Q 7 [l0, some (zI x), l2, l3, l4, l5, l6, l7, l8] (zI x :: st) G h k := E_iload_n (by rfl) rfl
theorem e203_7 : zE 203 d Q 7 [l0, l1, l2, l3, l4, l5, l6, l7, l8] (v0 :: zR (some r) :: st) G h k ↔ (zsum st ≤ 8 ∧ G.2.1 r = 9 ∧ zRunD ztb zmt' d 154 [zR (some r), v0] G h (fun v G' h' => zE 203 d Q 10 [l0, l1, l2, l3, l4, l5, l6, l7, l8] (v.toList ++ st) G' h' k)) := E_invV2z (by rfl) (by decide) rfl
theorem e203_10 : zE 203 d Q 10 [l0, l1, l2, l3, l4, l5, l6, l7, l8] (zI x :: st) G h k ↔ ((¬ x = 0 → zE 203 d Q 19 [l0, l1, l2, l3, l4, l5, l6, l7, l8] st G h k) ∧ (¬ (¬ x = 0) → zE 203 d Q 13 [l0, l1, l2, l3, l4, l5, l6, l7, l8] st G h k)) := E_if_ne (by rfl)
theorem e203_13 : zE 203 d Q 13 [some (.inr (.inr w9)), l1, l2, l3, l4, l5, l6, l7, l8] st G h k ↔ zE 203 d Q 14 [some (.inr (.inr w9)), l1, l2, l3, l4, l5, l6, l7, l8] (.inr (.inr w9) :: st) G h k := E_aload_n (by rfl) rfl
theorem e203_14 : zE 203 d Q 14 [l0, l1, l2, l3, l4, l5, l6, l7, l8] st G h k ↔ zE 203 d Q 15 [l0, l1, l2, l3, l4, l5, l6, l7, l8] (zI 1 :: st) G h k := E_iconst (by rfl)
theorem e203_15 : zE 203 d Q 15 [l0, l1, l2, l3, l4, l5, l6, l7, l8] (v0 :: zR (some r) :: st) G h k ↔ (zsum st ≤ 8 ∧ G.2.1 r = 9 ∧ zRunD ztb zmt' d 114 [zR (some r), v0] G h (fun v G' h' => zE 203 d Q 18 [l0, l1, l2, l3, l4, l5, l6, l7, l8] (v.toList ++ st) G' h' k)) := E_invV2z (by rfl) (by decide) rfl
theorem e203_18 : zE 203 d Q 18 [l0, l1, l2, l3, l4, l5, l6, l7, l8] [zI x] G h k ↔ Q (some (zI x)) G h := E_iret (by rfl) rfl
theorem e203_19 : zE 203 d Q 19 [l0, l1, some (zI x), l3, l4, l5, l6, l7, l8] st G h k ↔ zE 203 d Q 20 [l0, l1, some (zI x), l3, l4, l5, l6, l7, l8] (zI x :: st) G h k := E_iload_n (by rfl) rfl
theorem e203_20 : zE 203 d Q 20 [l0, l1, l2, l3, l4, l5, l6, l7, l8] st G h k ↔ zE 203 d Q 21 [l0, l1, l2, l3, l4, l5, l6, l7, l8] (zI 1 :: st) G h k := E_iconst (by rfl)
theorem e203_21 : zE 203 d Q 21 [l0, l1, l2, l3, l4, l5, l6, l7, l8] st G h k ↔ zE 203 d Q 22 [l0, l1, l2, l3, l4, l5, l6, l7, l8] (zI 3 :: st) G h k := E_iconst (by rfl)
theorem e203_22 : zE 203 d Q 22 [l0, l1, l2, l3, l4, l5, l6, l7, l8] (v2 :: v1 :: v0 :: st) G h k ↔ (zsum st ≤ 8 ∧ zRunD ztb zmt' d 120 [v0, v1, v2] G h (fun v G' h' => zE 203 d Q 25 [l0, l1, l2, l3, l4, l5, l6, l7, l8] (v.toList ++ st) G' h' k)) := E_invS2z (by rfl) (by decide) rfl
theorem e203_25 : zE 203 d Q 25 [l0, l1, l2, l3, l4, l5, l6, l7, l8] (zI x :: st) G h k ↔ ((¬ x = 0 → zE 203 d Q 34 [l0, l1, l2, l3, l4, l5, l6, l7, l8] st G h k) ∧ (¬ (¬ x = 0) → zE 203 d Q 28 [l0, l1, l2, l3, l4, l5, l6, l7, l8] st G h k)) := E_if_ne (by rfl)
theorem e203_28 : zE 203 d Q 28 [some (.inr (.inr w9)), l1, l2, l3, l4, l5, l6, l7, l8] st G h k ↔ zE 203 d Q 29 [some (.inr (.inr w9)), l1, l2, l3, l4, l5, l6, l7, l8] (.inr (.inr w9) :: st) G h k := E_aload_n (by rfl) rfl
theorem e203_29 : zE 203 d Q 29 [l0, l1, l2, l3, l4, l5, l6, l7, l8] st G h k ↔ zE 203 d Q 30 [l0, l1, l2, l3, l4, l5, l6, l7, l8] (zI 2 :: st) G h k := E_iconst (by rfl)
theorem e203_30 : zE 203 d Q 30 [l0, l1, l2, l3, l4, l5, l6, l7, l8] (v0 :: zR (some r) :: st) G h k ↔ (zsum st ≤ 8 ∧ G.2.1 r = 9 ∧ zRunD ztb zmt' d 114 [zR (some r), v0] G h (fun v G' h' => zE 203 d Q 33 [l0, l1, l2, l3, l4, l5, l6, l7, l8] (v.toList ++ st) G' h' k)) := E_invV2z (by rfl) (by decide) rfl
theorem e203_33 : zE 203 d Q 33 [l0, l1, l2, l3, l4, l5, l6, l7, l8] [zI x] G h k ↔ Q (some (zI x)) G h := E_iret (by rfl) rfl
theorem e203_34 : zE 203 d Q 34 [some (.inr (.inr w9)), l1, l2, l3, l4, l5, l6, l7, l8] st G h k ↔ zE 203 d Q 35 [some (.inr (.inr w9)), l1, l2, l3, l4, l5, l6, l7, l8] (.inr (.inr w9) :: st) G h k := E_aload_n (by rfl) rfl
theorem e203_35 : zE 203 d Q 35 [l0, l1, l2, l3, l4, l5, l6, l7, l8] st G h k ↔ zE 203 d Q 36 [l0, l1, l2, l3, l4, l5, l6, l7, l8] (zI 0 :: st) G h k := E_iconst (by rfl)
theorem e203_36 : zE 203 d Q 36 [l0, l1, l2, l3, l4, l5, l6, l7, l8] (v0 :: zR (some r) :: st) G h k ↔ (zsum st ≤ 8 ∧ G.2.1 r = 9 ∧ zRunD ztb zmt' d 143 [zR (some r), v0] G h (fun v G' h' => zE 203 d Q 39 [l0, l1, l2, l3, l4, l5, l6, l7, l8] (v.toList ++ st) G' h' k)) := E_invV2z (by rfl) (by decide) rfl
theorem e203_39 : zE 203 d Q 39 [some (.inr (.inr w9)), l1, l2, l3, l4, l5, l6, l7, l8] st G h k ↔ zE 203 d Q 40 [some (.inr (.inr w9)), l1, l2, l3, l4, l5, l6, l7, l8] (.inr (.inr w9) :: st) G h k := E_aload_n (by rfl) rfl
theorem e203_40 : zE 203 d Q 40 [l0, l1, some (zI x), l3, l4, l5, l6, l7, l8] st G h k ↔ zE 203 d Q 41 [l0, l1, some (zI x), l3, l4, l5, l6, l7, l8] (zI x :: st) G h k := E_iload_n (by rfl) rfl
theorem e203_41 : zE 203 d Q 41 [l0, l1, l2, l3, l4, l5, l6, l7, l8] (v0 :: zR (some r) :: st) G h k ↔ (zsum st ≤ 8 ∧ G.2.1 r = 9 ∧ zRunD ztb zmt' d 171 [zR (some r), v0] G h (fun v G' h' => zE 203 d Q 44 [l0, l1, l2, l3, l4, l5, l6, l7, l8] (v.toList ++ st) G' h' k)) := E_invV2z (by rfl) (by decide) rfl
theorem e203_44 : zE 203 d Q 44 [l0, l1, l2, l3, l4, l5, l6, l7, l8] (zI x :: st) G h k ↔ ((x = 0 → zE 203 d Q 53 [l0, l1, l2, l3, l4, l5, l6, l7, l8] st G h k) ∧ (¬ (x = 0) → zE 203 d Q 47 [l0, l1, l2, l3, l4, l5, l6, l7, l8] st G h k)) := E_if_eq (by rfl)
theorem e203_47 : zE 203 d Q 47 [some (.inr (.inr w9)), l1, l2, l3, l4, l5, l6, l7, l8] st G h k ↔ zE 203 d Q 48 [some (.inr (.inr w9)), l1, l2, l3, l4, l5, l6, l7, l8] (.inr (.inr w9) :: st) G h k := E_aload_n (by rfl) rfl
theorem e203_48 : zE 203 d Q 48 [l0, l1, l2, l3, l4, l5, l6, l7, l8] st G h k ↔ zE 203 d Q 49 [l0, l1, l2, l3, l4, l5, l6, l7, l8] (zI 3 :: st) G h k := E_iconst (by rfl)
theorem e203_49 : zE 203 d Q 49 [l0, l1, l2, l3, l4, l5, l6, l7, l8] (v0 :: zR (some r) :: st) G h k ↔ (zsum st ≤ 8 ∧ G.2.1 r = 9 ∧ zRunD ztb zmt' d 114 [zR (some r), v0] G h (fun v G' h' => zE 203 d Q 52 [l0, l1, l2, l3, l4, l5, l6, l7, l8] (v.toList ++ st) G' h' k)) := E_invV2z (by rfl) (by decide) rfl
theorem e203_52 : zE 203 d Q 52 [l0, l1, l2, l3, l4, l5, l6, l7, l8] [zI x] G h k ↔ Q (some (zI x)) G h := E_iret (by rfl) rfl
theorem e203_53 : zE 203 d Q 53 [l0, l1, l2, l3, l4, l5, l6, l7, l8] st G h k ↔ zE 203 d Q 54 [l0, l1, l2, l3, l4, l5, l6, l7, l8] (zI 0 :: st) G h k := E_iconst (by rfl)
theorem e203_54 : zE 203 d Q 54 [l0, l1, l2, l3, l4, l5, l6, l7, l8] (zI x :: st) G h k ↔ zE 203 d Q 55 [l0, l1, (zclr l2), some (zI x), l4, l5, l6, l7, l8] st G h k := E_istore_n (by rfl) (by decide)
theorem e203_55 : zE 203 d Q 55 [some (.inr (.inr w9)), l1, l2, l3, l4, l5, l6, l7, l8] st G h k ↔ zE 203 d Q 56 [some (.inr (.inr w9)), l1, l2, l3, l4, l5, l6, l7, l8] (.inr (.inr w9) :: st) G h k := E_aload_n (by rfl) rfl
theorem e203_56 : zE 203 d Q 56 [l0, some (zI x), l2, l3, l4, l5, l6, l7, l8] st G h k ↔ zE 203 d Q 57 [l0, some (zI x), l2, l3, l4, l5, l6, l7, l8] (zI x :: st) G h k := E_iload_n (by rfl) rfl
theorem e203_57 : zE 203 d Q 57 [l0, l1, l2, l3, l4, l5, l6, l7, l8] st G h k ↔ zE 203 d Q 58 [l0, l1, l2, l3, l4, l5, l6, l7, l8] (zI 0 :: st) G h k := E_iconst (by rfl)
theorem e203_58 : zE 203 d Q 58 [l0, l1, some (zI x), l3, l4, l5, l6, l7, l8] st G h k ↔ zE 203 d Q 59 [l0, l1, some (zI x), l3, l4, l5, l6, l7, l8] (zI x :: st) G h k := E_iload_n (by rfl) rfl
theorem e203_59 : zE 203 d Q 59 [l0, l1, l2, l3, l4, l5, l6, l7, l8] (v2 :: v1 :: v0 :: zR (some r) :: st) G h k ↔ (zsum st ≤ 8 ∧ G.2.1 r = 9 ∧ zRunD ztb zmt' d 201 [zR (some r), v0, v1, v2] G h (fun v G' h' => zE 203 d Q 62 [l0, l1, l2, l3, l4, l5, l6, l7, l8] (v.toList ++ st) G' h' k)) := E_invV2z (by rfl) (by decide) rfl
theorem e203_62 : zE 203 d Q 62 [l0, l1, l2, l3, l4, l5, l6, l7, l8] (zL x :: st) G h k ↔ zE 203 d Q 64 [l0, l1, l2, (zclr l3), some (zL x), none, l6, l7, l8] st G h k := E_lstore (by rfl) (by decide)
theorem e203_64 : zE 203 d Q 64 [l0, l1, l2, l3, l4, l5, l6, l7, l8] st G h k ↔ zE 203 d Q 65 [l0, l1, l2, l3, l4, l5, l6, l7, l8] (zI 1 :: st) G h k := E_iconst (by rfl)
theorem e203_65 : zE 203 d Q 65 [l0, l1, l2, l3, l4, l5, l6, l7, l8] (zI x :: st) G h k ↔ zE 203 d Q 67 [l0, l1, l2, l3, l4, (zclr l5), some (zI x), l7, l8] st G h k := E_istore (by rfl) (by decide)
theorem e203_67 : zE 203 d Q 67 [l0, l1, l2, l3, l4, l5, some (zI x), l7, l8] st G h k ↔ zE 203 d Q 69 [l0, l1, l2, l3, l4, l5, some (zI x), l7, l8] (zI x :: st) G h k := E_iload (by rfl) rfl
theorem e203_69 : zE 203 d Q 69 [some (.inr (.inr w9)), l1, l2, l3, l4, l5, l6, l7, l8] st G h k ↔ zE 203 d Q 70 [some (.inr (.inr w9)), l1, l2, l3, l4, l5, l6, l7, l8] (.inr (.inr w9) :: st) G h k := E_aload_n (by rfl) rfl
theorem e203_70 : zE 203 d Q 70 [l0, l1, l2, l3, l4, l5, l6, l7, l8] (zR (some r) :: st) G h k ↔ (G.2.1 r = 9 ∧ zE 203 d Q 73 [l0, l1, l2, l3, l4, l5, l6, l7, l8] (zR (G.2.2.2 r 3) :: st) G h k) := E_getR (by rfl) rfl
theorem e203_73 : zE 203 d Q 73 [l0, l1, l2, l3, l4, l5, l6, l7, l8] (zR (some r) :: st) G h k ↔ (G.2.1 r = 8 ∧ zE 203 d Q 76 [l0, l1, l2, l3, l4, l5, l6, l7, l8] (zI (h r 0) :: st) G h k) := E_getI (by rfl) (by decide)
theorem e203_76 : zE 203 d Q 76 [l0, l1, l2, l3, l4, l5, l6, l7, l8] (zI y :: zI x :: st) G h k ↔ ((y ≤ x → zE 203 d Q 113 [l0, l1, l2, l3, l4, l5, l6, l7, l8] st G h k) ∧ (¬ (y ≤ x) → zE 203 d Q 79 [l0, l1, l2, l3, l4, l5, l6, l7, l8] st G h k)) := E_icmp_ge (by rfl)
theorem e203_79 : zE 203 d Q 79 [some (.inr (.inr w9)), l1, l2, l3, l4, l5, l6, l7, l8] st G h k ↔ zE 203 d Q 80 [some (.inr (.inr w9)), l1, l2, l3, l4, l5, l6, l7, l8] (.inr (.inr w9) :: st) G h k := E_aload_n (by rfl) rfl
theorem e203_80 : zE 203 d Q 80 [l0, some (zI x), l2, l3, l4, l5, l6, l7, l8] st G h k ↔ zE 203 d Q 81 [l0, some (zI x), l2, l3, l4, l5, l6, l7, l8] (zI x :: st) G h k := E_iload_n (by rfl) rfl
theorem e203_81 : zE 203 d Q 81 [l0, l1, l2, l3, l4, l5, some (zI x), l7, l8] st G h k ↔ zE 203 d Q 83 [l0, l1, l2, l3, l4, l5, some (zI x), l7, l8] (zI x :: st) G h k := E_iload (by rfl) rfl
theorem e203_83 : zE 203 d Q 83 [l0, l1, some (zI x), l3, l4, l5, l6, l7, l8] st G h k ↔ zE 203 d Q 84 [l0, l1, some (zI x), l3, l4, l5, l6, l7, l8] (zI x :: st) G h k := E_iload_n (by rfl) rfl
theorem e203_84 : zE 203 d Q 84 [l0, l1, l2, l3, l4, l5, l6, l7, l8] (v2 :: v1 :: v0 :: zR (some r) :: st) G h k ↔ (zsum st ≤ 8 ∧ G.2.1 r = 9 ∧ zRunD ztb zmt' d 201 [zR (some r), v0, v1, v2] G h (fun v G' h' => zE 203 d Q 87 [l0, l1, l2, l3, l4, l5, l6, l7, l8] (v.toList ++ st) G' h' k)) := E_invV2z (by rfl) (by decide) rfl
theorem e203_87 : zE 203 d Q 87 [l0, l1, l2, l3, l4, l5, l6, l7, l8] (zL x :: st) G h k ↔ zE 203 d Q 89 [l0, l1, l2, l3, l4, l5, (zclr l6), some (zL x), none] st G h k := E_lstore (by rfl) (by decide)
theorem e203_89 : zE 203 d Q 89 [l0, l1, l2, l3, l4, l5, l6, some (zL x), l8] st G h k ↔ zE 203 d Q 91 [l0, l1, l2, l3, l4, l5, l6, some (zL x), l8] (zL x :: st) G h k := E_lload (by rfl) rfl
theorem e203_91 : zE 203 d Q 91 [l0, l1, l2, l3, some (zL x), l5, l6, l7, l8] st G h k ↔ zE 203 d Q 93 [l0, l1, l2, l3, some (zL x), l5, l6, l7, l8] (zL x :: st) G h k := E_lload (by rfl) rfl
theorem e203_93 : zE 203 d Q 93 [l0, l1, l2, l3, l4, l5, l6, l7, l8] (zL y :: zL x :: st) G h k ↔ zE 203 d Q 94 [l0, l1, l2, l3, l4, l5, l6, l7, l8] (zI (zlc x y) :: st) G h k := E_lcmp (by rfl)
theorem e203_94 : zE 203 d Q 94 [l0, l1, l2, l3, l4, l5, l6, l7, l8] (zI x :: st) G h k ↔ ((0 < x → zE 203 d Q 100 [l0, l1, l2, l3, l4, l5, l6, l7, l8] st G h k) ∧ (¬ (0 < x) → zE 203 d Q 97 [l0, l1, l2, l3, l4, l5, l6, l7, l8] st G h k)) := E_if_gt (by rfl)
theorem e203_97 : zE 203 d Q 97 [l0, l1, l2, l3, l4, l5, l6, l7, l8] st G h k ↔ zE 203 d Q 107 [l0, l1, l2, l3, l4, l5, l6, l7, l8] st G h k := E_goto (by rfl)
theorem e203_100 : zE 203 d Q 100 [l0, l1, l2, l3, l4, l5, l6, some (zL x), l8] st G h k ↔ zE 203 d Q 102 [l0, l1, l2, l3, l4, l5, l6, some (zL x), l8] (zL x :: st) G h k := E_lload (by rfl) rfl
theorem e203_102 : zE 203 d Q 102 [l0, l1, l2, l3, l4, l5, l6, l7, l8] (zL x :: st) G h k ↔ zE 203 d Q 104 [l0, l1, l2, (zclr l3), some (zL x), none, l6, l7, l8] st G h k := E_lstore (by rfl) (by decide)
theorem e203_104 : zE 203 d Q 104 [l0, l1, l2, l3, l4, l5, some (zI x), l7, l8] st G h k ↔ zE 203 d Q 106 [l0, l1, l2, l3, l4, l5, some (zI x), l7, l8] (zI x :: st) G h k := E_iload (by rfl) rfl
theorem e203_106 : zE 203 d Q 106 [l0, l1, l2, l3, l4, l5, l6, l7, l8] (zI x :: st) G h k ↔ zE 203 d Q 107 [l0, l1, (zclr l2), some (zI x), l4, l5, l6, l7, l8] st G h k := E_istore_n (by rfl) (by decide)
theorem e203_107 : zE 203 d Q 107 [l0, l1, l2, l3, l4, l5, some (zI x), l7, l8] st G h k ↔ zE 203 d Q 110 [l0, l1, l2, l3, l4, (zclr l5), some (zI (wr (x + 1))), l7, l8] st G h k := E_iinc (by rfl) rfl
theorem e203_110 : zE 203 d Q 110 [l0, l1, l2, l3, l4, l5, l6, l7, l8] st G h k ↔ zE 203 d Q 67 [l0, l1, l2, l3, l4, l5, l6, l7, l8] st G h k := E_goto (by rfl)
theorem e203_113 : zE 203 d Q 113 [some (.inr (.inr w9)), l1, l2, l3, l4, l5, l6, l7, l8] st G h k ↔ zE 203 d Q 114 [some (.inr (.inr w9)), l1, l2, l3, l4, l5, l6, l7, l8] (.inr (.inr w9) :: st) G h k := E_aload_n (by rfl) rfl
theorem e203_114 : zE 203 d Q 114 [l0, l1, l2, some (zI x), l4, l5, l6, l7, l8] st G h k ↔ zE 203 d Q 115 [l0, l1, l2, some (zI x), l4, l5, l6, l7, l8] (zI x :: st) G h k := E_iload_n (by rfl) rfl
theorem e203_115 : zE 203 d Q 115 [l0, l1, l2, l3, l4, l5, l6, l7, l8] (v0 :: zR (some r) :: st) G h k ↔ (zsum st ≤ 8 ∧ G.2.1 r = 9 ∧ zRunD ztb zmt' d 117 [zR (some r), v0] G h (fun v G' h' => zE 203 d Q 118 [l0, l1, l2, l3, l4, l5, l6, l7, l8] (v.toList ++ st) G' h' k)) := E_invV2z (by rfl) (by decide) rfl
theorem e203_118 : zE 203 d Q 118 [l0, l1, l2, l3, l4, l5, l6, l7, l8] [zI x] G h k ↔ Q (some (zI x)) G h := E_iret (by rfl) rfl
end SITES
