section SITES
variable {d : Nat} {Q : zQ} {st : List zV} {G : zG} {h : zM} {k : zK} {x y i : Int} {r r1 r2 q : Nat} {w9 : Option Nat ⊕ Nat} {q9 : Option Nat} {v0 v1 v2 v3 v4 : zV} {l0 l1 l2 l3 l4 l5 l6 l7 l8 l9 l10 l11 l12 l13 l14 l15 : Option zV}
theorem e204_0 : zE 204 d Q 0 [some (.inr (.inr w9)), l1, l2, l3] st G h k ↔ zE 204 d Q 1 [some (.inr (.inr w9)), l1, l2, l3] (.inr (.inr w9) :: st) G h k := E_aload_n (by rfl) rfl
theorem e204_1 : zE 204 d Q 1 [l0, l1, l2, l3] st G h k ↔ zE 204 d Q 2 [l0, l1, l2, l3] (zI 0 :: st) G h k := E_iconst (by rfl)
theorem e204_2 : zE 204 d Q 2 [l0, l1, l2, l3] (zI x :: zR (some r) :: st) G h k ↔ (G.2.1 r = 9 ∧ zE 204 d Q 5 [l0, l1, l2, l3] st G (zu h r 0 x) k) := E_putI (by rfl) rfl
theorem e204_5 : zE 204 d Q 5 [some (.inr (.inr w9)), l1, l2, l3] st G h k ↔ zE 204 d Q 6 [some (.inr (.inr w9)), l1, l2, l3] (.inr (.inr w9) :: st) G h k := E_aload_n (by rfl) rfl
theorem e204_6 : zE 204 d Q 6 [l0, some (zI x), l2, l3] st G h k ↔ zE 204 d Q 7 [l0, some (zI x), l2, l3] (zI x :: st) G h k := E_iload_n (by rfl) rfl
theorem e204_7 : zE 204 d Q 7 [l0, l1, l2, l3] (v0 :: zR (some r) :: st) G h k ↔ (zsum st ≤ 8 ∧ G.2.1 r = 9 ∧ zRunD ztb zmt' d 154 [zR (some r), v0] G h (fun v G' h' => zE 204 d Q 10 [l0, l1, l2, l3] (v.toList ++ st) G' h' k)) := E_invV2z (by rfl) (by decide) rfl
theorem e204_10 : zE 204 d Q 10 [l0, l1, l2, l3] (zI x :: st) G h k ↔ ((¬ x = 0 → zE 204 d Q 19 [l0, l1, l2, l3] st G h k) ∧ (¬ (¬ x = 0) → zE 204 d Q 13 [l0, l1, l2, l3] st G h k)) := E_if_ne (by rfl)
theorem e204_13 : zE 204 d Q 13 [some (.inr (.inr w9)), l1, l2, l3] st G h k ↔ zE 204 d Q 14 [some (.inr (.inr w9)), l1, l2, l3] (.inr (.inr w9) :: st) G h k := E_aload_n (by rfl) rfl
theorem e204_14 : zE 204 d Q 14 [l0, l1, l2, l3] st G h k ↔ zE 204 d Q 15 [l0, l1, l2, l3] (zI 1 :: st) G h k := E_iconst (by rfl)
theorem e204_15 : zE 204 d Q 15 [l0, l1, l2, l3] (v0 :: zR (some r) :: st) G h k ↔ (zsum st ≤ 8 ∧ G.2.1 r = 9 ∧ zRunD ztb zmt' d 114 [zR (some r), v0] G h (fun v G' h' => zE 204 d Q 18 [l0, l1, l2, l3] (v.toList ++ st) G' h' k)) := E_invV2z (by rfl) (by decide) rfl
theorem e204_18 : zE 204 d Q 18 [l0, l1, l2, l3] [zI x] G h k ↔ Q (some (zI x)) G h := E_iret (by rfl) rfl
theorem e204_19 : zE 204 d Q 19 [l0, l1, some (zI x), l3] st G h k ↔ zE 204 d Q 20 [l0, l1, some (zI x), l3] (zI x :: st) G h k := E_iload_n (by rfl) rfl
theorem e204_20 : zE 204 d Q 20 [l0, l1, l2, l3] st G h k ↔ zE 204 d Q 21 [l0, l1, l2, l3] (zI 1 :: st) G h k := E_iconst (by rfl)
theorem e204_21 : zE 204 d Q 21 [l0, l1, l2, l3] st G h k ↔ zE 204 d Q 22 [l0, l1, l2, l3] (zI 3 :: st) G h k := E_iconst (by rfl)
theorem e204_22 : zE 204 d Q 22 [l0, l1, l2, l3] (v2 :: v1 :: v0 :: st) G h k ↔ (zsum st ≤ 8 ∧ zRunD ztb zmt' d 120 [v0, v1, v2] G h (fun v G' h' => zE 204 d Q 25 [l0, l1, l2, l3] (v.toList ++ st) G' h' k)) := E_invS2z (by rfl) (by decide) rfl
theorem e204_25 : zE 204 d Q 25 [l0, l1, l2, l3] (zI x :: st) G h k ↔ ((¬ x = 0 → zE 204 d Q 34 [l0, l1, l2, l3] st G h k) ∧ (¬ (¬ x = 0) → zE 204 d Q 28 [l0, l1, l2, l3] st G h k)) := E_if_ne (by rfl)
theorem e204_28 : zE 204 d Q 28 [some (.inr (.inr w9)), l1, l2, l3] st G h k ↔ zE 204 d Q 29 [some (.inr (.inr w9)), l1, l2, l3] (.inr (.inr w9) :: st) G h k := E_aload_n (by rfl) rfl
theorem e204_29 : zE 204 d Q 29 [l0, l1, l2, l3] st G h k ↔ zE 204 d Q 30 [l0, l1, l2, l3] (zI 2 :: st) G h k := E_iconst (by rfl)
theorem e204_30 : zE 204 d Q 30 [l0, l1, l2, l3] (v0 :: zR (some r) :: st) G h k ↔ (zsum st ≤ 8 ∧ G.2.1 r = 9 ∧ zRunD ztb zmt' d 114 [zR (some r), v0] G h (fun v G' h' => zE 204 d Q 33 [l0, l1, l2, l3] (v.toList ++ st) G' h' k)) := E_invV2z (by rfl) (by decide) rfl
theorem e204_33 : zE 204 d Q 33 [l0, l1, l2, l3] [zI x] G h k ↔ Q (some (zI x)) G h := E_iret (by rfl) rfl
theorem e204_34 : zE 204 d Q 34 [some (.inr (.inr w9)), l1, l2, l3] st G h k ↔ zE 204 d Q 35 [some (.inr (.inr w9)), l1, l2, l3] (.inr (.inr w9) :: st) G h k := E_aload_n (by rfl) rfl
theorem e204_35 : zE 204 d Q 35 [l0, l1, l2, l3] st G h k ↔ zE 204 d Q 36 [l0, l1, l2, l3] (zI 0 :: st) G h k := E_iconst (by rfl)
theorem e204_36 : zE 204 d Q 36 [l0, l1, l2, l3] (v0 :: zR (some r) :: st) G h k ↔ (zsum st ≤ 8 ∧ G.2.1 r = 9 ∧ zRunD ztb zmt' d 143 [zR (some r), v0] G h (fun v G' h' => zE 204 d Q 39 [l0, l1, l2, l3] (v.toList ++ st) G' h' k)) := E_invV2z (by rfl) (by decide) rfl
theorem e204_39 : zE 204 d Q 39 [some (.inr (.inr w9)), l1, l2, l3] st G h k ↔ zE 204 d Q 40 [some (.inr (.inr w9)), l1, l2, l3] (.inr (.inr w9) :: st) G h k := E_aload_n (by rfl) rfl
theorem e204_40 : zE 204 d Q 40 [l0, l1, some (zI x), l3] st G h k ↔ zE 204 d Q 41 [l0, l1, some (zI x), l3] (zI x :: st) G h k := E_iload_n (by rfl) rfl
theorem e204_41 : zE 204 d Q 41 [l0, l1, l2, l3] (v0 :: zR (some r) :: st) G h k ↔ (zsum st ≤ 8 ∧ G.2.1 r = 9 ∧ zRunD ztb zmt' d 171 [zR (some r), v0] G h (fun v G' h' => zE 204 d Q 44 [l0, l1, l2, l3] (v.toList ++ st) G' h' k)) := E_invV2z (by rfl) (by decide) rfl
theorem e204_44 : zE 204 d Q 44 [l0, l1, l2, l3] (zI x :: st) G h k ↔ ((x = 0 → zE 204 d Q 53 [l0, l1, l2, l3] st G h k) ∧ (¬ (x = 0) → zE 204 d Q 47 [l0, l1, l2, l3] st G h k)) := E_if_eq (by rfl)
theorem e204_47 : zE 204 d Q 47 [some (.inr (.inr w9)), l1, l2, l3] st G h k ↔ zE 204 d Q 48 [some (.inr (.inr w9)), l1, l2, l3] (.inr (.inr w9) :: st) G h k := E_aload_n (by rfl) rfl
theorem e204_48 : zE 204 d Q 48 [l0, l1, l2, l3] st G h k ↔ zE 204 d Q 49 [l0, l1, l2, l3] (zI 3 :: st) G h k := E_iconst (by rfl)
theorem e204_49 : zE 204 d Q 49 [l0, l1, l2, l3] (v0 :: zR (some r) :: st) G h k ↔ (zsum st ≤ 8 ∧ G.2.1 r = 9 ∧ zRunD ztb zmt' d 114 [zR (some r), v0] G h (fun v G' h' => zE 204 d Q 52 [l0, l1, l2, l3] (v.toList ++ st) G' h' k)) := E_invV2z (by rfl) (by decide) rfl
theorem e204_52 : zE 204 d Q 52 [l0, l1, l2, l3] [zI x] G h k ↔ Q (some (zI x)) G h := E_iret (by rfl) rfl
theorem e204_53 : zE 204 d Q 53 [some (.inr (.inr w9)), l1, l2, l3] st G h k ↔ zE 204 d Q 54 [some (.inr (.inr w9)), l1, l2, l3] (.inr (.inr w9) :: st) G h k := E_aload_n (by rfl) rfl
theorem e204_54 : zE 204 d Q 54 [l0, l1, some (zI x), l3] st G h k ↔ zE 204 d Q 55 [l0, l1, some (zI x), l3] (zI x :: st) G h k := E_iload_n (by rfl) rfl
theorem e204_55 : zE 204 d Q 55 [l0, l1, l2, l3] (v0 :: zR (some r) :: st) G h k ↔ (zsum st ≤ 8 ∧ G.2.1 r = 9 ∧ zRunD ztb zmt' d 186 [zR (some r), v0] G h (fun v G' h' => zE 204 d Q 58 [l0, l1, l2, l3] (v.toList ++ st) G' h' k)) := E_invV2z (by rfl) (by decide) rfl
theorem e204_58 : zE 204 d Q 58 [l0, l1, l2, l3] st G h k ↔ zE 204 d Q 59 [l0, l1, l2, l3] (zI 0 :: st) G h k := E_iconst (by rfl)
theorem e204_59 : zE 204 d Q 59 [l0, l1, l2, l3] (zI x :: st) G h k ↔ zE 204 d Q 60 [l0, l1, (zclr l2), some (zI x)] st G h k := E_istore_n (by rfl) (by decide)
theorem e204_60 : zE 204 d Q 60 [l0, l1, l2, some (zI x)] st G h k ↔ zE 204 d Q 61 [l0, l1, l2, some (zI x)] (zI x :: st) G h k := E_iload_n (by rfl) rfl
theorem e204_61 : zE 204 d Q 61 [l0, l1, l2, l3] st G h k ↔ zE 204 d Q 62 [l0, l1, l2, l3] (zI 4 :: st) G h k := E_iconst (by rfl)
theorem e204_62 : zE 204 d Q 62 [l0, l1, l2, l3] (zI y :: zI x :: st) G h k ↔ ((y ≤ x → zE 204 d Q 87 [l0, l1, l2, l3] st G h k) ∧ (¬ (y ≤ x) → zE 204 d Q 65 [l0, l1, l2, l3] st G h k)) := E_icmp_ge (by rfl)
theorem e204_65 : zE 204 d Q 65 [some (.inr (.inr w9)), l1, l2, l3] st G h k ↔ zE 204 d Q 66 [some (.inr (.inr w9)), l1, l2, l3] (.inr (.inr w9) :: st) G h k := E_aload_n (by rfl) rfl
theorem e204_66 : zE 204 d Q 66 [l0, l1, l2, l3] (zR (some r) :: st) G h k ↔ (G.2.1 r = 9 ∧ zE 204 d Q 69 [l0, l1, l2, l3] (zR (G.2.2.2 r 41) :: st) G h k) := E_getR (by rfl) rfl
theorem e204_69 : zE 204 d Q 69 [l0, l1, l2, l3] st G h k ↔ zE 204 d Q 71 [l0, l1, l2, l3] (zI 12 :: st) G h k := E_bipush (by rfl)
theorem e204_71 : zE 204 d Q 71 [l0, l1, some (zI x), l3] st G h k ↔ zE 204 d Q 72 [l0, l1, some (zI x), l3] (zI x :: st) G h k := E_iload_n (by rfl) rfl
theorem e204_72 : zE 204 d Q 72 [l0, l1, l2, l3] (zI y :: zI x :: st) G h k ↔ zE 204 d Q 73 [l0, l1, l2, l3] (zI (wr (x * y)) :: st) G h k := E_imul (by rfl)
theorem e204_73 : zE 204 d Q 73 [l0, l1, l2, some (zI x)] st G h k ↔ zE 204 d Q 74 [l0, l1, l2, some (zI x)] (zI x :: st) G h k := E_iload_n (by rfl) rfl
theorem e204_74 : zE 204 d Q 74 [l0, some (zI x), l2, l3] st G h k ↔ zE 204 d Q 75 [l0, some (zI x), l2, l3] (zI x :: st) G h k := E_iload_n (by rfl) rfl
theorem e204_75 : zE 204 d Q 75 [l0, l1, l2, l3] (v1 :: v0 :: st) G h k ↔ (zsum st ≤ 8 ∧ zRunD ztb zmt' d 150 [v0, v1] G h (fun v G' h' => zE 204 d Q 78 [l0, l1, l2, l3] (v.toList ++ st) G' h' k)) := E_invS2z (by rfl) (by decide) rfl
theorem e204_78 : zE 204 d Q 78 [l0, l1, l2, l3] (zI y :: zI x :: st) G h k ↔ zE 204 d Q 79 [l0, l1, l2, l3] (zI (wr (x + y)) :: st) G h k := E_iadd (by rfl)
theorem e204_79 : zE 204 d Q 79 [l0, l1, l2, l3] st G h k ↔ zE 204 d Q 80 [l0, l1, l2, l3] (zI 0 :: st) G h k := E_iconst (by rfl)
theorem e204_80 : zE 204 d Q 80 [l0, l1, l2, l3] (zI x :: zI i :: zR (some r) :: st) G h k ↔ (G.2.1 r = 10 ∧ (0 ≤ i ∧ i < G.2.2.1 r) ∧ zE 204 d Q 81 [l0, l1, l2, l3] st G (zu h r i.toNat x) k) := E_iastore (by rfl)
theorem e204_81 : zE 204 d Q 81 [l0, l1, l2, some (zI x)] st G h k ↔ zE 204 d Q 84 [l0, l1, (zclr l2), some (zI (wr (x + 1)))] st G h k := E_iinc (by rfl) rfl
theorem e204_84 : zE 204 d Q 84 [l0, l1, l2, l3] st G h k ↔ zE 204 d Q 60 [l0, l1, l2, l3] st G h k := E_goto (by rfl)
theorem e204_87 : zE 204 d Q 87 [some (.inr (.inr w9)), l1, l2, l3] st G h k ↔ zE 204 d Q 88 [some (.inr (.inr w9)), l1, l2, l3] (.inr (.inr w9) :: st) G h k := E_aload_n (by rfl) rfl
theorem e204_88 : zE 204 d Q 88 [some (.inr (.inr w9)), l1, l2, l3] st G h k ↔ zE 204 d Q 89 [some (.inr (.inr w9)), l1, l2, l3] (.inr (.inr w9) :: st) G h k := E_aload_n (by rfl) rfl
theorem e204_89 : zE 204 d Q 89 [l0, some (zI x), l2, l3] st G h k ↔ zE 204 d Q 90 [l0, some (zI x), l2, l3] (zI x :: st) G h k := E_iload_n (by rfl) rfl
theorem e204_90 : zE 204 d Q 90 [l0, l1, some (zI x), l3] st G h k ↔ zE 204 d Q 91 [l0, l1, some (zI x), l3] (zI x :: st) G h k := E_iload_n (by rfl) rfl
theorem e204_91 : zE 204 d Q 91 [l0, l1, l2, l3] (v1 :: v0 :: zR (some r) :: st) G h k ↔ (zsum st ≤ 8 ∧ G.2.1 r = 9 ∧ zRunD ztb zmt' d 199 [zR (some r), v0, v1] G h (fun v G' h' => zE 204 d Q 94 [l0, l1, l2, l3] (v.toList ++ st) G' h' k)) := E_invV2z (by rfl) (by decide) rfl
theorem e204_94 : zE 204 d Q 94 [some (.inr (.inr w9)), l1, l2, l3] st G h k ↔ zE 204 d Q 95 [some (.inr (.inr w9)), l1, l2, l3] (.inr (.inr w9) :: st) G h k := E_aload_n (by rfl) rfl
theorem e204_95 : zE 204 d Q 95 [l0, l1, l2, l3] (zR (some r) :: st) G h k ↔ (G.2.1 r = 9 ∧ zE 204 d Q 98 [l0, l1, l2, l3] (zR (G.2.2.2 r 3) :: st) G h k) := E_getR (by rfl) rfl
theorem e204_98 : zE 204 d Q 98 [l0, l1, l2, l3] (zR (some r) :: st) G h k ↔ (G.2.1 r = 8 ∧ zE 204 d Q 101 [l0, l1, l2, l3] (zR (G.2.2.2 r 8) :: st) G h k) := E_getR (by rfl) rfl
theorem e204_101 : zE 204 d Q 101 [l0, some (zI x), l2, l3] st G h k ↔ zE 204 d Q 102 [l0, some (zI x), l2, l3] (zI x :: st) G h k := E_iload_n (by rfl) rfl
theorem e204_102 : zE 204 d Q 102 [l0, l1, l2, l3] (zI i :: zR (some r) :: st) G h k ↔ (G.2.1 r = 10 ∧ (0 ≤ i ∧ i < G.2.2.1 r) ∧ zE 204 d Q 103 [l0, l1, l2, l3] (zI (h r i.toNat) :: st) G h k) := E_iaload (by rfl)
theorem e204_103 : zE 204 d Q 103 [l0, l1, l2, l3] (zI x :: st) G h k ↔ zE 204 d Q 104 [l0, l1, l2, l3] (zL x :: st) G h k := E_i2l (by rfl)
theorem e204_104 : zE 204 d Q 104 [l0, l1, l2, l3] (zL y :: zL x :: st) G h k ↔ zE 204 d Q 105 [l0, l1, l2, l3] (zI (zlc x y) :: st) G h k := E_lcmp (by rfl)
theorem e204_105 : zE 204 d Q 105 [l0, l1, l2, l3] (zI x :: st) G h k ↔ ((x < 0 → zE 204 d Q 112 [l0, l1, l2, l3] st G h k) ∧ (¬ (x < 0) → zE 204 d Q 108 [l0, l1, l2, l3] st G h k)) := E_if_lt (by rfl)
theorem e204_108 : zE 204 d Q 108 [l0, l1, l2, l3] st G h k ↔ zE 204 d Q 109 [l0, l1, l2, l3] (zI 1 :: st) G h k := E_iconst (by rfl)
theorem e204_109 : zE 204 d Q 109 [l0, l1, l2, l3] st G h k ↔ zE 204 d Q 113 [l0, l1, l2, l3] st G h k := E_goto (by rfl)
theorem e204_112 : zE 204 d Q 112 [l0, l1, l2, l3] st G h k ↔ zE 204 d Q 113 [l0, l1, l2, l3] (zI 0 :: st) G h k := E_iconst (by rfl)
theorem e204_113 : zE 204 d Q 113 [l0, l1, l2, l3] (v0 :: zR (some r) :: st) G h k ↔ (zsum st ≤ 8 ∧ G.2.1 r = 9 ∧ zRunD ztb zmt' d 117 [zR (some r), v0] G h (fun v G' h' => zE 204 d Q 116 [l0, l1, l2, l3] (v.toList ++ st) G' h' k)) := E_invV2z (by rfl) (by decide) rfl
theorem e204_116 : zE 204 d Q 116 [l0, l1, l2, l3] [zI x] G h k ↔ Q (some (zI x)) G h := E_iret (by rfl) rfl
theorem e205_0 : zE 205 d Q 0 [some (.inr (.inr w9)), l1, l2, l3] st G h k ↔ zE 205 d Q 1 [some (.inr (.inr w9)), l1, l2, l3] (.inr (.inr w9) :: st) G h k := E_aload_n (by rfl) rfl
theorem e205_1 : zE 205 d Q 1 [l0, l1, l2, l3] st G h k ↔ zE 205 d Q 2 [l0, l1, l2, l3] (zI 0 :: st) G h k := E_iconst (by rfl)
theorem e205_2 : zE 205 d Q 2 [l0, l1, l2, l3] (zI x :: zR (some r) :: st) G h k ↔ (G.2.1 r = 9 ∧ zE 205 d Q 5 [l0, l1, l2, l3] st G (zu h r 0 x) k) := E_putI (by rfl) rfl
theorem e205_5 : zE 205 d Q 5 [some (.inr (.inr w9)), l1, l2, l3] st G h k ↔ zE 205 d Q 6 [some (.inr (.inr w9)), l1, l2, l3] (.inr (.inr w9) :: st) G h k := E_aload_n (by rfl) rfl
theorem e205_6 : zE 205 d Q 6 [l0, some (zI x), l2, l3] st G h k ↔ zE 205 d Q 7 [l0, some (zI x), l2, l3] (zI x :: st) G h k := E_iload_n (by rfl) rfl
theorem e205_7 : zE 205 d Q 7 [l0, l1, l2, l3] (v0 :: zR (some r) :: st) G h k ↔ (zsum st ≤ 8 ∧ G.2.1 r = 9 ∧ zRunD ztb zmt' d 154 [zR (some r), v0] G h (fun v G' h' => zE 205 d Q 10 [l0, l1, l2, l3] (v.toList ++ st) G' h' k)) := E_invV2z (by rfl) (by decide) rfl
theorem e205_10 : zE 205 d Q 10 [l0, l1, l2, l3] (zI x :: st) G h k ↔ ((x = 0 → zE 205 d Q 22 [l0, l1, l2, l3] st G h k) ∧ (¬ (x = 0) → zE 205 d Q 13 [l0, l1, l2, l3] st G h k)) := E_if_eq (by rfl)
theorem e205_13 : zE 205 d Q 13 [l0, l1, some (zI x), l3] st G h k ↔ zE 205 d Q 14 [l0, l1, some (zI x), l3] (zI x :: st) G h k := E_iload_n (by rfl) rfl
theorem e205_14 : zE 205 d Q 14 [l0, l1, l2, l3] st G h k ↔ zE 205 d Q 15 [l0, l1, l2, l3] (zI 0 :: st) G h k := E_iconst (by rfl)
theorem e205_15 : zE 205 d Q 15 [l0, l1, l2, l3] st G h k ↔ zE 205 d Q 16 [l0, l1, l2, l3] (zI 1 :: st) G h k := E_iconst (by rfl)
theorem e205_16 : zE 205 d Q 16 [l0, l1, l2, l3] (v2 :: v1 :: v0 :: st) G h k ↔ (zsum st ≤ 8 ∧ zRunD ztb zmt' d 120 [v0, v1, v2] G h (fun v G' h' => zE 205 d Q 19 [l0, l1, l2, l3] (v.toList ++ st) G' h' k)) := E_invS2z (by rfl) (by decide) rfl
theorem e205_19 : zE 205 d Q 19 [l0, l1, l2, l3] (zI x :: st) G h k ↔ ((¬ x = 0 → zE 205 d Q 28 [l0, l1, l2, l3] st G h k) ∧ (¬ (¬ x = 0) → zE 205 d Q 22 [l0, l1, l2, l3] st G h k)) := E_if_ne (by rfl)
theorem e205_22 : zE 205 d Q 22 [some (.inr (.inr w9)), l1, l2, l3] st G h k ↔ zE 205 d Q 23 [some (.inr (.inr w9)), l1, l2, l3] (.inr (.inr w9) :: st) G h k := E_aload_n (by rfl) rfl
theorem e205_23 : zE 205 d Q 23 [l0, l1, l2, l3] st G h k ↔ zE 205 d Q 24 [l0, l1, l2, l3] (zI 1 :: st) G h k := E_iconst (by rfl)
theorem e205_24 : zE 205 d Q 24 [l0, l1, l2, l3] (v0 :: zR (some r) :: st) G h k ↔ (zsum st ≤ 8 ∧ G.2.1 r = 9 ∧ zRunD ztb zmt' d 114 [zR (some r), v0] G h (fun v G' h' => zE 205 d Q 27 [l0, l1, l2, l3] (v.toList ++ st) G' h' k)) := E_invV2z (by rfl) (by decide) rfl
theorem e205_27 : zE 205 d Q 27 [l0, l1, l2, l3] [zI x] G h k ↔ Q (some (zI x)) G h := E_iret (by rfl) rfl
theorem e205_28 : zE 205 d Q 28 [some (.inr (.inr w9)), l1, l2, l3] st G h k ↔ zE 205 d Q 29 [some (.inr (.inr w9)), l1, l2, l3] (.inr (.inr w9) :: st) G h k := E_aload_n (by rfl) rfl
theorem e205_29 : zE 205 d Q 29 [l0, l1, l2, l3] (zR (some r) :: st) G h k ↔ (G.2.1 r = 9 ∧ zE 205 d Q 32 [l0, l1, l2, l3] (zI (h r 47) :: st) G h k) := E_getI (by rfl) (by decide)
theorem e205_32 : zE 205 d Q 32 [l0, l1, l2, l3] (zI x :: st) G h k ↔ ((¬ x = 0 → zE 205 d Q 42 [l0, l1, l2, l3] st G h k) ∧ (¬ (¬ x = 0) → zE 205 d Q 35 [l0, l1, l2, l3] st G h k)) := E_if_ne (by rfl)
theorem e205_35 : zE 205 d Q 35 [some (.inr (.inr w9)), l1, l2, l3] st G h k ↔ zE 205 d Q 36 [some (.inr (.inr w9)), l1, l2, l3] (.inr (.inr w9) :: st) G h k := E_aload_n (by rfl) rfl
theorem e205_36 : zE 205 d Q 36 [l0, l1, l2, l3] st G h k ↔ zE 205 d Q 38 [l0, l1, l2, l3] (zI 6 :: st) G h k := E_bipush (by rfl)
theorem e205_38 : zE 205 d Q 38 [l0, l1, l2, l3] (v0 :: zR (some r) :: st) G h k ↔ (zsum st ≤ 8 ∧ G.2.1 r = 9 ∧ zRunD ztb zmt' d 114 [zR (some r), v0] G h (fun v G' h' => zE 205 d Q 41 [l0, l1, l2, l3] (v.toList ++ st) G' h' k)) := E_invV2z (by rfl) (by decide) rfl
theorem e205_41 : zE 205 d Q 41 [l0, l1, l2, l3] [zI x] G h k ↔ Q (some (zI x)) G h := E_iret (by rfl) rfl
theorem e205_42 : zE 205 d Q 42 [l0, l1, some (zI x), l3] st G h k ↔ zE 205 d Q 43 [l0, l1, some (zI x), l3] (zI x :: st) G h k := E_iload_n (by rfl) rfl
theorem e205_43 : zE 205 d Q 43 [l0, l1, l2, l3] (zI x :: st) G h k ↔ ((¬ x = 0 → zE 205 d Q 69 [l0, l1, l2, l3] st G h k) ∧ (¬ (¬ x = 0) → zE 205 d Q 46 [l0, l1, l2, l3] st G h k)) := E_if_ne (by rfl)
theorem e205_46 : zE 205 d Q 46 [some (.inr (.inr w9)), l1, l2, l3] st G h k ↔ zE 205 d Q 47 [some (.inr (.inr w9)), l1, l2, l3] (.inr (.inr w9) :: st) G h k := E_aload_n (by rfl) rfl
theorem e205_47 : zE 205 d Q 47 [l0, l1, l2, l3] (zR (some r) :: st) G h k ↔ (G.2.1 r = 9 ∧ zE 205 d Q 50 [l0, l1, l2, l3] (zR (G.2.2.2 r 49) :: st) G h k) := E_getR (by rfl) rfl
theorem e205_50 : zE 205 d Q 50 [l0, some (zI x), l2, l3] st G h k ↔ zE 205 d Q 51 [l0, some (zI x), l2, l3] (zI x :: st) G h k := E_iload_n (by rfl) rfl
theorem e205_51 : zE 205 d Q 51 [l0, l1, l2, l3] (zI i :: zR (some r) :: st) G h k ↔ (G.2.1 r = 10 ∧ (0 ≤ i ∧ i < G.2.2.1 r) ∧ zE 205 d Q 52 [l0, l1, l2, l3] (zI (h r i.toNat) :: st) G h k) := E_iaload (by rfl)
theorem e205_52 : zE 205 d Q 52 [some (.inr (.inr w9)), l1, l2, l3] st G h k ↔ zE 205 d Q 53 [some (.inr (.inr w9)), l1, l2, l3] (.inr (.inr w9) :: st) G h k := E_aload_n (by rfl) rfl
theorem e205_53 : zE 205 d Q 53 [l0, l1, l2, l3] (zR (some r) :: st) G h k ↔ (G.2.1 r = 9 ∧ zE 205 d Q 56 [l0, l1, l2, l3] (zR (G.2.2.2 r 48) :: st) G h k) := E_getR (by rfl) rfl
theorem e205_56 : zE 205 d Q 56 [l0, some (zI x), l2, l3] st G h k ↔ zE 205 d Q 57 [l0, some (zI x), l2, l3] (zI x :: st) G h k := E_iload_n (by rfl) rfl
theorem e205_57 : zE 205 d Q 57 [l0, l1, l2, l3] (zI i :: zR (some r) :: st) G h k ↔ (G.2.1 r = 10 ∧ (0 ≤ i ∧ i < G.2.2.1 r) ∧ zE 205 d Q 58 [l0, l1, l2, l3] (zI (h r i.toNat) :: st) G h k) := E_iaload (by rfl)
theorem e205_58 : zE 205 d Q 58 [l0, l1, l2, l3] (zI y :: zI x :: st) G h k ↔ ((y ≤ x → zE 205 d Q 65 [l0, l1, l2, l3] st G h k) ∧ (¬ (y ≤ x) → zE 205 d Q 61 [l0, l1, l2, l3] st G h k)) := E_icmp_ge (by rfl)
theorem e205_61 : zE 205 d Q 61 [l0, l1, l2, l3] st G h k ↔ zE 205 d Q 62 [l0, l1, l2, l3] (zI 1 :: st) G h k := E_iconst (by rfl)
theorem e205_62 : zE 205 d Q 62 [l0, l1, l2, l3] st G h k ↔ zE 205 d Q 100 [l0, l1, l2, l3] st G h k := E_goto (by rfl)
theorem e205_65 : zE 205 d Q 65 [l0, l1, l2, l3] st G h k ↔ zE 205 d Q 66 [l0, l1, l2, l3] (zI 0 :: st) G h k := E_iconst (by rfl)
theorem e205_66 : zE 205 d Q 66 [l0, l1, l2, l3] st G h k ↔ zE 205 d Q 100 [l0, l1, l2, l3] st G h k := E_goto (by rfl)
theorem e205_69 : zE 205 d Q 69 [some (.inr (.inr w9)), l1, l2, l3] st G h k ↔ zE 205 d Q 70 [some (.inr (.inr w9)), l1, l2, l3] (.inr (.inr w9) :: st) G h k := E_aload_n (by rfl) rfl
theorem e205_70 : zE 205 d Q 70 [l0, l1, l2, l3] (zR (some r) :: st) G h k ↔ (G.2.1 r = 9 ∧ zE 205 d Q 73 [l0, l1, l2, l3] (zR (G.2.2.2 r 3) :: st) G h k) := E_getR (by rfl) rfl
theorem e205_73 : zE 205 d Q 73 [l0, l1, l2, l3] (zR (some r) :: st) G h k ↔ (G.2.1 r = 8 ∧ zE 205 d Q 76 [l0, l1, l2, l3] (zR (G.2.2.2 r 9) :: st) G h k) := E_getR (by rfl) rfl
theorem e205_76 : zE 205 d Q 76 [some (.inr (.inr w9)), l1, l2, l3] st G h k ↔ zE 205 d Q 77 [some (.inr (.inr w9)), l1, l2, l3] (.inr (.inr w9) :: st) G h k := E_aload_n (by rfl) rfl
theorem e205_77 : zE 205 d Q 77 [l0, l1, l2, l3] (zR (some r) :: st) G h k ↔ (G.2.1 r = 9 ∧ zE 205 d Q 80 [l0, l1, l2, l3] (zR (G.2.2.2 r 49) :: st) G h k) := E_getR (by rfl) rfl
theorem e205_80 : zE 205 d Q 80 [l0, some (zI x), l2, l3] st G h k ↔ zE 205 d Q 81 [l0, some (zI x), l2, l3] (zI x :: st) G h k := E_iload_n (by rfl) rfl
theorem e205_81 : zE 205 d Q 81 [l0, l1, l2, l3] (zI i :: zR (some r) :: st) G h k ↔ (G.2.1 r = 10 ∧ (0 ≤ i ∧ i < G.2.2.1 r) ∧ zE 205 d Q 82 [l0, l1, l2, l3] (zI (h r i.toNat) :: st) G h k) := E_iaload (by rfl)
theorem e205_82 : zE 205 d Q 82 [l0, l1, l2, l3] (zI i :: zR (some r) :: st) G h k ↔ (G.2.1 r = 10 ∧ (0 ≤ i ∧ i < G.2.2.1 r) ∧ zE 205 d Q 83 [l0, l1, l2, l3] (zI (h r i.toNat) :: st) G h k) := E_iaload (by rfl)
theorem e205_83 : zE 205 d Q 83 [some (.inr (.inr w9)), l1, l2, l3] st G h k ↔ zE 205 d Q 84 [some (.inr (.inr w9)), l1, l2, l3] (.inr (.inr w9) :: st) G h k := E_aload_n (by rfl) rfl
theorem e205_84 : zE 205 d Q 84 [l0, l1, l2, l3] (zR (some r) :: st) G h k ↔ (G.2.1 r = 9 ∧ zE 205 d Q 87 [l0, l1, l2, l3] (zR (G.2.2.2 r 3) :: st) G h k) := E_getR (by rfl) rfl
theorem e205_87 : zE 205 d Q 87 [l0, l1, l2, l3] (zR (some r) :: st) G h k ↔ (G.2.1 r = 8 ∧ zE 205 d Q 90 [l0, l1, l2, l3] (zR (G.2.2.2 r 6) :: st) G h k) := E_getR (by rfl) rfl
theorem e205_90 : zE 205 d Q 90 [l0, some (zI x), l2, l3] st G h k ↔ zE 205 d Q 91 [l0, some (zI x), l2, l3] (zI x :: st) G h k := E_iload_n (by rfl) rfl
theorem e205_91 : zE 205 d Q 91 [l0, l1, l2, l3] (zI i :: zR (some r) :: st) G h k ↔ (G.2.1 r = 10 ∧ (0 ≤ i ∧ i < G.2.2.1 r) ∧ zE 205 d Q 92 [l0, l1, l2, l3] (zI (h r i.toNat) :: st) G h k) := E_iaload (by rfl)
theorem e205_92 : zE 205 d Q 92 [l0, l1, l2, l3] (zI y :: zI x :: st) G h k ↔ ((y ≤ x → zE 205 d Q 99 [l0, l1, l2, l3] st G h k) ∧ (¬ (y ≤ x) → zE 205 d Q 95 [l0, l1, l2, l3] st G h k)) := E_icmp_ge (by rfl)
theorem e205_95 : zE 205 d Q 95 [l0, l1, l2, l3] st G h k ↔ zE 205 d Q 96 [l0, l1, l2, l3] (zI 1 :: st) G h k := E_iconst (by rfl)
theorem e205_96 : zE 205 d Q 96 [l0, l1, l2, l3] st G h k ↔ zE 205 d Q 100 [l0, l1, l2, l3] st G h k := E_goto (by rfl)
theorem e205_99 : zE 205 d Q 99 [l0, l1, l2, l3] st G h k ↔ zE 205 d Q 100 [l0, l1, l2, l3] (zI 0 :: st) G h k := E_iconst (by rfl)
theorem e205_100 : zE 205 d Q 100 [l0, l1, l2, l3] (zI x :: st) G h k ↔ zE 205 d Q 101 [l0, l1, (zclr l2), some (zI x)] st G h k := E_istore_n (by rfl) (by decide)
theorem e205_101 : zE 205 d Q 101 [some (.inr (.inr w9)), l1, l2, l3] st G h k ↔ zE 205 d Q 102 [some (.inr (.inr w9)), l1, l2, l3] (.inr (.inr w9) :: st) G h k := E_aload_n (by rfl) rfl
theorem e205_102 : zE 205 d Q 102 [l0, l1, l2, some (zI x)] st G h k ↔ zE 205 d Q 103 [l0, l1, l2, some (zI x)] (zI x :: st) G h k := E_iload_n (by rfl) rfl
theorem e205_103 : zE 205 d Q 103 [l0, l1, l2, l3] (zI x :: st) G h k ↔ ((x = 0 → zE 205 d Q 110 [l0, l1, l2, l3] st G h k) ∧ (¬ (x = 0) → zE 205 d Q 106 [l0, l1, l2, l3] st G h k)) := E_if_eq (by rfl)
theorem e205_106 : zE 205 d Q 106 [l0, l1, l2, l3] st G h k ↔ zE 205 d Q 107 [l0, l1, l2, l3] (zI 1 :: st) G h k := E_iconst (by rfl)
theorem e205_107 : zE 205 d Q 107 [l0, l1, l2, l3] st G h k ↔ zE 205 d Q 111 [l0, l1, l2, l3] st G h k := E_goto (by rfl)
theorem e205_110 : zE 205 d Q 110 [l0, l1, l2, l3] st G h k ↔ zE 205 d Q 111 [l0, l1, l2, l3] (zI 0 :: st) G h k := E_iconst (by rfl)
theorem e205_111 : zE 205 d Q 111 [l0, l1, l2, l3] (v0 :: zR (some r) :: st) G h k ↔ (zsum st ≤ 8 ∧ G.2.1 r = 9 ∧ zRunD ztb zmt' d 117 [zR (some r), v0] G h (fun v G' h' => zE 205 d Q 114 [l0, l1, l2, l3] (v.toList ++ st) G' h' k)) := E_invV2z (by rfl) (by decide) rfl
theorem e205_114 : zE 205 d Q 114 [l0, l1, l2, l3] [zI x] G h k ↔ Q (some (zI x)) G h := E_iret (by rfl) rfl
theorem e206_0 : zE 206 d Q 0 [l0, l1, l2] st G h k ↔ zE 206 d Q 1 [l0, l1, l2] (zI 0 :: st) G h k := E_iconst (by rfl)
theorem e206_1 : zE 206 d Q 1 [l0, l1, l2] (zI x :: st) G h k ↔ zE 206 d Q 2 [l0, (zclr l1), some (zI x)] st G h k := E_istore_n (by rfl) (by decide)
theorem e206_2 : zE 206 d Q 2 [l0, l1, some (zI x)] st G h k ↔ zE 206 d Q 3 [l0, l1, some (zI x)] (zI x :: st) G h k := E_iload_n (by rfl) rfl
theorem e206_3 : zE 206 d Q 3 [some (.inr (.inr w9)), l1, l2] st G h k ↔ zE 206 d Q 4 [some (.inr (.inr w9)), l1, l2] (.inr (.inr w9) :: st) G h k := E_aload_n (by rfl) rfl
theorem e206_4 : zE 206 d Q 4 [l0, l1, l2] (zR (some r) :: st) G h k ↔ (G.2.1 r = 9 ∧ zE 206 d Q 7 [l0, l1, l2] (zR (G.2.2.2 r 3) :: st) G h k) := E_getR (by rfl) rfl
theorem e206_7 : zE 206 d Q 7 [l0, l1, l2] (zR (some r) :: st) G h k ↔ (G.2.1 r = 8 ∧ zE 206 d Q 10 [l0, l1, l2] (zI (h r 0) :: st) G h k) := E_getI (by rfl) (by decide)
theorem e206_10 : zE 206 d Q 10 [l0, l1, l2] (zI y :: zI x :: st) G h k ↔ ((y ≤ x → zE 206 d Q 44 [l0, l1, l2] st G h k) ∧ (¬ (y ≤ x) → zE 206 d Q 13 [l0, l1, l2] st G h k)) := E_icmp_ge (by rfl)
theorem e206_13 : zE 206 d Q 13 [some (.inr (.inr w9)), l1, l2] st G h k ↔ zE 206 d Q 14 [some (.inr (.inr w9)), l1, l2] (.inr (.inr w9) :: st) G h k := E_aload_n (by rfl) rfl
theorem e206_14 : zE 206 d Q 14 [some (.inr (.inr w9)), l1, l2] st G h k ↔ zE 206 d Q 15 [some (.inr (.inr w9)), l1, l2] (.inr (.inr w9) :: st) G h k := E_aload_n (by rfl) rfl
theorem e206_15 : zE 206 d Q 15 [l0, some (zI x), l2] st G h k ↔ zE 206 d Q 16 [l0, some (zI x), l2] (zI x :: st) G h k := E_iload_n (by rfl) rfl
theorem e206_16 : zE 206 d Q 16 [l0, l1, some (zI x)] st G h k ↔ zE 206 d Q 17 [l0, l1, some (zI x)] (zI x :: st) G h k := E_iload_n (by rfl) rfl
theorem e206_17 : zE 206 d Q 17 [l0, l1, l2] (v1 :: v0 :: zR (some r) :: st) G h k ↔ (zsum st ≤ 8 ∧ G.2.1 r = 9 ∧ zRunD ztb zmt' d 173 [zR (some r), v0, v1] G h (fun v G' h' => zE 206 d Q 20 [l0, l1, l2] (v.toList ++ st) G' h' k)) := E_invV2z (by rfl) (by decide) rfl
theorem e206_20 : zE 206 d Q 20 [l0, l1, l2] (v0 :: zR (some r) :: st) G h k ↔ (zsum st ≤ 8 ∧ G.2.1 r = 9 ∧ zRunD ztb zmt' d 175 [zR (some r), v0] G h (fun v G' h' => zE 206 d Q 23 [l0, l1, l2] (v.toList ++ st) G' h' k)) := E_invV2z (by rfl) (by decide) rfl
theorem e206_23 : zE 206 d Q 23 [some (.inr (.inr w9)), l1, l2] st G h k ↔ zE 206 d Q 24 [some (.inr (.inr w9)), l1, l2] (.inr (.inr w9) :: st) G h k := E_aload_n (by rfl) rfl
theorem e206_24 : zE 206 d Q 24 [some (.inr (.inr w9)), l1, l2] st G h k ↔ zE 206 d Q 25 [some (.inr (.inr w9)), l1, l2] (.inr (.inr w9) :: st) G h k := E_aload_n (by rfl) rfl
theorem e206_25 : zE 206 d Q 25 [l0, some (zI x), l2] st G h k ↔ zE 206 d Q 26 [l0, some (zI x), l2] (zI x :: st) G h k := E_iload_n (by rfl) rfl
theorem e206_26 : zE 206 d Q 26 [l0, l1, some (zI x)] st G h k ↔ zE 206 d Q 27 [l0, l1, some (zI x)] (zI x :: st) G h k := E_iload_n (by rfl) rfl
theorem e206_27 : zE 206 d Q 27 [l0, l1, l2] (v1 :: v0 :: zR (some r) :: st) G h k ↔ (zsum st ≤ 8 ∧ G.2.1 r = 9 ∧ zRunD ztb zmt' d 173 [zR (some r), v0, v1] G h (fun v G' h' => zE 206 d Q 30 [l0, l1, l2] (v.toList ++ st) G' h' k)) := E_invV2z (by rfl) (by decide) rfl
theorem e206_30 : zE 206 d Q 30 [l0, l1, l2] (v0 :: zR (some r) :: st) G h k ↔ (zsum st ≤ 8 ∧ G.2.1 r = 9 ∧ zRunD ztb zmt' d 174 [zR (some r), v0] G h (fun v G' h' => zE 206 d Q 33 [l0, l1, l2] (v.toList ++ st) G' h' k)) := E_invV2z (by rfl) (by decide) rfl
theorem e206_33 : zE 206 d Q 33 [l0, l1, l2] (zI y :: zI x :: st) G h k ↔ ((y ≤ x → zE 206 d Q 38 [l0, l1, l2] st G h k) ∧ (¬ (y ≤ x) → zE 206 d Q 36 [l0, l1, l2] st G h k)) := E_icmp_ge (by rfl)
theorem e206_36 : zE 206 d Q 36 [l0, l1, l2] st G h k ↔ zE 206 d Q 37 [l0, l1, l2] (zI 1 :: st) G h k := E_iconst (by rfl)
theorem e206_37 : zE 206 d Q 37 [l0, l1, l2] [zI x] G h k ↔ ((x = 0 ∨ x = 1) ∧ Q (some (zI x)) G h) := E_zret (by rfl) rfl
theorem e206_38 : zE 206 d Q 38 [l0, l1, some (zI x)] st G h k ↔ zE 206 d Q 41 [l0, (zclr l1), some (zI (wr (x + 1)))] st G h k := E_iinc (by rfl) rfl
theorem e206_41 : zE 206 d Q 41 [l0, l1, l2] st G h k ↔ zE 206 d Q 2 [l0, l1, l2] st G h k := E_goto (by rfl)
theorem e206_44 : zE 206 d Q 44 [l0, l1, l2] st G h k ↔ zE 206 d Q 45 [l0, l1, l2] (zI 0 :: st) G h k := E_iconst (by rfl)
theorem e206_45 : zE 206 d Q 45 [l0, l1, l2] [zI x] G h k ↔ ((x = 0 ∨ x = 1) ∧ Q (some (zI x)) G h) := E_zret (by rfl) rfl
theorem e207_0 : zE 207 d Q 0 [some (.inr (.inr w9)), l1] st G h k ↔ zE 207 d Q 1 [some (.inr (.inr w9)), l1] (.inr (.inr w9) :: st) G h k := E_aload_n (by rfl) rfl
theorem e207_1 : zE 207 d Q 1 [l0, l1] st G h k ↔ zE 207 d Q 2 [l0, l1] (zI 0 :: st) G h k := E_iconst (by rfl)
theorem e207_2 : zE 207 d Q 2 [l0, l1] (zI x :: zR (some r) :: st) G h k ↔ (G.2.1 r = 9 ∧ zE 207 d Q 5 [l0, l1] st G (zu h r 0 x) k) := E_putI (by rfl) rfl
theorem e207_5 : zE 207 d Q 5 [some (.inr (.inr w9)), l1] st G h k ↔ zE 207 d Q 6 [some (.inr (.inr w9)), l1] (.inr (.inr w9) :: st) G h k := E_aload_n (by rfl) rfl
theorem e207_6 : zE 207 d Q 6 [l0, l1] (zR (some r) :: st) G h k ↔ (G.2.1 r = 9 ∧ zE 207 d Q 9 [l0, l1] (zR (G.2.2.2 r 3) :: st) G h k) := E_getR (by rfl) rfl
theorem e207_9 : zE 207 d Q 9 [l0, l1] (zR q9 :: st) G h k ↔ ((q9 = none → zE 207 d Q 12 [l0, l1] st G h k) ∧ (∀ q, q9 = some q → zE 207 d Q 18 [l0, l1] st G h k)) := E_ifnonnull (by rfl)
theorem e207_12 : zE 207 d Q 12 [some (.inr (.inr w9)), l1] st G h k ↔ zE 207 d Q 13 [some (.inr (.inr w9)), l1] (.inr (.inr w9) :: st) G h k := E_aload_n (by rfl) rfl
theorem e207_13 : zE 207 d Q 13 [l0, l1] st G h k ↔ zE 207 d Q 14 [l0, l1] (zI 1 :: st) G h k := E_iconst (by rfl)
theorem e207_14 : zE 207 d Q 14 [l0, l1] (v0 :: zR (some r) :: st) G h k ↔ (zsum st ≤ 8 ∧ G.2.1 r = 9 ∧ zRunD ztb zmt' d 114 [zR (some r), v0] G h (fun v G' h' => zE 207 d Q 17 [l0, l1] (v.toList ++ st) G' h' k)) := E_invV2z (by rfl) (by decide) rfl
theorem e207_17 : zE 207 d Q 17 [l0, l1] [zI x] G h k ↔ Q (some (zI x)) G h := E_iret (by rfl) rfl
theorem e207_18 : zE 207 d Q 18 [l0, l1] st G h k ↔ zE 207 d Q 19 [l0, l1] (zI 0 :: st) G h k := E_iconst (by rfl)
theorem e207_19 : zE 207 d Q 19 [l0, l1] (zI x :: st) G h k ↔ zE 207 d Q 20 [(zclr l0), some (zI x)] st G h k := E_istore_n (by rfl) (by decide)
theorem e207_20 : zE 207 d Q 20 [l0, some (zI x)] st G h k ↔ zE 207 d Q 21 [l0, some (zI x)] (zI x :: st) G h k := E_iload_n (by rfl) rfl
theorem e207_21 : zE 207 d Q 21 [l0, l1] st G h k ↔ zE 207 d Q 23 [l0, l1] (zI 100 :: st) G h k := E_bipush (by rfl)
theorem e207_23 : zE 207 d Q 23 [l0, l1] (zI y :: zI x :: st) G h k ↔ ((y < x → zE 207 d Q 64 [l0, l1] st G h k) ∧ (¬ (y < x) → zE 207 d Q 26 [l0, l1] st G h k)) := E_icmp_gt (by rfl)
theorem e207_26 : zE 207 d Q 26 [some (.inr (.inr w9)), l1] st G h k ↔ zE 207 d Q 27 [some (.inr (.inr w9)), l1] (.inr (.inr w9) :: st) G h k := E_aload_n (by rfl) rfl
theorem e207_27 : zE 207 d Q 27 [l0, l1] st G h k ↔ zE 207 d Q 28 [l0, l1] (zI 0 :: st) G h k := E_iconst (by rfl)
theorem e207_28 : zE 207 d Q 28 [l0, l1] (v0 :: zR (some r) :: st) G h k ↔ (zsum st ≤ 8 ∧ G.2.1 r = 9 ∧ zRunD ztb zmt' d 143 [zR (some r), v0] G h (fun v G' h' => zE 207 d Q 31 [l0, l1] (v.toList ++ st) G' h' k)) := E_invV2z (by rfl) (by decide) rfl
theorem e207_31 : zE 207 d Q 31 [some (.inr (.inr w9)), l1] st G h k ↔ zE 207 d Q 32 [some (.inr (.inr w9)), l1] (.inr (.inr w9) :: st) G h k := E_aload_n (by rfl) rfl
theorem e207_32 : zE 207 d Q 32 [l0, some (zI x)] st G h k ↔ zE 207 d Q 33 [l0, some (zI x)] (zI x :: st) G h k := E_iload_n (by rfl) rfl
theorem e207_33 : zE 207 d Q 33 [l0, l1] (zI x :: zR (some r) :: st) G h k ↔ (G.2.1 r = 9 ∧ zE 207 d Q 36 [l0, l1] st G (zu h r 19 x) k) := E_putI (by rfl) rfl
theorem e207_36 : zE 207 d Q 36 [some (.inr (.inr w9)), l1] st G h k ↔ zE 207 d Q 37 [some (.inr (.inr w9)), l1] (.inr (.inr w9) :: st) G h k := E_aload_n (by rfl) rfl
theorem e207_37 : zE 207 d Q 37 [l0, l1] st G h k ↔ zE 207 d Q 38 [l0, l1] (zI 1 :: st) G h k := E_iconst (by rfl)
theorem e207_38 : zE 207 d Q 38 [l0, l1] (v0 :: zR (some r) :: st) G h k ↔ (zsum st ≤ 8 ∧ G.2.1 r = 9 ∧ zRunD ztb zmt' d 186 [zR (some r), v0] G h (fun v G' h' => zE 207 d Q 41 [l0, l1] (v.toList ++ st) G' h' k)) := E_invV2z (by rfl) (by decide) rfl
theorem e207_41 : zE 207 d Q 41 [some (.inr (.inr w9)), l1] st G h k ↔ zE 207 d Q 42 [some (.inr (.inr w9)), l1] (.inr (.inr w9) :: st) G h k := E_aload_n (by rfl) rfl
theorem e207_42 : zE 207 d Q 42 [some (.inr (.inr w9)), l1] st G h k ↔ zE 207 d Q 43 [some (.inr (.inr w9)), l1] (.inr (.inr w9) :: st) G h k := E_aload_n (by rfl) rfl
theorem e207_43 : zE 207 d Q 43 [l0, l1] (zR (some r) :: st) G h k ↔ (zsum st ≤ 8 ∧ G.2.1 r = 9 ∧ zRunD ztb zmt' d 182 [zR (some r)] G h (fun v G' h' => zE 207 d Q 46 [l0, l1] (v.toList ++ st) G' h' k)) := E_invV2z (by rfl) (by decide) rfl
theorem e207_46 : zE 207 d Q 46 [l0, l1] (v0 :: zR (some r) :: st) G h k ↔ (zsum st ≤ 8 ∧ G.2.1 r = 9 ∧ zRunD ztb zmt' d 206 [zR (some r), v0] G h (fun v G' h' => zE 207 d Q 49 [l0, l1] (v.toList ++ st) G' h' k)) := E_invV2z (by rfl) (by decide) rfl
theorem e207_49 : zE 207 d Q 49 [l0, l1] (zI x :: st) G h k ↔ ((¬ x = 0 → zE 207 d Q 58 [l0, l1] st G h k) ∧ (¬ (¬ x = 0) → zE 207 d Q 52 [l0, l1] st G h k)) := E_if_ne (by rfl)
theorem e207_52 : zE 207 d Q 52 [some (.inr (.inr w9)), l1] st G h k ↔ zE 207 d Q 53 [some (.inr (.inr w9)), l1] (.inr (.inr w9) :: st) G h k := E_aload_n (by rfl) rfl
theorem e207_53 : zE 207 d Q 53 [l0, some (zI x)] st G h k ↔ zE 207 d Q 54 [l0, some (zI x)] (zI x :: st) G h k := E_iload_n (by rfl) rfl
theorem e207_54 : zE 207 d Q 54 [l0, l1] (v0 :: zR (some r) :: st) G h k ↔ (zsum st ≤ 8 ∧ G.2.1 r = 9 ∧ zRunD ztb zmt' d 117 [zR (some r), v0] G h (fun v G' h' => zE 207 d Q 57 [l0, l1] (v.toList ++ st) G' h' k)) := E_invV2z (by rfl) (by decide) rfl
theorem e207_57 : zE 207 d Q 57 [l0, l1] [zI x] G h k ↔ Q (some (zI x)) G h := E_iret (by rfl) rfl
theorem e207_58 : zE 207 d Q 58 [l0, some (zI x)] st G h k ↔ zE 207 d Q 61 [(zclr l0), some (zI (wr (x + 1)))] st G h k := E_iinc (by rfl) rfl
theorem e207_61 : zE 207 d Q 61 [l0, l1] st G h k ↔ zE 207 d Q 20 [l0, l1] st G h k := E_goto (by rfl)
theorem e207_64 : zE 207 d Q 64 [some (.inr (.inr w9)), l1] st G h k ↔ zE 207 d Q 65 [some (.inr (.inr w9)), l1] (.inr (.inr w9) :: st) G h k := E_aload_n (by rfl) rfl
theorem e207_65 : zE 207 d Q 65 [l0, l1] st G h k ↔ zE 207 d Q 67 [l0, l1] (zI (-2) :: st) G h k := E_bipush (by rfl)
theorem e207_67 : zE 207 d Q 67 [l0, l1] (v0 :: zR (some r) :: st) G h k ↔ (zsum st ≤ 8 ∧ G.2.1 r = 9 ∧ zRunD ztb zmt' d 117 [zR (some r), v0] G h (fun v G' h' => zE 207 d Q 70 [l0, l1] (v.toList ++ st) G' h' k)) := E_invV2z (by rfl) (by decide) rfl
theorem e207_70 : zE 207 d Q 70 [l0, l1] [zI x] G h k ↔ Q (some (zI x)) G h := E_iret (by rfl) rfl
theorem e208_0 : zE 208 d Q 0 [some (.inr (.inr w9)), l1, l2, l3] st G h k ↔ zE 208 d Q 1 [some (.inr (.inr w9)), l1, l2, l3] (.inr (.inr w9) :: st) G h k := E_aload_n (by rfl) rfl
theorem e208_1 : zE 208 d Q 1 [l0, l1, l2, l3] st G h k ↔ zE 208 d Q 2 [l0, l1, l2, l3] (zI 0 :: st) G h k := E_iconst (by rfl)
theorem e208_2 : zE 208 d Q 2 [l0, l1, l2, l3] (zI x :: zR (some r) :: st) G h k ↔ (G.2.1 r = 9 ∧ zE 208 d Q 5 [l0, l1, l2, l3] st G (zu h r 0 x) k) := E_putI (by rfl) rfl
theorem e208_5 : zE 208 d Q 5 [some (.inr (.inr w9)), l1, l2, l3] st G h k ↔ zE 208 d Q 6 [some (.inr (.inr w9)), l1, l2, l3] (.inr (.inr w9) :: st) G h k := E_aload_n (by rfl) rfl
theorem e208_6 : zE 208 d Q 6 [l0, some (zI x), l2, l3] st G h k ↔ zE 208 d Q 7 [l0, some (zI x), l2, l3] (zI x :: st) G h k := E_iload_n (by rfl) rfl
theorem e208_7 : zE 208 d Q 7 [l0, l1, l2, l3] (v0 :: zR (some r) :: st) G h k ↔ (zsum st ≤ 8 ∧ G.2.1 r = 9 ∧ zRunD ztb zmt' d 154 [zR (some r), v0] G h (fun v G' h' => zE 208 d Q 10 [l0, l1, l2, l3] (v.toList ++ st) G' h' k)) := E_invV2z (by rfl) (by decide) rfl
theorem e208_10 : zE 208 d Q 10 [l0, l1, l2, l3] (zI x :: st) G h k ↔ ((x = 0 → zE 208 d Q 23 [l0, l1, l2, l3] st G h k) ∧ (¬ (x = 0) → zE 208 d Q 13 [l0, l1, l2, l3] st G h k)) := E_if_eq (by rfl)
theorem e208_13 : zE 208 d Q 13 [l0, l1, some (zI x), l3] st G h k ↔ zE 208 d Q 14 [l0, l1, some (zI x), l3] (zI x :: st) G h k := E_iload_n (by rfl) rfl
theorem e208_14 : zE 208 d Q 14 [l0, l1, l2, l3] st G h k ↔ zE 208 d Q 15 [l0, l1, l2, l3] (zI 0 :: st) G h k := E_iconst (by rfl)
theorem e208_15 : zE 208 d Q 15 [l0, l1, l2, l3] st G h k ↔ zE 208 d Q 17 [l0, l1, l2, l3] (zI 99 :: st) G h k := E_bipush (by rfl)
theorem e209_0 : zE 209 d Q 0 [some (.inr (.inr w9)), l1, l2, l3] st G h k ↔ zE 209 d Q 1 [some (.inr (.inr w9)), l1, l2, l3] (.inr (.inr w9) :: st) G h k := E_aload_n (by rfl) rfl
theorem e209_1 : zE 209 d Q 1 [l0, l1, l2, l3] st G h k ↔ zE 209 d Q 2 [l0, l1, l2, l3] (zI 0 :: st) G h k := E_iconst (by rfl)
theorem e209_2 : zE 209 d Q 2 [l0, l1, l2, l3] (zI x :: zR (some r) :: st) G h k ↔ (G.2.1 r = 9 ∧ zE 209 d Q 5 [l0, l1, l2, l3] st G (zu h r 0 x) k) := E_putI (by rfl) rfl
theorem e209_5 : zE 209 d Q 5 [l0, l1, l2, l3] st G h k ↔ zE 209 d Q 6 [l0, l1, l2, l3] (zI 0 :: st) G h k := E_iconst (by rfl)
theorem e209_6 : zE 209 d Q 6 [l0, l1, l2, l3] (zI x :: st) G h k ↔ zE 209 d Q 7 [l0, (zclr l1), some (zI x), l3] st G h k := E_istore_n (by rfl) (by decide)
theorem e209_7 : zE 209 d Q 7 [l0, l1, l2, l3] st G h k ↔ zE 209 d Q 8 [l0, l1, l2, l3] (zI 0 :: st) G h k := E_iconst (by rfl)
theorem e209_8 : zE 209 d Q 8 [l0, l1, l2, l3] (zI x :: st) G h k ↔ zE 209 d Q 9 [l0, l1, (zclr l2), some (zI x)] st G h k := E_istore_n (by rfl) (by decide)
theorem e209_9 : zE 209 d Q 9 [l0, l1, l2, some (zI x)] st G h k ↔ zE 209 d Q 10 [l0, l1, l2, some (zI x)] (zI x :: st) G h k := E_iload_n (by rfl) rfl
theorem e209_10 : zE 209 d Q 10 [some (.inr (.inr w9)), l1, l2, l3] st G h k ↔ zE 209 d Q 11 [some (.inr (.inr w9)), l1, l2, l3] (.inr (.inr w9) :: st) G h k := E_aload_n (by rfl) rfl
theorem e209_11 : zE 209 d Q 11 [l0, l1, l2, l3] (zR (some r) :: st) G h k ↔ (G.2.1 r = 9 ∧ zE 209 d Q 14 [l0, l1, l2, l3] (zI (h r 31) :: st) G h k) := E_getI (by rfl) (by decide)
theorem e209_14 : zE 209 d Q 14 [l0, l1, l2, l3] (zI y :: zI x :: st) G h k ↔ ((y ≤ x → zE 209 d Q 45 [l0, l1, l2, l3] st G h k) ∧ (¬ (y ≤ x) → zE 209 d Q 17 [l0, l1, l2, l3] st G h k)) := E_icmp_ge (by rfl)
theorem e209_17 : zE 209 d Q 17 [some (.inr (.inr w9)), l1, l2, l3] st G h k ↔ zE 209 d Q 18 [some (.inr (.inr w9)), l1, l2, l3] (.inr (.inr w9) :: st) G h k := E_aload_n (by rfl) rfl
theorem e209_18 : zE 209 d Q 18 [l0, l1, l2, l3] (zR (some r) :: st) G h k ↔ (G.2.1 r = 9 ∧ zE 209 d Q 21 [l0, l1, l2, l3] (zR (G.2.2.2 r 40) :: st) G h k) := E_getR (by rfl) rfl
theorem e209_21 : zE 209 d Q 21 [l0, l1, l2, some (zI x)] st G h k ↔ zE 209 d Q 22 [l0, l1, l2, some (zI x)] (zI x :: st) G h k := E_iload_n (by rfl) rfl
theorem e209_22 : zE 209 d Q 22 [l0, l1, l2, l3] (zI i :: zR (some r) :: st) G h k ↔ (G.2.1 r = 10 ∧ (0 ≤ i ∧ i < G.2.2.1 r) ∧ zE 209 d Q 23 [l0, l1, l2, l3] (zI (h r i.toNat) :: st) G h k) := E_iaload (by rfl)
theorem e209_23 : zE 209 d Q 23 [l0, l1, l2, l3] (zI x :: st) G h k ↔ ((¬ x = 0 → zE 209 d Q 29 [l0, l1, l2, l3] st G h k) ∧ (¬ (¬ x = 0) → zE 209 d Q 26 [l0, l1, l2, l3] st G h k)) := E_if_ne (by rfl)
theorem e209_26 : zE 209 d Q 26 [l0, l1, l2, l3] st G h k ↔ zE 209 d Q 39 [l0, l1, l2, l3] st G h k := E_goto (by rfl)
theorem e209_29 : zE 209 d Q 29 [l0, l1, some (zI x), l3] st G h k ↔ zE 209 d Q 30 [l0, l1, some (zI x), l3] (zI x :: st) G h k := E_iload_n (by rfl) rfl
theorem e209_30 : zE 209 d Q 30 [l0, some (zI x), l2, l3] st G h k ↔ zE 209 d Q 31 [l0, some (zI x), l2, l3] (zI x :: st) G h k := E_iload_n (by rfl) rfl
theorem e209_31 : zE 209 d Q 31 [l0, l1, l2, l3] (zI y :: zI x :: st) G h k ↔ ((¬ x = y → zE 209 d Q 36 [l0, l1, l2, l3] st G h k) ∧ (¬ (¬ x = y) → zE 209 d Q 34 [l0, l1, l2, l3] st G h k)) := E_icmp_ne (by rfl)
theorem e209_34 : zE 209 d Q 34 [l0, l1, l2, some (zI x)] st G h k ↔ zE 209 d Q 35 [l0, l1, l2, some (zI x)] (zI x :: st) G h k := E_iload_n (by rfl) rfl
theorem e209_35 : zE 209 d Q 35 [l0, l1, l2, l3] [zI x] G h k ↔ Q (some (zI x)) G h := E_iret (by rfl) rfl
theorem e209_36 : zE 209 d Q 36 [l0, l1, some (zI x), l3] st G h k ↔ zE 209 d Q 39 [l0, (zclr l1), some (zI (wr (x + 1))), l3] st G h k := E_iinc (by rfl) rfl
theorem e209_39 : zE 209 d Q 39 [l0, l1, l2, some (zI x)] st G h k ↔ zE 209 d Q 42 [l0, l1, (zclr l2), some (zI (wr (x + 1)))] st G h k := E_iinc (by rfl) rfl
theorem e209_42 : zE 209 d Q 42 [l0, l1, l2, l3] st G h k ↔ zE 209 d Q 9 [l0, l1, l2, l3] st G h k := E_goto (by rfl)
theorem e209_45 : zE 209 d Q 45 [some (.inr (.inr w9)), l1, l2, l3] st G h k ↔ zE 209 d Q 46 [some (.inr (.inr w9)), l1, l2, l3] (.inr (.inr w9) :: st) G h k := E_aload_n (by rfl) rfl
theorem e209_46 : zE 209 d Q 46 [l0, l1, l2, l3] st G h k ↔ zE 209 d Q 47 [l0, l1, l2, l3] (zI 1 :: st) G h k := E_iconst (by rfl)
theorem e209_47 : zE 209 d Q 47 [l0, l1, l2, l3] (zI x :: zR (some r) :: st) G h k ↔ (G.2.1 r = 9 ∧ zE 209 d Q 50 [l0, l1, l2, l3] st G (zu h r 0 x) k) := E_putI (by rfl) rfl
theorem e209_50 : zE 209 d Q 50 [l0, l1, l2, l3] st G h k ↔ zE 209 d Q 51 [l0, l1, l2, l3] (zI 0 :: st) G h k := E_iconst (by rfl)
theorem e209_51 : zE 209 d Q 51 [l0, l1, l2, l3] [zI x] G h k ↔ Q (some (zI x)) G h := E_iret (by rfl) rfl
theorem e210_0 : zE 210 d Q 0 [some (.inr (.inr w9)), l1] st G h k ↔ zE 210 d Q 1 [some (.inr (.inr w9)), l1] (.inr (.inr w9) :: st) G h k := E_aload_n (by rfl) rfl
theorem e210_1 : zE 210 d Q 1 [l0, l1] st G h k ↔ zE 210 d Q 2 [l0, l1] (zI 0 :: st) G h k := E_iconst (by rfl)
theorem e210_2 : zE 210 d Q 2 [l0, l1] (zI x :: zR (some r) :: st) G h k ↔ (G.2.1 r = 9 ∧ zE 210 d Q 5 [l0, l1] st G (zu h r 0 x) k) := E_putI (by rfl) rfl
theorem e210_5 : zE 210 d Q 5 [l0, some (zI x)] st G h k ↔ zE 210 d Q 6 [l0, some (zI x)] (zI x :: st) G h k := E_iload_n (by rfl) rfl
theorem e210_6 : zE 210 d Q 6 [l0, l1] st G h k ↔ zE 210 d Q 8 [l0, l1] (zI 7 :: st) G h k := E_bipush (by rfl)
theorem e210_8 : zE 210 d Q 8 [l0, l1] (zI y :: zI x :: st) G h k ↔ ((¬ x = y → zE 210 d Q 16 [l0, l1] st G h k) ∧ (¬ (¬ x = y) → zE 210 d Q 11 [l0, l1] st G h k)) := E_icmp_ne (by rfl)
theorem e210_11 : zE 210 d Q 11 [some (.inr (.inr w9)), l1] st G h k ↔ zE 210 d Q 12 [some (.inr (.inr w9)), l1] (.inr (.inr w9) :: st) G h k := E_aload_n (by rfl) rfl
theorem e210_12 : zE 210 d Q 12 [l0, l1] (zR (some r) :: st) G h k ↔ (G.2.1 r = 9 ∧ zE 210 d Q 15 [l0, l1] (zI (h r 6) :: st) G h k) := E_getI (by rfl) (by decide)
theorem e210_15 : zE 210 d Q 15 [l0, l1] [zI x] G h k ↔ Q (some (zI x)) G h := E_iret (by rfl) rfl
theorem e210_16 : zE 210 d Q 16 [l0, some (zI x)] st G h k ↔ zE 210 d Q 17 [l0, some (zI x)] (zI x :: st) G h k := E_iload_n (by rfl) rfl
theorem e210_17 : zE 210 d Q 17 [l0, l1] st G h k ↔ zE 210 d Q 18 [l0, l1] (zI 0 :: st) G h k := E_iconst (by rfl)
theorem e210_18 : zE 210 d Q 18 [l0, l1] st G h k ↔ zE 210 d Q 20 [l0, l1] (zI 8 :: st) G h k := E_bipush (by rfl)
theorem e210_20 : zE 210 d Q 20 [l0, l1] (v2 :: v1 :: v0 :: st) G h k ↔ (zsum st ≤ 8 ∧ zRunD ztb zmt' d 120 [v0, v1, v2] G h (fun v G' h' => zE 210 d Q 23 [l0, l1] (v.toList ++ st) G' h' k)) := E_invS2z (by rfl) (by decide) rfl
theorem e210_23 : zE 210 d Q 23 [l0, l1] (zI x :: st) G h k ↔ ((¬ x = 0 → zE 210 d Q 28 [l0, l1] st G h k) ∧ (¬ (¬ x = 0) → zE 210 d Q 26 [l0, l1] st G h k)) := E_if_ne (by rfl)
theorem e210_26 : zE 210 d Q 26 [l0, l1] st G h k ↔ zE 210 d Q 27 [l0, l1] (zI (-1) :: st) G h k := E_iconst (by rfl)
theorem e210_27 : zE 210 d Q 27 [l0, l1] [zI x] G h k ↔ Q (some (zI x)) G h := E_iret (by rfl) rfl
theorem e210_28 : zE 210 d Q 28 [some (.inr (.inr w9)), l1] st G h k ↔ zE 210 d Q 29 [some (.inr (.inr w9)), l1] (.inr (.inr w9) :: st) G h k := E_aload_n (by rfl) rfl
theorem e210_29 : zE 210 d Q 29 [l0, l1] (zR (some r) :: st) G h k ↔ (G.2.1 r = 9 ∧ zE 210 d Q 32 [l0, l1] (zR (G.2.2.2 r 3) :: st) G h k) := E_getR (by rfl) rfl
theorem e210_32 : zE 210 d Q 32 [l0, l1] (zR q9 :: st) G h k ↔ ((q9 = none → zE 210 d Q 35 [l0, l1] st G h k) ∧ (∀ q, q9 = some q → zE 210 d Q 37 [l0, l1] st G h k)) := E_ifnonnull (by rfl)
theorem e210_35 : zE 210 d Q 35 [l0, l1] st G h k ↔ zE 210 d Q 36 [l0, l1] (zI 0 :: st) G h k := E_iconst (by rfl)
theorem e210_36 : zE 210 d Q 36 [l0, l1] [zI x] G h k ↔ Q (some (zI x)) G h := E_iret (by rfl) rfl
theorem e210_37 : zE 210 d Q 37 [l0, some (zI x)] st G h k ↔ zE 210 d Q 38 [l0, some (zI x)] (zI x :: st) G h k := E_iload_n (by rfl) rfl
theorem e210_38 : zE 210 d Q 38 [l0, l1] (zI x :: st) G h k ↔ zE 210 d Q (ztsw 38 100 0 6 #[42, 50, 58, 66, 82, 90, 95] x) [l0, l1] st G h k := E_tableswitch (by rfl)
theorem e210_80 : zE 210 d Q 80 [some (.inr (.inr w9)), l1] st G h k ↔ zE 210 d Q 81 [some (.inr (.inr w9)), l1] (.inr (.inr w9) :: st) G h k := E_aload_n (by rfl) rfl
theorem e210_81 : zE 210 d Q 81 [l0, l1] (zR (some r) :: st) G h k ↔ (G.2.1 r = 9 ∧ zE 210 d Q 84 [l0, l1] (zR (G.2.2.2 r 3) :: st) G h k) := E_getR (by rfl) rfl
theorem e210_84 : zE 210 d Q 84 [l0, l1] (zR (some r) :: st) G h k ↔ (G.2.1 r = 8 ∧ zE 210 d Q 87 [l0, l1] (zI (h r 0) :: st) G h k) := E_getI (by rfl) (by decide)
theorem e210_87 : zE 210 d Q 87 [l0, l1] [zI x] G h k ↔ Q (some (zI x)) G h := E_iret (by rfl) rfl
theorem e210_88 : zE 210 d Q 88 [some (.inr (.inr w9)), l1] st G h k ↔ zE 210 d Q 89 [some (.inr (.inr w9)), l1] (.inr (.inr w9) :: st) G h k := E_aload_n (by rfl) rfl
theorem e210_89 : zE 210 d Q 89 [l0, l1] (zR (some r) :: st) G h k ↔ (G.2.1 r = 9 ∧ zE 210 d Q 92 [l0, l1] (zR (G.2.2.2 r 3) :: st) G h k) := E_getR (by rfl) rfl
theorem e210_92 : zE 210 d Q 92 [l0, l1] (zR (some r) :: st) G h k ↔ (G.2.1 r = 8 ∧ zE 210 d Q 95 [l0, l1] (zI (h r 1) :: st) G h k) := E_getI (by rfl) (by decide)
theorem e210_95 : zE 210 d Q 95 [l0, l1] [zI x] G h k ↔ Q (some (zI x)) G h := E_iret (by rfl) rfl
theorem e210_96 : zE 210 d Q 96 [some (.inr (.inr w9)), l1] st G h k ↔ zE 210 d Q 97 [some (.inr (.inr w9)), l1] (.inr (.inr w9) :: st) G h k := E_aload_n (by rfl) rfl
theorem e210_97 : zE 210 d Q 97 [l0, l1] (zR (some r) :: st) G h k ↔ (G.2.1 r = 9 ∧ zE 210 d Q 100 [l0, l1] (zR (G.2.2.2 r 3) :: st) G h k) := E_getR (by rfl) rfl
theorem e210_100 : zE 210 d Q 100 [l0, l1] (zR (some r) :: st) G h k ↔ (G.2.1 r = 8 ∧ zE 210 d Q 103 [l0, l1] (zI (h r 2) :: st) G h k) := E_getI (by rfl) (by decide)
theorem e210_103 : zE 210 d Q 103 [l0, l1] [zI x] G h k ↔ Q (some (zI x)) G h := E_iret (by rfl) rfl
theorem e210_104 : zE 210 d Q 104 [some (.inr (.inr w9)), l1] st G h k ↔ zE 210 d Q 105 [some (.inr (.inr w9)), l1] (.inr (.inr w9) :: st) G h k := E_aload_n (by rfl) rfl
theorem e210_105 : zE 210 d Q 105 [l0, l1] (zR (some r) :: st) G h k ↔ (G.2.1 r = 9 ∧ zE 210 d Q 108 [l0, l1] (zR (G.2.2.2 r 3) :: st) G h k) := E_getR (by rfl) rfl
theorem e210_108 : zE 210 d Q 108 [l0, l1] (zR (some r) :: st) G h k ↔ (G.2.1 r = 8 ∧ zE 210 d Q 111 [l0, l1] (zI (h r 5) :: st) G h k) := E_getI (by rfl) (by decide)
theorem e210_111 : zE 210 d Q 111 [l0, l1] (zI x :: st) G h k ↔ ((x = 0 → zE 210 d Q 118 [l0, l1] st G h k) ∧ (¬ (x = 0) → zE 210 d Q 114 [l0, l1] st G h k)) := E_if_eq (by rfl)
theorem e210_114 : zE 210 d Q 114 [l0, l1] st G h k ↔ zE 210 d Q 115 [l0, l1] (zI 1 :: st) G h k := E_iconst (by rfl)
theorem e210_115 : zE 210 d Q 115 [l0, l1] st G h k ↔ zE 210 d Q 119 [l0, l1] st G h k := E_goto (by rfl)
theorem e210_118 : zE 210 d Q 118 [l0, l1] st G h k ↔ zE 210 d Q 119 [l0, l1] (zI 0 :: st) G h k := E_iconst (by rfl)
theorem e210_119 : zE 210 d Q 119 [l0, l1] [zI x] G h k ↔ Q (some (zI x)) G h := E_iret (by rfl) rfl
theorem e210_120 : zE 210 d Q 120 [some (.inr (.inr w9)), l1] st G h k ↔ zE 210 d Q 121 [some (.inr (.inr w9)), l1] (.inr (.inr w9) :: st) G h k := E_aload_n (by rfl) rfl
theorem e210_121 : zE 210 d Q 121 [l0, l1] (zR (some r) :: st) G h k ↔ (G.2.1 r = 9 ∧ zE 210 d Q 124 [l0, l1] (zR (G.2.2.2 r 3) :: st) G h k) := E_getR (by rfl) rfl
theorem e210_124 : zE 210 d Q 124 [l0, l1] (zR (some r) :: st) G h k ↔ (G.2.1 r = 8 ∧ zE 210 d Q 127 [l0, l1] (zI (h r 3) :: st) G h k) := E_getI (by rfl) (by decide)
theorem e210_127 : zE 210 d Q 127 [l0, l1] [zI x] G h k ↔ Q (some (zI x)) G h := E_iret (by rfl) rfl
theorem e210_128 : zE 210 d Q 128 [some (.inr (.inr w9)), l1] st G h k ↔ zE 210 d Q 129 [some (.inr (.inr w9)), l1] (.inr (.inr w9) :: st) G h k := E_aload_n (by rfl) rfl
theorem e210_129 : zE 210 d Q 129 [l0, l1] (zR (some r) :: st) G h k ↔ (G.2.1 r = 9 ∧ zE 210 d Q 132 [l0, l1] (zI (h r 31) :: st) G h k) := E_getI (by rfl) (by decide)
theorem e210_132 : zE 210 d Q 132 [l0, l1] [zI x] G h k ↔ Q (some (zI x)) G h := E_iret (by rfl) rfl
theorem e210_133 : zE 210 d Q 133 [some (.inr (.inr w9)), l1] st G h k ↔ zE 210 d Q 134 [some (.inr (.inr w9)), l1] (.inr (.inr w9) :: st) G h k := E_aload_n (by rfl) rfl
theorem e210_134 : zE 210 d Q 134 [l0, l1] (zR (some r) :: st) G h k ↔ (G.2.1 r = 9 ∧ zE 210 d Q 137 [l0, l1] (zI (h r 30) :: st) G h k) := E_getI (by rfl) (by decide)
theorem e210_137 : zE 210 d Q 137 [l0, l1] [zI x] G h k ↔ Q (some (zI x)) G h := E_iret (by rfl) rfl
theorem e210_138 : zE 210 d Q 138 [some (.inr (.inr w9)), l1] st G h k ↔ zE 210 d Q 139 [some (.inr (.inr w9)), l1] (.inr (.inr w9) :: st) G h k := E_aload_n (by rfl) rfl
theorem e210_139 : zE 210 d Q 139 [l0, l1] (zR (some r) :: st) G h k ↔ (G.2.1 r = 9 ∧ zE 210 d Q 142 [l0, l1] (zR (G.2.2.2 r 3) :: st) G h k) := E_getR (by rfl) rfl
theorem e210_142 : zE 210 d Q 142 [l0, l1] (zR (some r) :: st) G h k ↔ (G.2.1 r = 8 ∧ zE 210 d Q 145 [l0, l1] (zI (h r 5) :: st) G h k) := E_getI (by rfl) (by decide)
theorem e210_145 : zE 210 d Q 145 [l0, l1] (zI x :: st) G h k ↔ ((x = 0 → zE 210 d Q 166 [l0, l1] st G h k) ∧ (¬ (x = 0) → zE 210 d Q 148 [l0, l1] st G h k)) := E_if_eq (by rfl)
theorem e210_148 : zE 210 d Q 148 [some (.inr (.inr w9)), l1] st G h k ↔ zE 210 d Q 149 [some (.inr (.inr w9)), l1] (.inr (.inr w9) :: st) G h k := E_aload_n (by rfl) rfl
theorem e210_149 : zE 210 d Q 149 [l0, l1] (zR (some r) :: st) G h k ↔ (G.2.1 r = 9 ∧ zE 210 d Q 152 [l0, l1] (zR (G.2.2.2 r 3) :: st) G h k) := E_getR (by rfl) rfl
theorem e210_152 : zE 210 d Q 152 [l0, l1] (zR (some r) :: st) G h k ↔ (G.2.1 r = 8 ∧ zE 210 d Q 155 [l0, l1] (zI (h r 2) :: st) G h k) := E_getI (by rfl) (by decide)
theorem e210_155 : zE 210 d Q 155 [some (.inr (.inr w9)), l1] st G h k ↔ zE 210 d Q 156 [some (.inr (.inr w9)), l1] (.inr (.inr w9) :: st) G h k := E_aload_n (by rfl) rfl
theorem e210_156 : zE 210 d Q 156 [l0, l1] (zR (some r) :: st) G h k ↔ (G.2.1 r = 9 ∧ zE 210 d Q 159 [l0, l1] (zR (G.2.2.2 r 3) :: st) G h k) := E_getR (by rfl) rfl
theorem e210_159 : zE 210 d Q 159 [l0, l1] (zR (some r) :: st) G h k ↔ (G.2.1 r = 8 ∧ zE 210 d Q 162 [l0, l1] (zI (h r 2) :: st) G h k) := E_getI (by rfl) (by decide)
theorem e210_162 : zE 210 d Q 162 [l0, l1] (zI y :: zI x :: st) G h k ↔ zE 210 d Q 163 [l0, l1] (zI (wr (x * y)) :: st) G h k := E_imul (by rfl)
theorem e210_163 : zE 210 d Q 163 [l0, l1] st G h k ↔ zE 210 d Q 173 [l0, l1] st G h k := E_goto (by rfl)
theorem e210_166 : zE 210 d Q 166 [some (.inr (.inr w9)), l1] st G h k ↔ zE 210 d Q 167 [some (.inr (.inr w9)), l1] (.inr (.inr w9) :: st) G h k := E_aload_n (by rfl) rfl
theorem e210_167 : zE 210 d Q 167 [l0, l1] (zR (some r) :: st) G h k ↔ (G.2.1 r = 9 ∧ zE 210 d Q 170 [l0, l1] (zR (G.2.2.2 r 3) :: st) G h k) := E_getR (by rfl) rfl
theorem e210_170 : zE 210 d Q 170 [l0, l1] (zR (some r) :: st) G h k ↔ (G.2.1 r = 8 ∧ zE 210 d Q 173 [l0, l1] (zI (h r 2) :: st) G h k) := E_getI (by rfl) (by decide)
theorem e210_173 : zE 210 d Q 173 [l0, l1] [zI x] G h k ↔ Q (some (zI x)) G h := E_iret (by rfl) rfl
theorem e211_0 : zE 211 d Q 0 [some (.inr (.inr w9)), l1, l2] st G h k ↔ zE 211 d Q 1 [some (.inr (.inr w9)), l1, l2] (.inr (.inr w9) :: st) G h k := E_aload_n (by rfl) rfl
theorem e211_1 : zE 211 d Q 1 [l0, l1, l2] st G h k ↔ zE 211 d Q 2 [l0, l1, l2] (zI 0 :: st) G h k := E_iconst (by rfl)
theorem e211_2 : zE 211 d Q 2 [l0, l1, l2] (zI x :: zR (some r) :: st) G h k ↔ (G.2.1 r = 9 ∧ zE 211 d Q 5 [l0, l1, l2] st G (zu h r 0 x) k) := E_putI (by rfl) rfl
theorem e211_5 : zE 211 d Q 5 [some (.inr (.inr w9)), l1, l2] st G h k ↔ zE 211 d Q 6 [some (.inr (.inr w9)), l1, l2] (.inr (.inr w9) :: st) G h k := E_aload_n (by rfl) rfl
theorem e211_6 : zE 211 d Q 6 [l0, some (zI x), l2] st G h k ↔ zE 211 d Q 7 [l0, some (zI x), l2] (zI x :: st) G h k := E_iload_n (by rfl) rfl
theorem e211_7 : zE 211 d Q 7 [l0, l1, l2] (v0 :: zR (some r) :: st) G h k ↔ (zsum st ≤ 8 ∧ G.2.1 r = 9 ∧ zRunD ztb zmt' d 154 [zR (some r), v0] G h (fun v G' h' => zE 211 d Q 10 [l0, l1, l2] (v.toList ++ st) G' h' k)) := E_invV2z (by rfl) (by decide) rfl
theorem e211_10 : zE 211 d Q 10 [l0, l1, l2] (zI x :: st) G h k ↔ ((x = 0 → zE 211 d Q 22 [l0, l1, l2] st G h k) ∧ (¬ (x = 0) → zE 211 d Q 13 [l0, l1, l2] st G h k)) := E_if_eq (by rfl)
theorem e211_13 : zE 211 d Q 13 [l0, l1, some (zI x)] st G h k ↔ zE 211 d Q 14 [l0, l1, some (zI x)] (zI x :: st) G h k := E_iload_n (by rfl) rfl
theorem e211_14 : zE 211 d Q 14 [l0, l1, l2] st G h k ↔ zE 211 d Q 15 [l0, l1, l2] (zI 0 :: st) G h k := E_iconst (by rfl)
theorem e211_15 : zE 211 d Q 15 [l0, l1, l2] st G h k ↔ zE 211 d Q 16 [l0, l1, l2] (zI 4 :: st) G h k := E_iconst (by rfl)
theorem e211_16 : zE 211 d Q 16 [l0, l1, l2] (v2 :: v1 :: v0 :: st) G h k ↔ (zsum st ≤ 8 ∧ zRunD ztb zmt' d 120 [v0, v1, v2] G h (fun v G' h' => zE 211 d Q 19 [l0, l1, l2] (v.toList ++ st) G' h' k)) := E_invS2z (by rfl) (by decide) rfl
theorem e211_19 : zE 211 d Q 19 [l0, l1, l2] (zI x :: st) G h k ↔ ((¬ x = 0 → zE 211 d Q 24 [l0, l1, l2] st G h k) ∧ (¬ (¬ x = 0) → zE 211 d Q 22 [l0, l1, l2] st G h k)) := E_if_ne (by rfl)
theorem e211_22 : zE 211 d Q 22 [l0, l1, l2] st G h k ↔ zE 211 d Q 23 [l0, l1, l2] (zI (-1) :: st) G h k := E_iconst (by rfl)
theorem e211_23 : zE 211 d Q 23 [l0, l1, l2] [zI x] G h k ↔ Q (some (zI x)) G h := E_iret (by rfl) rfl
theorem e211_24 : zE 211 d Q 24 [l0, l1, some (zI x)] st G h k ↔ zE 211 d Q 25 [l0, l1, some (zI x)] (zI x :: st) G h k := E_iload_n (by rfl) rfl
theorem e211_25 : zE 211 d Q 25 [l0, l1, l2] (zI x :: st) G h k ↔ zE 211 d Q (ztsw 25 68 0 3 #[31, 41, 51, 61] x) [l0, l1, l2] st G h k := E_tableswitch (by rfl)
theorem e211_56 : zE 211 d Q 56 [some (.inr (.inr w9)), l1, l2] st G h k ↔ zE 211 d Q 57 [some (.inr (.inr w9)), l1, l2] (.inr (.inr w9) :: st) G h k := E_aload_n (by rfl) rfl
theorem e211_57 : zE 211 d Q 57 [l0, l1, l2] (zR (some r) :: st) G h k ↔ (G.2.1 r = 9 ∧ zE 211 d Q 60 [l0, l1, l2] (zR (G.2.2.2 r 3) :: st) G h k) := E_getR (by rfl) rfl
theorem e211_60 : zE 211 d Q 60 [l0, l1, l2] (zR (some r) :: st) G h k ↔ (G.2.1 r = 8 ∧ zE 211 d Q 63 [l0, l1, l2] (zR (G.2.2.2 r 6) :: st) G h k) := E_getR (by rfl) rfl
theorem e211_63 : zE 211 d Q 63 [l0, some (zI x), l2] st G h k ↔ zE 211 d Q 64 [l0, some (zI x), l2] (zI x :: st) G h k := E_iload_n (by rfl) rfl
theorem e211_64 : zE 211 d Q 64 [l0, l1, l2] (zI i :: zR (some r) :: st) G h k ↔ (G.2.1 r = 10 ∧ (0 ≤ i ∧ i < G.2.2.1 r) ∧ zE 211 d Q 65 [l0, l1, l2] (zI (h r i.toNat) :: st) G h k) := E_iaload (by rfl)
theorem e211_65 : zE 211 d Q 65 [l0, l1, l2] [zI x] G h k ↔ Q (some (zI x)) G h := E_iret (by rfl) rfl
theorem e211_66 : zE 211 d Q 66 [some (.inr (.inr w9)), l1, l2] st G h k ↔ zE 211 d Q 67 [some (.inr (.inr w9)), l1, l2] (.inr (.inr w9) :: st) G h k := E_aload_n (by rfl) rfl
theorem e211_67 : zE 211 d Q 67 [l0, l1, l2] (zR (some r) :: st) G h k ↔ (G.2.1 r = 9 ∧ zE 211 d Q 70 [l0, l1, l2] (zR (G.2.2.2 r 3) :: st) G h k) := E_getR (by rfl) rfl
theorem e211_70 : zE 211 d Q 70 [l0, l1, l2] (zR (some r) :: st) G h k ↔ (G.2.1 r = 8 ∧ zE 211 d Q 73 [l0, l1, l2] (zR (G.2.2.2 r 7) :: st) G h k) := E_getR (by rfl) rfl
theorem e211_73 : zE 211 d Q 73 [l0, some (zI x), l2] st G h k ↔ zE 211 d Q 74 [l0, some (zI x), l2] (zI x :: st) G h k := E_iload_n (by rfl) rfl
theorem e211_74 : zE 211 d Q 74 [l0, l1, l2] (zI i :: zR (some r) :: st) G h k ↔ (G.2.1 r = 10 ∧ (0 ≤ i ∧ i < G.2.2.1 r) ∧ zE 211 d Q 75 [l0, l1, l2] (zI (h r i.toNat) :: st) G h k) := E_iaload (by rfl)
theorem e211_75 : zE 211 d Q 75 [l0, l1, l2] [zI x] G h k ↔ Q (some (zI x)) G h := E_iret (by rfl) rfl
theorem e211_76 : zE 211 d Q 76 [some (.inr (.inr w9)), l1, l2] st G h k ↔ zE 211 d Q 77 [some (.inr (.inr w9)), l1, l2] (.inr (.inr w9) :: st) G h k := E_aload_n (by rfl) rfl
theorem e211_77 : zE 211 d Q 77 [l0, l1, l2] (zR (some r) :: st) G h k ↔ (G.2.1 r = 9 ∧ zE 211 d Q 80 [l0, l1, l2] (zR (G.2.2.2 r 3) :: st) G h k) := E_getR (by rfl) rfl
theorem e211_80 : zE 211 d Q 80 [l0, l1, l2] (zR (some r) :: st) G h k ↔ (G.2.1 r = 8 ∧ zE 211 d Q 83 [l0, l1, l2] (zR (G.2.2.2 r 8) :: st) G h k) := E_getR (by rfl) rfl
theorem e211_83 : zE 211 d Q 83 [l0, some (zI x), l2] st G h k ↔ zE 211 d Q 84 [l0, some (zI x), l2] (zI x :: st) G h k := E_iload_n (by rfl) rfl
theorem e211_84 : zE 211 d Q 84 [l0, l1, l2] (zI i :: zR (some r) :: st) G h k ↔ (G.2.1 r = 10 ∧ (0 ≤ i ∧ i < G.2.2.1 r) ∧ zE 211 d Q 85 [l0, l1, l2] (zI (h r i.toNat) :: st) G h k) := E_iaload (by rfl)
theorem e211_85 : zE 211 d Q 85 [l0, l1, l2] [zI x] G h k ↔ Q (some (zI x)) G h := E_iret (by rfl) rfl
theorem e211_86 : zE 211 d Q 86 [some (.inr (.inr w9)), l1, l2] st G h k ↔ zE 211 d Q 87 [some (.inr (.inr w9)), l1, l2] (.inr (.inr w9) :: st) G h k := E_aload_n (by rfl) rfl
theorem e211_87 : zE 211 d Q 87 [l0, l1, l2] (zR (some r) :: st) G h k ↔ (G.2.1 r = 9 ∧ zE 211 d Q 90 [l0, l1, l2] (zR (G.2.2.2 r 33) :: st) G h k) := E_getR (by rfl) rfl
theorem e211_90 : zE 211 d Q 90 [l0, some (zI x), l2] st G h k ↔ zE 211 d Q 91 [l0, some (zI x), l2] (zI x :: st) G h k := E_iload_n (by rfl) rfl
theorem e211_91 : zE 211 d Q 91 [l0, l1, l2] (zI i :: zR (some r) :: st) G h k ↔ (G.2.1 r = 10 ∧ (0 ≤ i ∧ i < G.2.2.1 r) ∧ zE 211 d Q 92 [l0, l1, l2] (zI (h r i.toNat) :: st) G h k) := E_iaload (by rfl)
theorem e211_92 : zE 211 d Q 92 [l0, l1, l2] [zI x] G h k ↔ Q (some (zI x)) G h := E_iret (by rfl) rfl
theorem e211_93 : zE 211 d Q 93 [some (.inr (.inr w9)), l1, l2] st G h k ↔ zE 211 d Q 94 [some (.inr (.inr w9)), l1, l2] (.inr (.inr w9) :: st) G h k := E_aload_n (by rfl) rfl
theorem e211_94 : zE 211 d Q 94 [l0, l1, l2] (zR (some r) :: st) G h k ↔ (G.2.1 r = 9 ∧ zE 211 d Q 97 [l0, l1, l2] (zR (G.2.2.2 r 34) :: st) G h k) := E_getR (by rfl) rfl
theorem e211_97 : zE 211 d Q 97 [l0, some (zI x), l2] st G h k ↔ zE 211 d Q 98 [l0, some (zI x), l2] (zI x :: st) G h k := E_iload_n (by rfl) rfl
theorem e211_98 : zE 211 d Q 98 [l0, l1, l2] (zI i :: zR (some r) :: st) G h k ↔ (G.2.1 r = 10 ∧ (0 ≤ i ∧ i < G.2.2.1 r) ∧ zE 211 d Q 99 [l0, l1, l2] (zI (h r i.toNat) :: st) G h k) := E_iaload (by rfl)
theorem e211_99 : zE 211 d Q 99 [l0, l1, l2] [zI x] G h k ↔ Q (some (zI x)) G h := E_iret (by rfl) rfl
theorem e212_0 : zE 212 d Q 0 [some (.inr (.inr w9)), l1, l2] st G h k ↔ zE 212 d Q 1 [some (.inr (.inr w9)), l1, l2] (.inr (.inr w9) :: st) G h k := E_aload_n (by rfl) rfl
theorem e212_1 : zE 212 d Q 1 [l0, l1, l2] st G h k ↔ zE 212 d Q 2 [l0, l1, l2] (zI 0 :: st) G h k := E_iconst (by rfl)
theorem e212_2 : zE 212 d Q 2 [l0, l1, l2] (zI x :: zR (some r) :: st) G h k ↔ (G.2.1 r = 9 ∧ zE 212 d Q 5 [l0, l1, l2] st G (zu h r 0 x) k) := E_putI (by rfl) rfl
theorem e212_5 : zE 212 d Q 5 [some (.inr (.inr w9)), l1, l2] st G h k ↔ zE 212 d Q 6 [some (.inr (.inr w9)), l1, l2] (.inr (.inr w9) :: st) G h k := E_aload_n (by rfl) rfl
theorem e212_6 : zE 212 d Q 6 [l0, some (zI x), l2] st G h k ↔ zE 212 d Q 7 [l0, some (zI x), l2] (zI x :: st) G h k := E_iload_n (by rfl) rfl
theorem e212_7 : zE 212 d Q 7 [l0, l1, l2] (v0 :: zR (some r) :: st) G h k ↔ (zsum st ≤ 8 ∧ G.2.1 r = 9 ∧ zRunD ztb zmt' d 155 [zR (some r), v0] G h (fun v G' h' => zE 212 d Q 10 [l0, l1, l2] (v.toList ++ st) G' h' k)) := E_invV2z (by rfl) (by decide) rfl
theorem e212_10 : zE 212 d Q 10 [l0, l1, l2] (zI x :: st) G h k ↔ ((x = 0 → zE 212 d Q 22 [l0, l1, l2] st G h k) ∧ (¬ (x = 0) → zE 212 d Q 13 [l0, l1, l2] st G h k)) := E_if_eq (by rfl)
theorem e212_13 : zE 212 d Q 13 [l0, l1, some (zI x)] st G h k ↔ zE 212 d Q 14 [l0, l1, some (zI x)] (zI x :: st) G h k := E_iload_n (by rfl) rfl
theorem e212_14 : zE 212 d Q 14 [l0, l1, l2] st G h k ↔ zE 212 d Q 15 [l0, l1, l2] (zI 0 :: st) G h k := E_iconst (by rfl)
theorem e212_15 : zE 212 d Q 15 [l0, l1, l2] st G h k ↔ zE 212 d Q 16 [l0, l1, l2] (zI 4 :: st) G h k := E_iconst (by rfl)
theorem e212_16 : zE 212 d Q 16 [l0, l1, l2] (v2 :: v1 :: v0 :: st) G h k ↔ (zsum st ≤ 8 ∧ zRunD ztb zmt' d 120 [v0, v1, v2] G h (fun v G' h' => zE 212 d Q 19 [l0, l1, l2] (v.toList ++ st) G' h' k)) := E_invS2z (by rfl) (by decide) rfl
theorem e212_19 : zE 212 d Q 19 [l0, l1, l2] (zI x :: st) G h k ↔ ((¬ x = 0 → zE 212 d Q 24 [l0, l1, l2] st G h k) ∧ (¬ (¬ x = 0) → zE 212 d Q 22 [l0, l1, l2] st G h k)) := E_if_ne (by rfl)
theorem e212_22 : zE 212 d Q 22 [l0, l1, l2] st G h k ↔ zE 212 d Q 23 [l0, l1, l2] (zI (-1) :: st) G h k := E_iconst (by rfl)
theorem e212_23 : zE 212 d Q 23 [l0, l1, l2] [zI x] G h k ↔ Q (some (zI x)) G h := E_iret (by rfl) rfl
theorem e212_24 : zE 212 d Q 24 [l0, l1, some (zI x)] st G h k ↔ zE 212 d Q 25 [l0, l1, some (zI x)] (zI x :: st) G h k := E_iload_n (by rfl) rfl
theorem e212_25 : zE 212 d Q 25 [l0, l1, l2] (zI x :: st) G h k ↔ zE 212 d Q (ztsw 25 71 0 3 #[31, 41, 51, 61] x) [l0, l1, l2] st G h k := E_tableswitch (by rfl)
theorem e212_56 : zE 212 d Q 56 [some (.inr (.inr w9)), l1, l2] st G h k ↔ zE 212 d Q 57 [some (.inr (.inr w9)), l1, l2] (.inr (.inr w9) :: st) G h k := E_aload_n (by rfl) rfl
theorem e212_57 : zE 212 d Q 57 [l0, l1, l2] (zR (some r) :: st) G h k ↔ (G.2.1 r = 9 ∧ zE 212 d Q 60 [l0, l1, l2] (zR (G.2.2.2 r 3) :: st) G h k) := E_getR (by rfl) rfl
theorem e212_60 : zE 212 d Q 60 [l0, l1, l2] (zR (some r) :: st) G h k ↔ (G.2.1 r = 8 ∧ zE 212 d Q 63 [l0, l1, l2] (zR (G.2.2.2 r 10) :: st) G h k) := E_getR (by rfl) rfl
theorem e212_63 : zE 212 d Q 63 [l0, some (zI x), l2] st G h k ↔ zE 212 d Q 64 [l0, some (zI x), l2] (zI x :: st) G h k := E_iload_n (by rfl) rfl
theorem e212_64 : zE 212 d Q 64 [l0, l1, l2] (zI i :: zR (some r) :: st) G h k ↔ (G.2.1 r = 10 ∧ (0 ≤ i ∧ i < G.2.2.1 r) ∧ zE 212 d Q 65 [l0, l1, l2] (zI (h r i.toNat) :: st) G h k) := E_iaload (by rfl)
theorem e212_65 : zE 212 d Q 65 [l0, l1, l2] [zI x] G h k ↔ Q (some (zI x)) G h := E_iret (by rfl) rfl
theorem e212_66 : zE 212 d Q 66 [some (.inr (.inr w9)), l1, l2] st G h k ↔ zE 212 d Q 67 [some (.inr (.inr w9)), l1, l2] (.inr (.inr w9) :: st) G h k := E_aload_n (by rfl) rfl
theorem e212_67 : zE 212 d Q 67 [l0, l1, l2] (zR (some r) :: st) G h k ↔ (G.2.1 r = 9 ∧ zE 212 d Q 70 [l0, l1, l2] (zR (G.2.2.2 r 3) :: st) G h k) := E_getR (by rfl) rfl
theorem e212_70 : zE 212 d Q 70 [l0, l1, l2] (zR (some r) :: st) G h k ↔ (G.2.1 r = 8 ∧ zE 212 d Q 73 [l0, l1, l2] (zR (G.2.2.2 r 11) :: st) G h k) := E_getR (by rfl) rfl
theorem e212_73 : zE 212 d Q 73 [l0, some (zI x), l2] st G h k ↔ zE 212 d Q 74 [l0, some (zI x), l2] (zI x :: st) G h k := E_iload_n (by rfl) rfl
theorem e212_74 : zE 212 d Q 74 [l0, l1, l2] (zI i :: zR (some r) :: st) G h k ↔ (G.2.1 r = 10 ∧ (0 ≤ i ∧ i < G.2.2.1 r) ∧ zE 212 d Q 75 [l0, l1, l2] (zI (h r i.toNat) :: st) G h k) := E_iaload (by rfl)
theorem e212_75 : zE 212 d Q 75 [l0, l1, l2] [zI x] G h k ↔ Q (some (zI x)) G h := E_iret (by rfl) rfl
theorem e212_76 : zE 212 d Q 76 [some (.inr (.inr w9)), l1, l2] st G h k ↔ zE 212 d Q 77 [some (.inr (.inr w9)), l1, l2] (.inr (.inr w9) :: st) G h k := E_aload_n (by rfl) rfl
theorem e212_77 : zE 212 d Q 77 [l0, l1, l2] (zR (some r) :: st) G h k ↔ (G.2.1 r = 9 ∧ zE 212 d Q 80 [l0, l1, l2] (zR (G.2.2.2 r 3) :: st) G h k) := E_getR (by rfl) rfl
theorem e212_80 : zE 212 d Q 80 [l0, l1, l2] (zR (some r) :: st) G h k ↔ (G.2.1 r = 8 ∧ zE 212 d Q 83 [l0, l1, l2] (zR (G.2.2.2 r 12) :: st) G h k) := E_getR (by rfl) rfl
theorem e212_83 : zE 212 d Q 83 [l0, some (zI x), l2] st G h k ↔ zE 212 d Q 84 [l0, some (zI x), l2] (zI x :: st) G h k := E_iload_n (by rfl) rfl
theorem e212_84 : zE 212 d Q 84 [l0, l1, l2] (zI i :: zR (some r) :: st) G h k ↔ (G.2.1 r = 10 ∧ (0 ≤ i ∧ i < G.2.2.1 r) ∧ zE 212 d Q 85 [l0, l1, l2] (zI (h r i.toNat) :: st) G h k) := E_iaload (by rfl)
theorem e212_85 : zE 212 d Q 85 [l0, l1, l2] [zI x] G h k ↔ Q (some (zI x)) G h := E_iret (by rfl) rfl
theorem e212_86 : zE 212 d Q 86 [some (.inr (.inr w9)), l1, l2] st G h k ↔ zE 212 d Q 87 [some (.inr (.inr w9)), l1, l2] (.inr (.inr w9) :: st) G h k := E_aload_n (by rfl) rfl
theorem e212_87 : zE 212 d Q 87 [l0, l1, l2] (zR (some r) :: st) G h k ↔ (G.2.1 r = 9 ∧ zE 212 d Q 90 [l0, l1, l2] (zR (G.2.2.2 r 3) :: st) G h k) := E_getR (by rfl) rfl
theorem e212_90 : zE 212 d Q 90 [l0, l1, l2] (zR (some r) :: st) G h k ↔ (G.2.1 r = 8 ∧ zE 212 d Q 93 [l0, l1, l2] (zR (G.2.2.2 r 13) :: st) G h k) := E_getR (by rfl) rfl
theorem e212_93 : zE 212 d Q 93 [l0, some (zI x), l2] st G h k ↔ zE 212 d Q 94 [l0, some (zI x), l2] (zI x :: st) G h k := E_iload_n (by rfl) rfl
theorem e212_94 : zE 212 d Q 94 [l0, l1, l2] (zI i :: zR (some r) :: st) G h k ↔ (G.2.1 r = 10 ∧ (0 ≤ i ∧ i < G.2.2.1 r) ∧ zE 212 d Q 95 [l0, l1, l2] (zI (h r i.toNat) :: st) G h k) := E_iaload (by rfl)
theorem e212_95 : zE 212 d Q 95 [l0, l1, l2] [zI x] G h k ↔ Q (some (zI x)) G h := E_iret (by rfl) rfl
theorem e212_96 : zE 212 d Q 96 [some (.inr (.inr w9)), l1, l2] st G h k ↔ zE 212 d Q 97 [some (.inr (.inr w9)), l1, l2] (.inr (.inr w9) :: st) G h k := E_aload_n (by rfl) rfl
theorem e212_97 : zE 212 d Q 97 [l0, l1, l2] (zR (some r) :: st) G h k ↔ (G.2.1 r = 9 ∧ zE 212 d Q 100 [l0, l1, l2] (zR (G.2.2.2 r 3) :: st) G h k) := E_getR (by rfl) rfl
theorem e212_100 : zE 212 d Q 100 [l0, l1, l2] (zR (some r) :: st) G h k ↔ (G.2.1 r = 8 ∧ zE 212 d Q 103 [l0, l1, l2] (zR (G.2.2.2 r 14) :: st) G h k) := E_getR (by rfl) rfl
theorem e212_103 : zE 212 d Q 103 [l0, some (zI x), l2] st G h k ↔ zE 212 d Q 104 [l0, some (zI x), l2] (zI x :: st) G h k := E_iload_n (by rfl) rfl
theorem e212_104 : zE 212 d Q 104 [l0, l1, l2] (zI i :: zR (some r) :: st) G h k ↔ (G.2.1 r = 13 ∧ (0 ≤ i ∧ i < G.2.2.1 r) ∧ zE 212 d Q 105 [l0, l1, l2] (zI (h r i.toNat) :: st) G h k) := E_baload (by rfl) (by decide)
theorem e212_105 : zE 212 d Q 105 [l0, l1, l2] (zI x :: st) G h k ↔ ((x = 0 → zE 212 d Q 112 [l0, l1, l2] st G h k) ∧ (¬ (x = 0) → zE 212 d Q 108 [l0, l1, l2] st G h k)) := E_if_eq (by rfl)
theorem e212_108 : zE 212 d Q 108 [l0, l1, l2] st G h k ↔ zE 212 d Q 109 [l0, l1, l2] (zI 1 :: st) G h k := E_iconst (by rfl)
theorem e212_109 : zE 212 d Q 109 [l0, l1, l2] st G h k ↔ zE 212 d Q 113 [l0, l1, l2] st G h k := E_goto (by rfl)
theorem e212_112 : zE 212 d Q 112 [l0, l1, l2] st G h k ↔ zE 212 d Q 113 [l0, l1, l2] (zI 0 :: st) G h k := E_iconst (by rfl)
theorem e212_113 : zE 212 d Q 113 [l0, l1, l2] [zI x] G h k ↔ Q (some (zI x)) G h := E_iret (by rfl) rfl
theorem e213_0 : zE 213 d Q 0 [some (.inr (.inr w9))] st G h k ↔ zE 213 d Q 1 [some (.inr (.inr w9))] (.inr (.inr w9) :: st) G h k := E_aload_n (by rfl) rfl
theorem e213_1 : zE 213 d Q 1 [l0] st G h k ↔ zE 213 d Q 2 [l0] (zI 0 :: st) G h k := E_iconst (by rfl)
theorem e213_2 : zE 213 d Q 2 [l0] (zI x :: zR (some r) :: st) G h k ↔ (G.2.1 r = 9 ∧ zE 213 d Q 5 [l0] st G (zu h r 0 x) k) := E_putI (by rfl) rfl
theorem e213_5 : zE 213 d Q 5 [some (.inr (.inr w9))] st G h k ↔ zE 213 d Q 6 [some (.inr (.inr w9))] (.inr (.inr w9) :: st) G h k := E_aload_n (by rfl) rfl
theorem e213_6 : zE 213 d Q 6 [l0] (zR (some r) :: st) G h k ↔ (G.2.1 r = 9 ∧ zE 213 d Q 9 [l0] (zI (h r 1) :: st) G h k) := E_getI (by rfl) (by decide)
theorem e213_9 : zE 213 d Q 9 [l0] [zI x] G h k ↔ Q (some (zI x)) G h := E_iret (by rfl) rfl
theorem e214_0 : zE 214 d Q 0 [some (zL x), l1, l2, l3, l4, l5] st G h k ↔ zE 214 d Q 1 [some (zL x), l1, l2, l3, l4, l5] (zL x :: st) G h k := E_lload_n (by rfl) rfl
theorem e214_1 : zE 214 d Q 1 [l0, l1, some (zL x), l3, l4, l5] st G h k ↔ zE 214 d Q 2 [l0, l1, some (zL x), l3, l4, l5] (zL x :: st) G h k := E_lload_n (by rfl) rfl
theorem e214_2 : zE 214 d Q 2 [l0, l1, l2, l3, l4, l5] (zL y :: zL x :: st) G h k ↔ (y ≠ 0 ∧ zE 214 d Q 3 [l0, l1, l2, l3, l4, l5] (zL (wl (x.tdiv y)) :: st) G h k) := E_ldiv (by rfl)
theorem e214_3 : zE 214 d Q 3 [l0, l1, l2, l3, l4, l5] (zL x :: st) G h k ↔ zE 214 d Q 5 [l0, l1, l2, (zclr l3), some (zL x), none] st G h k := E_lstore (by rfl) (by decide)
theorem e214_5 : zE 214 d Q 5 [some (zL x), l1, l2, l3, l4, l5] st G h k ↔ zE 214 d Q 6 [some (zL x), l1, l2, l3, l4, l5] (zL x :: st) G h k := E_lload_n (by rfl) rfl
theorem e214_6 : zE 214 d Q 6 [l0, l1, some (zL x), l3, l4, l5] st G h k ↔ zE 214 d Q 7 [l0, l1, some (zL x), l3, l4, l5] (zL x :: st) G h k := E_lload_n (by rfl) rfl
theorem e214_7 : zE 214 d Q 7 [l0, l1, l2, l3, l4, l5] (zL y :: zL x :: st) G h k ↔ zE 214 d Q 8 [l0, l1, l2, l3, l4, l5] (zL (zxl x y) :: st) G h k := E_lxor (by rfl)
theorem e214_8 : zE 214 d Q 8 [l0, l1, l2, l3, l4, l5] st G h k ↔ zE 214 d Q 9 [l0, l1, l2, l3, l4, l5] (zL 0 :: st) G h k := E_lconst (by rfl)
theorem e214_9 : zE 214 d Q 9 [l0, l1, l2, l3, l4, l5] (zL y :: zL x :: st) G h k ↔ zE 214 d Q 10 [l0, l1, l2, l3, l4, l5] (zI (zlc x y) :: st) G h k := E_lcmp (by rfl)
theorem e214_10 : zE 214 d Q 10 [l0, l1, l2, l3, l4, l5] (zI x :: st) G h k ↔ ((0 ≤ x → zE 214 d Q 27 [l0, l1, l2, l3, l4, l5] st G h k) ∧ (¬ (0 ≤ x) → zE 214 d Q 13 [l0, l1, l2, l3, l4, l5] st G h k)) := E_if_ge (by rfl)
theorem e214_13 : zE 214 d Q 13 [l0, l1, l2, l3, some (zL x), l5] st G h k ↔ zE 214 d Q 15 [l0, l1, l2, l3, some (zL x), l5] (zL x :: st) G h k := E_lload (by rfl) rfl
theorem e214_15 : zE 214 d Q 15 [l0, l1, some (zL x), l3, l4, l5] st G h k ↔ zE 214 d Q 16 [l0, l1, some (zL x), l3, l4, l5] (zL x :: st) G h k := E_lload_n (by rfl) rfl
theorem e214_16 : zE 214 d Q 16 [l0, l1, l2, l3, l4, l5] (zL y :: zL x :: st) G h k ↔ zE 214 d Q 17 [l0, l1, l2, l3, l4, l5] (zL (wl (x * y)) :: st) G h k := E_lmul (by rfl)
theorem e214_17 : zE 214 d Q 17 [some (zL x), l1, l2, l3, l4, l5] st G h k ↔ zE 214 d Q 18 [some (zL x), l1, l2, l3, l4, l5] (zL x :: st) G h k := E_lload_n (by rfl) rfl
theorem e214_18 : zE 214 d Q 18 [l0, l1, l2, l3, l4, l5] (zL y :: zL x :: st) G h k ↔ zE 214 d Q 19 [l0, l1, l2, l3, l4, l5] (zI (zlc x y) :: st) G h k := E_lcmp (by rfl)
theorem e214_19 : zE 214 d Q 19 [l0, l1, l2, l3, l4, l5] (zI x :: st) G h k ↔ ((x = 0 → zE 214 d Q 27 [l0, l1, l2, l3, l4, l5] st G h k) ∧ (¬ (x = 0) → zE 214 d Q 22 [l0, l1, l2, l3, l4, l5] st G h k)) := E_if_eq (by rfl)
theorem e214_22 : zE 214 d Q 22 [l0, l1, l2, l3, some (zL x), l5] st G h k ↔ zE 214 d Q 24 [l0, l1, l2, l3, some (zL x), l5] (zL x :: st) G h k := E_lload (by rfl) rfl
theorem e214_24 : zE 214 d Q 24 [l0, l1, l2, l3, l4, l5] st G h k ↔ zE 214 d Q 25 [l0, l1, l2, l3, l4, l5] (zL 1 :: st) G h k := E_lconst (by rfl)
theorem e214_25 : zE 214 d Q 25 [l0, l1, l2, l3, l4, l5] (zL y :: zL x :: st) G h k ↔ zE 214 d Q 26 [l0, l1, l2, l3, l4, l5] (zL (wl (x - y)) :: st) G h k := E_lsub (by rfl)
theorem e214_26 : zE 214 d Q 26 [l0, l1, l2, l3, l4, l5] [zL x] G h k ↔ Q (some (zL x)) G h := E_lret (by rfl) rfl
theorem e214_27 : zE 214 d Q 27 [l0, l1, l2, l3, some (zL x), l5] st G h k ↔ zE 214 d Q 29 [l0, l1, l2, l3, some (zL x), l5] (zL x :: st) G h k := E_lload (by rfl) rfl
theorem e214_29 : zE 214 d Q 29 [l0, l1, l2, l3, l4, l5] [zL x] G h k ↔ Q (some (zL x)) G h := E_lret (by rfl) rfl
theorem e215_0 : zE 215 d Q 0 [some (zI x), l1] st G h k ↔ zE 215 d Q 1 [some (zI x), l1] (zI x :: st) G h k := E_iload_n (by rfl) rfl
theorem e215_1 : zE 215 d Q 1 [l0, some (zI x)] st G h k ↔ zE 215 d Q 2 [l0, some (zI x)] (zI x :: st) G h k := E_iload_n (by rfl) rfl
theorem e215_2 : zE 215 d Q 2 [l0, l1] (zI y :: zI x :: st) G h k ↔ ((x < y → zE 215 d Q 9 [l0, l1] st G h k) ∧ (¬ (x < y) → zE 215 d Q 5 [l0, l1] st G h k)) := E_icmp_lt (by rfl)
theorem e215_5 : zE 215 d Q 5 [some (zI x), l1] st G h k ↔ zE 215 d Q 6 [some (zI x), l1] (zI x :: st) G h k := E_iload_n (by rfl) rfl
theorem e215_6 : zE 215 d Q 6 [l0, l1] st G h k ↔ zE 215 d Q 10 [l0, l1] st G h k := E_goto (by rfl)
theorem e215_9 : zE 215 d Q 9 [l0, some (zI x)] st G h k ↔ zE 215 d Q 10 [l0, some (zI x)] (zI x :: st) G h k := E_iload_n (by rfl) rfl
theorem e215_10 : zE 215 d Q 10 [l0, l1] [zI x] G h k ↔ Q (some (zI x)) G h := E_iret (by rfl) rfl
theorem e216_0 : zE 216 d Q 0 [some (zL x), l1, l2, l3] st G h k ↔ zE 216 d Q 1 [some (zL x), l1, l2, l3] (zL x :: st) G h k := E_lload_n (by rfl) rfl
theorem e216_1 : zE 216 d Q 1 [l0, l1, some (zL x), l3] st G h k ↔ zE 216 d Q 2 [l0, l1, some (zL x), l3] (zL x :: st) G h k := E_lload_n (by rfl) rfl
theorem e216_2 : zE 216 d Q 2 [l0, l1, l2, l3] (zL y :: zL x :: st) G h k ↔ zE 216 d Q 3 [l0, l1, l2, l3] (zI (zlc x y) :: st) G h k := E_lcmp (by rfl)
theorem e216_3 : zE 216 d Q 3 [l0, l1, l2, l3] (zI x :: st) G h k ↔ ((x < 0 → zE 216 d Q 10 [l0, l1, l2, l3] st G h k) ∧ (¬ (x < 0) → zE 216 d Q 6 [l0, l1, l2, l3] st G h k)) := E_if_lt (by rfl)
theorem e216_6 : zE 216 d Q 6 [some (zL x), l1, l2, l3] st G h k ↔ zE 216 d Q 7 [some (zL x), l1, l2, l3] (zL x :: st) G h k := E_lload_n (by rfl) rfl
theorem e216_7 : zE 216 d Q 7 [l0, l1, l2, l3] st G h k ↔ zE 216 d Q 11 [l0, l1, l2, l3] st G h k := E_goto (by rfl)
theorem e216_10 : zE 216 d Q 10 [l0, l1, some (zL x), l3] st G h k ↔ zE 216 d Q 11 [l0, l1, some (zL x), l3] (zL x :: st) G h k := E_lload_n (by rfl) rfl
theorem e216_11 : zE 216 d Q 11 [l0, l1, l2, l3] [zL x] G h k ↔ Q (some (zL x)) G h := E_lret (by rfl) rfl
theorem e217_0 : zE 217 d Q 0 [some (zI x), l1] st G h k ↔ zE 217 d Q 1 [some (zI x), l1] (zI x :: st) G h k := E_iload_n (by rfl) rfl
theorem e217_1 : zE 217 d Q 1 [l0, some (zI x)] st G h k ↔ zE 217 d Q 2 [l0, some (zI x)] (zI x :: st) G h k := E_iload_n (by rfl) rfl
theorem e217_2 : zE 217 d Q 2 [l0, l1] (zI y :: zI x :: st) G h k ↔ ((y < x → zE 217 d Q 9 [l0, l1] st G h k) ∧ (¬ (y < x) → zE 217 d Q 5 [l0, l1] st G h k)) := E_icmp_gt (by rfl)
theorem e217_5 : zE 217 d Q 5 [some (zI x), l1] st G h k ↔ zE 217 d Q 6 [some (zI x), l1] (zI x :: st) G h k := E_iload_n (by rfl) rfl
theorem e217_6 : zE 217 d Q 6 [l0, l1] st G h k ↔ zE 217 d Q 10 [l0, l1] st G h k := E_goto (by rfl)
theorem e217_9 : zE 217 d Q 9 [l0, some (zI x)] st G h k ↔ zE 217 d Q 10 [l0, some (zI x)] (zI x :: st) G h k := E_iload_n (by rfl) rfl
theorem e217_10 : zE 217 d Q 10 [l0, l1] [zI x] G h k ↔ Q (some (zI x)) G h := E_iret (by rfl) rfl
theorem e218_0 : zE 218 d Q 0 [l0, l1, l2, l3, l4] st G h k ↔ zE 218 d Q 1 [l0, l1, l2, l3, l4] (zI 0 :: st) G h k := E_iconst (by rfl)
theorem e218_1 : zE 218 d Q 1 [l0, l1, l2, l3, l4] (zI x :: st) G h k ↔ zE 218 d Q 2 [l0, l1, (zclr l2), some (zI x), l4] st G h k := E_istore_n (by rfl) (by decide)
theorem e218_2 : zE 218 d Q 2 [some (.inr (.inr w9)), l1, l2, l3, l4] st G h k ↔ zE 218 d Q 3 [some (.inr (.inr w9)), l1, l2, l3, l4] (.inr (.inr w9) :: st) G h k := E_aload_n (by rfl) rfl
theorem e218_3 : zE 218 d Q 3 [l0, l1, l2, l3, l4] (zR (some r) :: st) G h k ↔ (10 ≤ G.2.1 r ∧ G.2.1 r ≤ 13 ∧ G.2.2.1 r < 2147483648 ∧ zE 218 d Q 4 [l0, l1, l2, l3, l4] (zI (G.2.2.1 r) :: st) G h k) := E_arraylength (by rfl)
theorem e218_4 : zE 218 d Q 4 [l0, l1, l2, l3, l4] (zI x :: st) G h k ↔ zE 218 d Q 6 [l0, l1, l2, (zclr l3), some (zI x)] st G h k := E_istore (by rfl) (by decide)
theorem e218_6 : zE 218 d Q 6 [l0, l1, l2, some (zI x), l4] st G h k ↔ zE 218 d Q 7 [l0, l1, l2, some (zI x), l4] (zI x :: st) G h k := E_iload_n (by rfl) rfl
theorem e218_7 : zE 218 d Q 7 [l0, l1, l2, l3, some (zI x)] st G h k ↔ zE 218 d Q 9 [l0, l1, l2, l3, some (zI x)] (zI x :: st) G h k := E_iload (by rfl) rfl
theorem e218_9 : zE 218 d Q 9 [l0, l1, l2, l3, l4] (zI y :: zI x :: st) G h k ↔ ((y ≤ x → zE 218 d Q 22 [l0, l1, l2, l3, l4] st G h k) ∧ (¬ (y ≤ x) → zE 218 d Q 12 [l0, l1, l2, l3, l4] st G h k)) := E_icmp_ge (by rfl)
theorem e218_12 : zE 218 d Q 12 [some (.inr (.inr w9)), l1, l2, l3, l4] st G h k ↔ zE 218 d Q 13 [some (.inr (.inr w9)), l1, l2, l3, l4] (.inr (.inr w9) :: st) G h k := E_aload_n (by rfl) rfl
theorem e218_13 : zE 218 d Q 13 [l0, l1, l2, some (zI x), l4] st G h k ↔ zE 218 d Q 14 [l0, l1, l2, some (zI x), l4] (zI x :: st) G h k := E_iload_n (by rfl) rfl
theorem e218_14 : zE 218 d Q 14 [l0, some (zL x), l2, l3, l4] st G h k ↔ zE 218 d Q 15 [l0, some (zL x), l2, l3, l4] (zL x :: st) G h k := E_lload_n (by rfl) rfl
theorem e218_15 : zE 218 d Q 15 [l0, l1, l2, l3, l4] (zL x :: zI i :: zR (some r) :: st) G h k ↔ (G.2.1 r = 11 ∧ (0 ≤ i ∧ i < G.2.2.1 r) ∧ zE 218 d Q 16 [l0, l1, l2, l3, l4] st G (zu h r i.toNat x) k) := E_lastore (by rfl)
theorem e218_16 : zE 218 d Q 16 [l0, l1, l2, some (zI x), l4] st G h k ↔ zE 218 d Q 19 [l0, l1, (zclr l2), some (zI (wr (x + 1))), l4] st G h k := E_iinc (by rfl) rfl
theorem e218_19 : zE 218 d Q 19 [l0, l1, l2, l3, l4] st G h k ↔ zE 218 d Q 6 [l0, l1, l2, l3, l4] st G h k := E_goto (by rfl)
theorem e218_22 : zE 218 d Q 22 [l0, l1, l2, l3, l4] [] G h k ↔ Q none G h := E_vret (by rfl) rfl
theorem e219_0 : zE 219 d Q 0 [l0, l1, l2, l3] st G h k ↔ zE 219 d Q 1 [l0, l1, l2, l3] (zI 0 :: st) G h k := E_iconst (by rfl)
theorem e219_1 : zE 219 d Q 1 [l0, l1, l2, l3] (zI x :: st) G h k ↔ zE 219 d Q 2 [l0, (zclr l1), some (zI x), l3] st G h k := E_istore_n (by rfl) (by decide)
theorem e219_2 : zE 219 d Q 2 [some (.inr (.inr w9)), l1, l2, l3] st G h k ↔ zE 219 d Q 3 [some (.inr (.inr w9)), l1, l2, l3] (.inr (.inr w9) :: st) G h k := E_aload_n (by rfl) rfl
theorem e219_3 : zE 219 d Q 3 [l0, l1, l2, l3] (zR (some r) :: st) G h k ↔ (10 ≤ G.2.1 r ∧ G.2.1 r ≤ 13 ∧ G.2.2.1 r < 2147483648 ∧ zE 219 d Q 4 [l0, l1, l2, l3] (zI (G.2.2.1 r) :: st) G h k) := E_arraylength (by rfl)
theorem e219_4 : zE 219 d Q 4 [l0, l1, l2, l3] (zI x :: st) G h k ↔ zE 219 d Q 5 [l0, l1, (zclr l2), some (zI x)] st G h k := E_istore_n (by rfl) (by decide)
theorem e219_5 : zE 219 d Q 5 [l0, l1, some (zI x), l3] st G h k ↔ zE 219 d Q 6 [l0, l1, some (zI x), l3] (zI x :: st) G h k := E_iload_n (by rfl) rfl
theorem e219_6 : zE 219 d Q 6 [l0, l1, l2, some (zI x)] st G h k ↔ zE 219 d Q 7 [l0, l1, l2, some (zI x)] (zI x :: st) G h k := E_iload_n (by rfl) rfl
theorem e219_7 : zE 219 d Q 7 [l0, l1, l2, l3] (zI y :: zI x :: st) G h k ↔ ((y ≤ x → zE 219 d Q 20 [l0, l1, l2, l3] st G h k) ∧ (¬ (y ≤ x) → zE 219 d Q 10 [l0, l1, l2, l3] st G h k)) := E_icmp_ge (by rfl)
theorem e219_10 : zE 219 d Q 10 [some (.inr (.inr w9)), l1, l2, l3] st G h k ↔ zE 219 d Q 11 [some (.inr (.inr w9)), l1, l2, l3] (.inr (.inr w9) :: st) G h k := E_aload_n (by rfl) rfl
theorem e219_11 : zE 219 d Q 11 [l0, l1, some (zI x), l3] st G h k ↔ zE 219 d Q 12 [l0, l1, some (zI x), l3] (zI x :: st) G h k := E_iload_n (by rfl) rfl
theorem e219_12 : zE 219 d Q 12 [l0, some (zI x), l2, l3] st G h k ↔ zE 219 d Q 13 [l0, some (zI x), l2, l3] (zI x :: st) G h k := E_iload_n (by rfl) rfl
theorem e219_13 : zE 219 d Q 13 [l0, l1, l2, l3] (zI x :: zI i :: zR (some r) :: st) G h k ↔ (G.2.1 r = 10 ∧ (0 ≤ i ∧ i < G.2.2.1 r) ∧ zE 219 d Q 14 [l0, l1, l2, l3] st G (zu h r i.toNat x) k) := E_iastore (by rfl)
theorem e219_14 : zE 219 d Q 14 [l0, l1, some (zI x), l3] st G h k ↔ zE 219 d Q 17 [l0, (zclr l1), some (zI (wr (x + 1))), l3] st G h k := E_iinc (by rfl) rfl
theorem e219_17 : zE 219 d Q 17 [l0, l1, l2, l3] st G h k ↔ zE 219 d Q 5 [l0, l1, l2, l3] st G h k := E_goto (by rfl)
theorem e219_20 : zE 219 d Q 20 [l0, l1, l2, l3] [] G h k ↔ Q none G h := E_vret (by rfl) rfl
end SITES
