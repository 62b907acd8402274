section SITES
variable {d : Nat} {Q : zQ} {st : List zV} {G : zG} {h : zM} {k : zK} {x y i : Int} {r r1 r2 q : Nat} {w9 : Option Nat ⊕ Nat} {q9 : Option Nat} {v0 v1 v2 v3 v4 : zV} {l0 l1 l2 l3 l4 l5 l6 l7 l8 l9 l10 l11 l12 l13 l14 l15 : Option zV}
theorem e67_0 : zE 67 d Q 0 [some (.inr (.inr w9)), l1] st G h k ↔ zE 67 d Q 1 [some (.inr (.inr w9)), l1] (.inr (.inr w9) :: st) G h k := E_aload_n (by rfl) rfl
theorem e67_1 : zE 67 d Q 1 [l0, l1] (zR (some r) :: st) G h k ↔ (zsum st ≤ 8 ∧ G.2.1 r = 7 ∧ zRunD ztb zmt' d 97 [zR (some r)] G h (fun v G' h' => zE 67 d Q 4 [l0, l1] (v.toList ++ st) G' h' k)) := E_invV2z (by rfl) (by decide) rfl
theorem e67_4 : zE 67 d Q 4 [l0, l1] (zI x :: st) G h k ↔ ((¬ x = 0 → zE 67 d Q 14 [l0, l1] st G h k) ∧ (¬ (¬ x = 0) → zE 67 d Q 7 [l0, l1] st G h k)) := E_if_ne (by rfl)
theorem e67_7 : zE 67 d Q 7 [some (.inr (.inr w9)), l1] st G h k ↔ zE 67 d Q 8 [some (.inr (.inr w9)), l1] (.inr (.inr w9) :: st) G h k := E_aload_n (by rfl) rfl
theorem e67_8 : zE 67 d Q 8 [l0, l1] st G h k ↔ zE 67 d Q 9 [l0, l1] (zI 1 :: st) G h k := E_iconst (by rfl)
theorem e67_9 : zE 67 d Q 9 [l0, l1] (zI x :: zR (some r) :: st) G h k ↔ (G.2.1 r = 7 ∧ zE 67 d Q 12 [l0, l1] st G (zu h r 11 x) k) := E_putI (by rfl) rfl
theorem e67_12 : zE 67 d Q 12 [l0, l1] st G h k ↔ zE 67 d Q 13 [l0, l1] (zI 0 :: st) G h k := E_iconst (by rfl)
theorem e67_13 : zE 67 d Q 13 [l0, l1] [zI x] G h k ↔ ((x = 0 ∨ x = 1) ∧ Q (some (zI x)) G h) := E_zret (by rfl) rfl
theorem e67_14 : zE 67 d Q 14 [l0, some (zI x)] st G h k ↔ zE 67 d Q 15 [l0, some (zI x)] (zI x :: st) G h k := E_iload_n (by rfl) rfl
theorem e67_15 : zE 67 d Q 15 [l0, l1] (zI x :: st) G h k ↔ ((x < 0 → zE 67 d Q 24 [l0, l1] st G h k) ∧ (¬ (x < 0) → zE 67 d Q 18 [l0, l1] st G h k)) := E_if_lt (by rfl)
theorem e67_18 : zE 67 d Q 18 [l0, some (zI x)] st G h k ↔ zE 67 d Q 19 [l0, some (zI x)] (zI x :: st) G h k := E_iload_n (by rfl) rfl
theorem e67_19 : zE 67 d Q 19 [l0, l1] st G h k ↔ zE 67 d Q 21 [l0, l1] (zI 65537 :: st) G h k := E_ldcI (by rfl) rfl
theorem e67_21 : zE 67 d Q 21 [l0, l1] (zI y :: zI x :: st) G h k ↔ ((x < y → zE 67 d Q 31 [l0, l1] st G h k) ∧ (¬ (x < y) → zE 67 d Q 24 [l0, l1] st G h k)) := E_icmp_lt (by rfl)
theorem e67_24 : zE 67 d Q 24 [some (.inr (.inr w9)), l1] st G h k ↔ zE 67 d Q 25 [some (.inr (.inr w9)), l1] (.inr (.inr w9) :: st) G h k := E_aload_n (by rfl) rfl
theorem e67_25 : zE 67 d Q 25 [l0, l1] st G h k ↔ zE 67 d Q 26 [l0, l1] (zI 2 :: st) G h k := E_iconst (by rfl)
theorem e67_26 : zE 67 d Q 26 [l0, l1] (zI x :: zR (some r) :: st) G h k ↔ (G.2.1 r = 7 ∧ zE 67 d Q 29 [l0, l1] st G (zu h r 11 x) k) := E_putI (by rfl) rfl
theorem e67_29 : zE 67 d Q 29 [l0, l1] st G h k ↔ zE 67 d Q 30 [l0, l1] (zI 0 :: st) G h k := E_iconst (by rfl)
theorem e67_30 : zE 67 d Q 30 [l0, l1] [zI x] G h k ↔ ((x = 0 ∨ x = 1) ∧ Q (some (zI x)) G h) := E_zret (by rfl) rfl
theorem e67_31 : zE 67 d Q 31 [some (.inr (.inr w9)), l1] st G h k ↔ zE 67 d Q 32 [some (.inr (.inr w9)), l1] (.inr (.inr w9) :: st) G h k := E_aload_n (by rfl) rfl
theorem e67_32 : zE 67 d Q 32 [l0, l1] st G h k ↔ zE 67 d Q 33 [l0, l1] (zI 0 :: st) G h k := E_iconst (by rfl)
theorem e67_33 : zE 67 d Q 33 [l0, l1] (zI x :: zR (some r) :: st) G h k ↔ (G.2.1 r = 7 ∧ zE 67 d Q 36 [l0, l1] st G (zu h r 11 x) k) := E_putI (by rfl) rfl
theorem e67_36 : zE 67 d Q 36 [some (.inr (.inr w9)), l1] st G h k ↔ zE 67 d Q 37 [some (.inr (.inr w9)), l1] (.inr (.inr w9) :: st) G h k := E_aload_n (by rfl) rfl
theorem e67_37 : zE 67 d Q 37 [l0, l1] (zR (some r) :: st) G h k ↔ (G.2.1 r = 7 ∧ zE 67 d Q 40 [l0, l1] (zR (G.2.2.2 r 7) :: st) G h k) := E_getR (by rfl) rfl
theorem e67_40 : zE 67 d Q 40 [l0, l1] (zR (some r) :: st) G h k ↔ (G.2.1 r = 0 ∧ zE 67 d Q 43 [l0, l1] (zR (G.2.2.2 r 4) :: st) G h k) := E_getR (by rfl) rfl
theorem e67_43 : zE 67 d Q 43 [some (.inr (.inr w9)), l1] st G h k ↔ zE 67 d Q 44 [some (.inr (.inr w9)), l1] (.inr (.inr w9) :: st) G h k := E_aload_n (by rfl) rfl
theorem e67_44 : zE 67 d Q 44 [l0, l1] (zR (some r) :: st) G h k ↔ (G.2.1 r = 7 ∧ zE 67 d Q 47 [l0, l1] (zR (G.2.2.2 r 7) :: st) G h k) := E_getR (by rfl) rfl
theorem e67_47 : zE 67 d Q 47 [l0, l1] (zR (some r) :: st) G h k ↔ (G.2.1 r = 0 ∧ zE 67 d Q 50 [l0, l1] (zI (h r 0) :: st) G h k) := E_getI (by rfl) (by decide)
theorem e67_50 : zE 67 d Q 50 [l0, some (zI x)] st G h k ↔ zE 67 d Q 51 [l0, some (zI x)] (zI x :: st) G h k := E_iload_n (by rfl) rfl
theorem e67_51 : zE 67 d Q 51 [l0, l1] (zI x :: zI i :: zR (some r) :: st) G h k ↔ (G.2.1 r = 10 ∧ (0 ≤ i ∧ i < G.2.2.1 r) ∧ zE 67 d Q 52 [l0, l1] st G (zu h r i.toNat x) k) := E_iastore (by rfl)
theorem e67_52 : zE 67 d Q 52 [l0, l1] st G h k ↔ zE 67 d Q 53 [l0, l1] (zI 1 :: st) G h k := E_iconst (by rfl)
theorem e67_53 : zE 67 d Q 53 [l0, l1] [zI x] G h k ↔ ((x = 0 ∨ x = 1) ∧ Q (some (zI x)) G h) := E_zret (by rfl) rfl
theorem e68_0 : zE 68 d Q 0 [some (.inr (.inr w9)), l1, l2, l3] st G h k ↔ zE 68 d Q 1 [some (.inr (.inr w9)), l1, l2, l3] (.inr (.inr w9) :: st) G h k := E_aload_n (by rfl) rfl
theorem e68_1 : zE 68 d Q 1 [l0, l1, l2, l3] (zR (some r) :: st) G h k ↔ (zsum st ≤ 8 ∧ G.2.1 r = 7 ∧ zRunD ztb zmt' d 97 [zR (some r)] G h (fun v G' h' => zE 68 d Q 4 [l0, l1, l2, l3] (v.toList ++ st) G' h' k)) := E_invV2z (by rfl) (by decide) rfl
theorem e68_4 : zE 68 d Q 4 [l0, l1, l2, l3] (zI x :: st) G h k ↔ ((¬ x = 0 → zE 68 d Q 14 [l0, l1, l2, l3] st G h k) ∧ (¬ (¬ x = 0) → zE 68 d Q 7 [l0, l1, l2, l3] st G h k)) := E_if_ne (by rfl)
theorem e68_7 : zE 68 d Q 7 [some (.inr (.inr w9)), l1, l2, l3] st G h k ↔ zE 68 d Q 8 [some (.inr (.inr w9)), l1, l2, l3] (.inr (.inr w9) :: st) G h k := E_aload_n (by rfl) rfl
theorem e68_8 : zE 68 d Q 8 [l0, l1, l2, l3] st G h k ↔ zE 68 d Q 9 [l0, l1, l2, l3] (zI 1 :: st) G h k := E_iconst (by rfl)
theorem e68_9 : zE 68 d Q 9 [l0, l1, l2, l3] (zI x :: zR (some r) :: st) G h k ↔ (G.2.1 r = 7 ∧ zE 68 d Q 12 [l0, l1, l2, l3] st G (zu h r 11 x) k) := E_putI (by rfl) rfl
theorem e68_12 : zE 68 d Q 12 [l0, l1, l2, l3] st G h k ↔ zE 68 d Q 13 [l0, l1, l2, l3] (zI (-1) :: st) G h k := E_iconst (by rfl)
theorem e68_13 : zE 68 d Q 13 [l0, l1, l2, l3] [zI x] G h k ↔ Q (some (zI x)) G h := E_iret (by rfl) rfl
theorem e68_14 : zE 68 d Q 14 [l0, some (zI x), l2, l3] st G h k ↔ zE 68 d Q 15 [l0, some (zI x), l2, l3] (zI x :: st) G h k := E_iload_n (by rfl) rfl
theorem e68_15 : zE 68 d Q 15 [l0, l1, l2, l3] st G h k ↔ zE 68 d Q 16 [l0, l1, l2, l3] (zI 1 :: st) G h k := E_iconst (by rfl)
theorem e68_16 : zE 68 d Q 16 [l0, l1, l2, l3] (zI y :: zI x :: st) G h k ↔ ((x < y → zE 68 d Q 25 [l0, l1, l2, l3] st G h k) ∧ (¬ (x < y) → zE 68 d Q 19 [l0, l1, l2, l3] st G h k)) := E_icmp_lt (by rfl)
theorem e68_19 : zE 68 d Q 19 [l0, some (zI x), l2, l3] st G h k ↔ zE 68 d Q 20 [l0, some (zI x), l2, l3] (zI x :: st) G h k := E_iload_n (by rfl) rfl
theorem e68_20 : zE 68 d Q 20 [l0, l1, l2, l3] st G h k ↔ zE 68 d Q 22 [l0, l1, l2, l3] (zI 10 :: st) G h k := E_bipush (by rfl)
theorem e68_22 : zE 68 d Q 22 [l0, l1, l2, l3] (zI y :: zI x :: st) G h k ↔ ((x ≤ y → zE 68 d Q 32 [l0, l1, l2, l3] st G h k) ∧ (¬ (x ≤ y) → zE 68 d Q 25 [l0, l1, l2, l3] st G h k)) := E_icmp_le (by rfl)
theorem e68_25 : zE 68 d Q 25 [some (.inr (.inr w9)), l1, l2, l3] st G h k ↔ zE 68 d Q 26 [some (.inr (.inr w9)), l1, l2, l3] (.inr (.inr w9) :: st) G h k := E_aload_n (by rfl) rfl
theorem e68_26 : zE 68 d Q 26 [l0, l1, l2, l3] st G h k ↔ zE 68 d Q 27 [l0, l1, l2, l3] (zI 2 :: st) G h k := E_iconst (by rfl)
theorem e68_27 : zE 68 d Q 27 [l0, l1, l2, l3] (zI x :: zR (some r) :: st) G h k ↔ (G.2.1 r = 7 ∧ zE 68 d Q 30 [l0, l1, l2, l3] st G (zu h r 11 x) k) := E_putI (by rfl) rfl
theorem e68_30 : zE 68 d Q 30 [l0, l1, l2, l3] st G h k ↔ zE 68 d Q 31 [l0, l1, l2, l3] (zI (-1) :: st) G h k := E_iconst (by rfl)
theorem e68_31 : zE 68 d Q 31 [l0, l1, l2, l3] [zI x] G h k ↔ Q (some (zI x)) G h := E_iret (by rfl) rfl
theorem e68_32 : zE 68 d Q 32 [some (.inr (.inr w9)), l1, l2, l3] st G h k ↔ zE 68 d Q 33 [some (.inr (.inr w9)), l1, l2, l3] (.inr (.inr w9) :: st) G h k := E_aload_n (by rfl) rfl
theorem e68_33 : zE 68 d Q 33 [l0, l1, l2, l3] (zR (some r) :: st) G h k ↔ (G.2.1 r = 7 ∧ zE 68 d Q 36 [l0, l1, l2, l3] (zR (G.2.2.2 r 7) :: st) G h k) := E_getR (by rfl) rfl
theorem e68_36 : zE 68 d Q 36 [l0, l1, l2, l3] (zR (some r) :: st) G h k ↔ (G.2.1 r = 0 ∧ zE 68 d Q 39 [l0, l1, l2, l3] (zI (h r 0) :: st) G h k) := E_getI (by rfl) (by decide)
theorem e68_39 : zE 68 d Q 39 [l0, some (zI x), l2, l3] st G h k ↔ zE 68 d Q 40 [l0, some (zI x), l2, l3] (zI x :: st) G h k := E_iload_n (by rfl) rfl
theorem e68_40 : zE 68 d Q 40 [l0, l1, l2, l3] (zI y :: zI x :: st) G h k ↔ zE 68 d Q 41 [l0, l1, l2, l3] (zI (wr (x + y)) :: st) G h k := E_iadd (by rfl)
theorem e68_41 : zE 68 d Q 41 [l0, l1, l2, l3] st G h k ↔ zE 68 d Q 43 [l0, l1, l2, l3] (zI 40 :: st) G h k := E_bipush (by rfl)
theorem e68_43 : zE 68 d Q 43 [l0, l1, l2, l3] (zI y :: zI x :: st) G h k ↔ ((x ≤ y → zE 68 d Q 53 [l0, l1, l2, l3] st G h k) ∧ (¬ (x ≤ y) → zE 68 d Q 46 [l0, l1, l2, l3] st G h k)) := E_icmp_le (by rfl)
theorem e68_46 : zE 68 d Q 46 [some (.inr (.inr w9)), l1, l2, l3] st G h k ↔ zE 68 d Q 47 [some (.inr (.inr w9)), l1, l2, l3] (.inr (.inr w9) :: st) G h k := E_aload_n (by rfl) rfl
theorem e68_47 : zE 68 d Q 47 [l0, l1, l2, l3] st G h k ↔ zE 68 d Q 48 [l0, l1, l2, l3] (zI 3 :: st) G h k := E_iconst (by rfl)
theorem e68_48 : zE 68 d Q 48 [l0, l1, l2, l3] (zI x :: zR (some r) :: st) G h k ↔ (G.2.1 r = 7 ∧ zE 68 d Q 51 [l0, l1, l2, l3] st G (zu h r 11 x) k) := E_putI (by rfl) rfl
theorem e68_51 : zE 68 d Q 51 [l0, l1, l2, l3] st G h k ↔ zE 68 d Q 52 [l0, l1, l2, l3] (zI (-1) :: st) G h k := E_iconst (by rfl)
theorem e68_52 : zE 68 d Q 52 [l0, l1, l2, l3] [zI x] G h k ↔ Q (some (zI x)) G h := E_iret (by rfl) rfl
theorem e68_53 : zE 68 d Q 53 [some (.inr (.inr w9)), l1, l2, l3] st G h k ↔ zE 68 d Q 54 [some (.inr (.inr w9)), l1, l2, l3] (.inr (.inr w9) :: st) G h k := E_aload_n (by rfl) rfl
theorem e68_54 : zE 68 d Q 54 [l0, l1, l2, l3] st G h k ↔ zE 68 d Q 55 [l0, l1, l2, l3] (zI 0 :: st) G h k := E_iconst (by rfl)
theorem e68_55 : zE 68 d Q 55 [l0, l1, l2, l3] (zI x :: zR (some r) :: st) G h k ↔ (G.2.1 r = 7 ∧ zE 68 d Q 58 [l0, l1, l2, l3] st G (zu h r 11 x) k) := E_putI (by rfl) rfl
theorem e68_58 : zE 68 d Q 58 [some (.inr (.inr w9)), l1, l2, l3] st G h k ↔ zE 68 d Q 59 [some (.inr (.inr w9)), l1, l2, l3] (.inr (.inr w9) :: st) G h k := E_aload_n (by rfl) rfl
theorem e68_59 : zE 68 d Q 59 [l0, l1, l2, l3] (zR (some r) :: st) G h k ↔ (zsum st ≤ 8 ∧ G.2.1 r = 7 ∧ zRunD ztb zmt' d 106 [zR (some r)] G h (fun v G' h' => zE 68 d Q 62 [l0, l1, l2, l3] (v.toList ++ st) G' h' k)) := E_invV2z (by rfl) (by decide) rfl
theorem e68_62 : zE 68 d Q 62 [some (.inr (.inr w9)), l1, l2, l3] st G h k ↔ zE 68 d Q 63 [some (.inr (.inr w9)), l1, l2, l3] (.inr (.inr w9) :: st) G h k := E_aload_n (by rfl) rfl
theorem e68_63 : zE 68 d Q 63 [l0, l1, l2, l3] (zR (some r) :: st) G h k ↔ (G.2.1 r = 7 ∧ zE 68 d Q 66 [l0, l1, l2, l3] (zR (G.2.2.2 r 5) :: st) G h k) := E_getR (by rfl) rfl
theorem e68_66 : zE 68 d Q 66 [some (.inr (.inr w9)), l1, l2, l3] st G h k ↔ zE 68 d Q 67 [some (.inr (.inr w9)), l1, l2, l3] (.inr (.inr w9) :: st) G h k := E_aload_n (by rfl) rfl
theorem e68_67 : zE 68 d Q 67 [l0, l1, l2, l3] (zR (some r) :: st) G h k ↔ (G.2.1 r = 7 ∧ zE 68 d Q 70 [l0, l1, l2, l3] (zR (G.2.2.2 r 8) :: st) G h k) := E_getR (by rfl) rfl
theorem e68_70 : zE 68 d Q 70 [l0, l1, l2, l3] st G h k ↔ zE 68 d Q 71 [l0, l1, l2, l3] (zI 0 :: st) G h k := E_iconst (by rfl)
theorem e68_71 : zE 68 d Q 71 [l0, l1, l2, l3] (v1 :: v0 :: zR (some r) :: st) G h k ↔ (zsum st ≤ 8 ∧ G.2.1 r = 1 ∧ zRunD ztb zmt' d 11 [zR (some r), v0, v1] G h (fun v G' h' => zE 68 d Q 74 [l0, l1, l2, l3] (v.toList ++ st) G' h' k)) := E_invV2z (by rfl) (by decide) rfl
theorem e68_74 : zE 68 d Q 74 [l0, l1, l2, l3] st G h k ↔ zE 68 d Q 75 [l0, l1, l2, l3] (zI 0 :: st) G h k := E_iconst (by rfl)
theorem e68_75 : zE 68 d Q 75 [l0, l1, l2, l3] (zI x :: st) G h k ↔ zE 68 d Q 76 [l0, (zclr l1), some (zI x), l3] st G h k := E_istore_n (by rfl) (by decide)
theorem e68_76 : zE 68 d Q 76 [l0, l1, l2, l3] st G h k ↔ zE 68 d Q 77 [l0, l1, l2, l3] (zI 0 :: st) G h k := E_iconst (by rfl)
theorem e68_77 : zE 68 d Q 77 [l0, l1, l2, l3] (zI x :: st) G h k ↔ zE 68 d Q 78 [l0, l1, (zclr l2), some (zI x)] st G h k := E_istore_n (by rfl) (by decide)
theorem e68_78 : zE 68 d Q 78 [l0, l1, l2, some (zI x)] st G h k ↔ zE 68 d Q 79 [l0, l1, l2, some (zI x)] (zI x :: st) G h k := E_iload_n (by rfl) rfl
theorem e68_79 : zE 68 d Q 79 [l0, some (zI x), l2, l3] st G h k ↔ zE 68 d Q 80 [l0, some (zI x), l2, l3] (zI x :: st) G h k := E_iload_n (by rfl) rfl
theorem e68_80 : zE 68 d Q 80 [l0, l1, l2, l3] (zI y :: zI x :: st) G h k ↔ ((y ≤ x → zE 68 d Q 96 [l0, l1, l2, l3] st G h k) ∧ (¬ (y ≤ x) → zE 68 d Q 83 [l0, l1, l2, l3] st G h k)) := E_icmp_ge (by rfl)
theorem e68_83 : zE 68 d Q 83 [l0, l1, some (zI x), l3] st G h k ↔ zE 68 d Q 84 [l0, l1, some (zI x), l3] (zI x :: st) G h k := E_iload_n (by rfl) rfl
theorem e68_84 : zE 68 d Q 84 [some (.inr (.inr w9)), l1, l2, l3] st G h k ↔ zE 68 d Q 85 [some (.inr (.inr w9)), l1, l2, l3] (.inr (.inr w9) :: st) G h k := E_aload_n (by rfl) rfl
theorem e68_85 : zE 68 d Q 85 [l0, l1, l2, l3] (zR (some r) :: st) G h k ↔ (zsum st ≤ 8 ∧ G.2.1 r = 7 ∧ zRunD ztb zmt' d 69 [zR (some r)] G h (fun v G' h' => zE 68 d Q 88 [l0, l1, l2, l3] (v.toList ++ st) G' h' k)) := E_invV2z (by rfl) (by decide) rfl
theorem e68_88 : zE 68 d Q 88 [l0, l1, l2, l3] (zI y :: zI x :: st) G h k ↔ zE 68 d Q 89 [l0, l1, l2, l3] (zI (wr (x + y)) :: st) G h k := E_iadd (by rfl)
theorem e68_89 : zE 68 d Q 89 [l0, l1, l2, l3] (zI x :: st) G h k ↔ zE 68 d Q 90 [l0, (zclr l1), some (zI x), l3] st G h k := E_istore_n (by rfl) (by decide)
theorem e68_90 : zE 68 d Q 90 [l0, l1, l2, some (zI x)] st G h k ↔ zE 68 d Q 93 [l0, l1, (zclr l2), some (zI (wr (x + 1)))] st G h k := E_iinc (by rfl) rfl
theorem e68_93 : zE 68 d Q 93 [l0, l1, l2, l3] st G h k ↔ zE 68 d Q 78 [l0, l1, l2, l3] st G h k := E_goto (by rfl)
theorem e68_96 : zE 68 d Q 96 [l0, l1, some (zI x), l3] st G h k ↔ zE 68 d Q 97 [l0, l1, some (zI x), l3] (zI x :: st) G h k := E_iload_n (by rfl) rfl
theorem e68_97 : zE 68 d Q 97 [l0, l1, l2, l3] [zI x] G h k ↔ Q (some (zI x)) G h := E_iret (by rfl) rfl
theorem e69_0 : zE 69 d Q 0 [some (.inr (.inr w9)), l1, l2, l3] st G h k ↔ zE 69 d Q 1 [some (.inr (.inr w9)), l1, l2, l3] (.inr (.inr w9) :: st) G h k := E_aload_n (by rfl) rfl
theorem e69_1 : zE 69 d Q 1 [l0, l1, l2, l3] (zR (some r) :: st) G h k ↔ (G.2.1 r = 7 ∧ zE 69 d Q 4 [l0, l1, l2, l3] (zR (G.2.2.2 r 7) :: st) G h k) := E_getR (by rfl) rfl
theorem e69_4 : zE 69 d Q 4 [l0, l1, l2, l3] (zR (some r) :: st) G h k ↔ (G.2.1 r = 0 ∧ zE 69 d Q 7 [l0, l1, l2, l3] (zR (G.2.2.2 r 4) :: st) G h k) := E_getR (by rfl) rfl
theorem e69_7 : zE 69 d Q 7 [some (.inr (.inr w9)), l1, l2, l3] st G h k ↔ zE 69 d Q 8 [some (.inr (.inr w9)), l1, l2, l3] (.inr (.inr w9) :: st) G h k := E_aload_n (by rfl) rfl
theorem e69_8 : zE 69 d Q 8 [l0, l1, l2, l3] (zR (some r) :: st) G h k ↔ (G.2.1 r = 7 ∧ zE 69 d Q 11 [l0, l1, l2, l3] (zR (G.2.2.2 r 7) :: st) G h k) := E_getR (by rfl) rfl
theorem e69_11 : zE 69 d Q 11 [l0, l1, l2, l3] (zR (some r) :: st) G h k ↔ (G.2.1 r = 0 ∧ zE 69 d Q 14 [l0, l1, l2, l3] (zI (h r 0) :: st) G h k) := E_getI (by rfl) (by decide)
theorem e69_14 : zE 69 d Q 14 [l0, l1, l2, l3] (zI i :: zR (some r) :: st) G h k ↔ (G.2.1 r = 10 ∧ (0 ≤ i ∧ i < G.2.2.1 r) ∧ zE 69 d Q 15 [l0, l1, l2, l3] (zI (h r i.toNat) :: st) G h k) := E_iaload (by rfl)
theorem e69_15 : zE 69 d Q 15 [l0, l1, l2, l3] (zI x :: st) G h k ↔ zE 69 d Q 16 [(zclr l0), some (zI x), l2, l3] st G h k := E_istore_n (by rfl) (by decide)
theorem e69_16 : zE 69 d Q 16 [l0, l1, l2, l3] st G h k ↔ zE 69 d Q 17 [l0, l1, l2, l3] (zI 0 :: st) G h k := E_iconst (by rfl)
theorem e69_17 : zE 69 d Q 17 [l0, l1, l2, l3] (zI x :: st) G h k ↔ zE 69 d Q 18 [l0, (zclr l1), some (zI x), l3] st G h k := E_istore_n (by rfl) (by decide)
theorem e69_18 : zE 69 d Q 18 [l0, l1, some (zI x), l3] st G h k ↔ zE 69 d Q 19 [l0, l1, some (zI x), l3] (zI x :: st) G h k := E_iload_n (by rfl) rfl
theorem e69_19 : zE 69 d Q 19 [some (.inr (.inr w9)), l1, l2, l3] st G h k ↔ zE 69 d Q 20 [some (.inr (.inr w9)), l1, l2, l3] (.inr (.inr w9) :: st) G h k := E_aload_n (by rfl) rfl
theorem e69_20 : zE 69 d Q 20 [l0, l1, l2, l3] (zR (some r) :: st) G h k ↔ (G.2.1 r = 7 ∧ zE 69 d Q 23 [l0, l1, l2, l3] (zR (G.2.2.2 r 6) :: st) G h k) := E_getR (by rfl) rfl
theorem e69_23 : zE 69 d Q 23 [l0, l1, l2, l3] (zR (some r) :: st) G h k ↔ (G.2.1 r = 5 ∧ zE 69 d Q 26 [l0, l1, l2, l3] (zI (h r 10) :: st) G h k) := E_getI (by rfl) (by decide)
theorem e69_26 : zE 69 d Q 26 [l0, l1, l2, l3] (zI y :: zI x :: st) G h k ↔ ((y ≤ x → zE 69 d Q 100 [l0, l1, l2, l3] st G h k) ∧ (¬ (y ≤ x) → zE 69 d Q 29 [l0, l1, l2, l3] st G h k)) := E_icmp_ge (by rfl)
theorem e69_29 : zE 69 d Q 29 [some (.inr (.inr w9)), l1, l2, l3] st G h k ↔ zE 69 d Q 30 [some (.inr (.inr w9)), l1, l2, l3] (.inr (.inr w9) :: st) G h k := E_aload_n (by rfl) rfl
theorem e69_30 : zE 69 d Q 30 [l0, l1, l2, l3] (zR (some r) :: st) G h k ↔ (G.2.1 r = 7 ∧ zE 69 d Q 33 [l0, l1, l2, l3] (zR (G.2.2.2 r 6) :: st) G h k) := E_getR (by rfl) rfl
theorem e69_33 : zE 69 d Q 33 [l0, l1, l2, l3] (zR (some r) :: st) G h k ↔ (G.2.1 r = 5 ∧ zE 69 d Q 36 [l0, l1, l2, l3] (zR (G.2.2.2 r 3) :: st) G h k) := E_getR (by rfl) rfl
theorem e69_36 : zE 69 d Q 36 [l0, l1, some (zI x), l3] st G h k ↔ zE 69 d Q 37 [l0, l1, some (zI x), l3] (zI x :: st) G h k := E_iload_n (by rfl) rfl
theorem e69_37 : zE 69 d Q 37 [l0, l1, l2, l3] (zI i :: zR (some r) :: st) G h k ↔ (G.2.1 r = 10 ∧ (0 ≤ i ∧ i < G.2.2.1 r) ∧ zE 69 d Q 38 [l0, l1, l2, l3] (zI (h r i.toNat) :: st) G h k) := E_iaload (by rfl)
theorem e69_38 : zE 69 d Q 38 [l0, l1, l2, l3] (zI x :: st) G h k ↔ zE 69 d Q 39 [l0, l1, (zclr l2), some (zI x)] st G h k := E_istore_n (by rfl) (by decide)
theorem e69_39 : zE 69 d Q 39 [l0, some (zI x), l2, l3] st G h k ↔ zE 69 d Q 40 [l0, some (zI x), l2, l3] (zI x :: st) G h k := E_iload_n (by rfl) rfl
theorem e69_40 : zE 69 d Q 40 [l0, l1, l2, l3] (zI x :: st) G h k ↔ ((x ≤ 0 → zE 69 d Q 66 [l0, l1, l2, l3] st G h k) ∧ (¬ (x ≤ 0) → zE 69 d Q 43 [l0, l1, l2, l3] st G h k)) := E_if_le (by rfl)
theorem e69_43 : zE 69 d Q 43 [l0, l1, l2, l3] st G h k ↔ zE 69 d Q 45 [l0, l1, l2, l3] (zI 75 :: st) G h k := E_bipush (by rfl)
theorem e69_45 : zE 69 d Q 45 [l0, some (zI x), l2, l3] st G h k ↔ zE 69 d Q 46 [l0, some (zI x), l2, l3] (zI x :: st) G h k := E_iload_n (by rfl) rfl
theorem e69_46 : zE 69 d Q 46 [l0, l1, l2, l3] (zI y :: zI x :: st) G h k ↔ zE 69 d Q 47 [l0, l1, l2, l3] (zI (wr (x * y)) :: st) G h k := E_imul (by rfl)
theorem e69_47 : zE 69 d Q 47 [l0, l1, l2, l3] st G h k ↔ zE 69 d Q 49 [l0, l1, l2, l3] (zI 74 :: st) G h k := E_bipush (by rfl)
theorem e69_49 : zE 69 d Q 49 [l0, l1, l2, l3] (zI y :: zI x :: st) G h k ↔ zE 69 d Q 50 [l0, l1, l2, l3] (zI (wr (x + y)) :: st) G h k := E_iadd (by rfl)
theorem e69_50 : zE 69 d Q 50 [l0, l1, l2, l3] st G h k ↔ zE 69 d Q 52 [l0, l1, l2, l3] (zI 65537 :: st) G h k := E_ldcI (by rfl) rfl
theorem e69_52 : zE 69 d Q 52 [l0, l1, l2, l3] (zI y :: zI x :: st) G h k ↔ (y ≠ 0 ∧ zE 69 d Q 53 [l0, l1, l2, l3] (zI (x.tmod y) :: st) G h k) := E_irem (by rfl)
theorem e69_53 : zE 69 d Q 53 [l0, l1, l2, l3] (zI x :: st) G h k ↔ zE 69 d Q 54 [(zclr l0), some (zI x), l2, l3] st G h k := E_istore_n (by rfl) (by decide)
theorem e69_54 : zE 69 d Q 54 [l0, l1, l2, l3] st G h k ↔ zE 69 d Q 55 [l0, l1, l2, l3] (zI 0 :: st) G h k := E_iconst (by rfl)
theorem e69_55 : zE 69 d Q 55 [l0, l1, l2, some (zI x)] st G h k ↔ zE 69 d Q 56 [l0, l1, l2, some (zI x)] (zI x :: st) G h k := E_iload_n (by rfl) rfl
theorem e69_56 : zE 69 d Q 56 [l0, some (zI x), l2, l3] st G h k ↔ zE 69 d Q 57 [l0, some (zI x), l2, l3] (zI x :: st) G h k := E_iload_n (by rfl) rfl
theorem e69_57 : zE 69 d Q 57 [l0, l1, l2, l3] st G h k ↔ zE 69 d Q 58 [l0, l1, l2, l3] (zI 3 :: st) G h k := E_iconst (by rfl)
theorem e69_58 : zE 69 d Q 58 [l0, l1, l2, l3] (zI y :: zI x :: st) G h k ↔ (y ≠ 0 ∧ zE 69 d Q 59 [l0, l1, l2, l3] (zI (x.tmod y) :: st) G h k) := E_irem (by rfl)
theorem e69_59 : zE 69 d Q 59 [l0, l1, l2, l3] (zI y :: zI x :: st) G h k ↔ zE 69 d Q 60 [l0, l1, l2, l3] (zI (wr (x + y)) :: st) G h k := E_iadd (by rfl)
theorem e69_60 : zE 69 d Q 60 [l0, l1, l2, l3] st G h k ↔ zE 69 d Q 61 [l0, l1, l2, l3] (zI 1 :: st) G h k := E_iconst (by rfl)
theorem e69_61 : zE 69 d Q 61 [l0, l1, l2, l3] (zI y :: zI x :: st) G h k ↔ zE 69 d Q 62 [l0, l1, l2, l3] (zI (wr (x - y)) :: st) G h k := E_isub (by rfl)
theorem e69_62 : zE 69 d Q 62 [l0, l1, l2, l3] (v1 :: v0 :: st) G h k ↔ (zsum st ≤ 8 ∧ zRunD ztb zmt' d 215 [v0, v1] G h (fun v G' h' => zE 69 d Q 65 [l0, l1, l2, l3] (v.toList ++ st) G' h' k)) := E_invS2z (by rfl) (by decide) rfl
theorem e69_65 : zE 69 d Q 65 [l0, l1, l2, l3] (zI x :: st) G h k ↔ zE 69 d Q 66 [l0, l1, (zclr l2), some (zI x)] st G h k := E_istore_n (by rfl) (by decide)
theorem e69_66 : zE 69 d Q 66 [some (.inr (.inr w9)), l1, l2, l3] st G h k ↔ zE 69 d Q 67 [some (.inr (.inr w9)), l1, l2, l3] (.inr (.inr w9) :: st) G h k := E_aload_n (by rfl) rfl
theorem e69_67 : zE 69 d Q 67 [l0, l1, l2, l3] (zR (some r) :: st) G h k ↔ (G.2.1 r = 7 ∧ zE 69 d Q 70 [l0, l1, l2, l3] (zR (G.2.2.2 r 4) :: st) G h k) := E_getR (by rfl) rfl
theorem e69_70 : zE 69 d Q 70 [l0, l1, some (zI x), l3] st G h k ↔ zE 69 d Q 71 [l0, l1, some (zI x), l3] (zI x :: st) G h k := E_iload_n (by rfl) rfl
theorem e69_71 : zE 69 d Q 71 [l0, l1, l2, some (zI x)] st G h k ↔ zE 69 d Q 72 [l0, l1, l2, some (zI x)] (zI x :: st) G h k := E_iload_n (by rfl) rfl
theorem e69_72 : zE 69 d Q 72 [some (.inr (.inr w9)), l1, l2, l3] st G h k ↔ zE 69 d Q 73 [some (.inr (.inr w9)), l1, l2, l3] (.inr (.inr w9) :: st) G h k := E_aload_n (by rfl) rfl
theorem e69_73 : zE 69 d Q 73 [l0, l1, l2, l3] (zR (some r) :: st) G h k ↔ (G.2.1 r = 7 ∧ zE 69 d Q 76 [l0, l1, l2, l3] (zR (G.2.2.2 r 6) :: st) G h k) := E_getR (by rfl) rfl
theorem e69_76 : zE 69 d Q 76 [l0, l1, l2, l3] (zR (some r) :: st) G h k ↔ (G.2.1 r = 5 ∧ zE 69 d Q 79 [l0, l1, l2, l3] (zR (G.2.2.2 r 7) :: st) G h k) := E_getR (by rfl) rfl
theorem e69_79 : zE 69 d Q 79 [l0, l1, some (zI x), l3] st G h k ↔ zE 69 d Q 80 [l0, l1, some (zI x), l3] (zI x :: st) G h k := E_iload_n (by rfl) rfl
theorem e69_80 : zE 69 d Q 80 [l0, l1, l2, l3] (zI i :: zR (some r) :: st) G h k ↔ (G.2.1 r = 10 ∧ (0 ≤ i ∧ i < G.2.2.1 r) ∧ zE 69 d Q 81 [l0, l1, l2, l3] (zI (h r i.toNat) :: st) G h k) := E_iaload (by rfl)
theorem e69_81 : zE 69 d Q 81 [l0, l1, l2, l3] st G h k ↔ zE 69 d Q 82 [l0, l1, l2, l3] (zI 1 :: st) G h k := E_iconst (by rfl)
theorem e69_82 : zE 69 d Q 82 [l0, l1, l2, l3] (zI y :: zI x :: st) G h k ↔ ((¬ x = y → zE 69 d Q 89 [l0, l1, l2, l3] st G h k) ∧ (¬ (¬ x = y) → zE 69 d Q 85 [l0, l1, l2, l3] st G h k)) := E_icmp_ne (by rfl)
theorem e69_85 : zE 69 d Q 85 [l0, l1, l2, some (zI x)] st G h k ↔ zE 69 d Q 86 [l0, l1, l2, some (zI x)] (zI x :: st) G h k := E_iload_n (by rfl) rfl
theorem e69_86 : zE 69 d Q 86 [l0, l1, l2, l3] st G h k ↔ zE 69 d Q 90 [l0, l1, l2, l3] st G h k := E_goto (by rfl)
theorem e69_89 : zE 69 d Q 89 [l0, l1, l2, l3] st G h k ↔ zE 69 d Q 90 [l0, l1, l2, l3] (zI 0 :: st) G h k := E_iconst (by rfl)
theorem e69_90 : zE 69 d Q 90 [l0, l1, l2, l3] (v2 :: v1 :: v0 :: zR (some r) :: st) G h k ↔ (zsum st ≤ 8 ∧ G.2.1 r = 6 ∧ zRunD ztb zmt' d 54 [zR (some r), v0, v1, v2] G h (fun v G' h' => zE 69 d Q 93 [l0, l1, l2, l3] (v.toList ++ st) G' h' k)) := E_invV2z (by rfl) (by decide) rfl
theorem e69_93 : zE 69 d Q 93 [l0, l1, l2, l3] (zI x :: st) G h k ↔ zE 69 d Q 94 [l0, l1, l2, l3] st G h k := E_pop (by rfl) rfl
theorem e69_94 : zE 69 d Q 94 [l0, l1, some (zI x), l3] st G h k ↔ zE 69 d Q 97 [l0, (zclr l1), some (zI (wr (x + 1))), l3] st G h k := E_iinc (by rfl) rfl
theorem e69_97 : zE 69 d Q 97 [l0, l1, l2, l3] st G h k ↔ zE 69 d Q 18 [l0, l1, l2, l3] st G h k := E_goto (by rfl)
theorem e69_100 : zE 69 d Q 100 [some (.inr (.inr w9)), l1, l2, l3] st G h k ↔ zE 69 d Q 101 [some (.inr (.inr w9)), l1, l2, l3] (.inr (.inr w9) :: st) G h k := E_aload_n (by rfl) rfl
theorem e69_101 : zE 69 d Q 101 [l0, l1, l2, l3] (zR (some r) :: st) G h k ↔ (G.2.1 r = 7 ∧ zE 69 d Q 104 [l0, l1, l2, l3] (zR (G.2.2.2 r 4) :: st) G h k) := E_getR (by rfl) rfl
theorem e69_104 : zE 69 d Q 104 [some (.inr (.inr w9)), l1, l2, l3] st G h k ↔ zE 69 d Q 105 [some (.inr (.inr w9)), l1, l2, l3] (.inr (.inr w9) :: st) G h k := E_aload_n (by rfl) rfl
theorem e69_105 : zE 69 d Q 105 [l0, l1, l2, l3] (zR (some r) :: st) G h k ↔ (G.2.1 r = 7 ∧ zE 69 d Q 108 [l0, l1, l2, l3] (zR (G.2.2.2 r 7) :: st) G h k) := E_getR (by rfl) rfl
theorem e69_108 : zE 69 d Q 108 [l0, l1, l2, l3] (zR (some r) :: st) G h k ↔ (G.2.1 r = 0 ∧ zE 69 d Q 111 [l0, l1, l2, l3] (zR (G.2.2.2 r 1) :: st) G h k) := E_getR (by rfl) rfl
theorem e69_111 : zE 69 d Q 111 [some (.inr (.inr w9)), l1, l2, l3] st G h k ↔ zE 69 d Q 112 [some (.inr (.inr w9)), l1, l2, l3] (.inr (.inr w9) :: st) G h k := E_aload_n (by rfl) rfl
theorem e69_112 : zE 69 d Q 112 [l0, l1, l2, l3] (zR (some r) :: st) G h k ↔ (G.2.1 r = 7 ∧ zE 69 d Q 115 [l0, l1, l2, l3] (zR (G.2.2.2 r 7) :: st) G h k) := E_getR (by rfl) rfl
theorem e69_115 : zE 69 d Q 115 [l0, l1, l2, l3] (zR (some r) :: st) G h k ↔ (G.2.1 r = 0 ∧ zE 69 d Q 118 [l0, l1, l2, l3] (zI (h r 0) :: st) G h k) := E_getI (by rfl) (by decide)
theorem e69_118 : zE 69 d Q 118 [l0, l1, l2, l3] st G h k ↔ zE 69 d Q 120 [l0, l1, l2, l3] (zI 12 :: st) G h k := E_bipush (by rfl)
theorem e69_120 : zE 69 d Q 120 [l0, l1, l2, l3] (zI y :: zI x :: st) G h k ↔ zE 69 d Q 121 [l0, l1, l2, l3] (zI (wr (x * y)) :: st) G h k := E_imul (by rfl)
theorem e69_121 : zE 69 d Q 121 [some (.inr (.inr w9)), l1, l2, l3] st G h k ↔ zE 69 d Q 122 [some (.inr (.inr w9)), l1, l2, l3] (.inr (.inr w9) :: st) G h k := E_aload_n (by rfl) rfl
theorem e69_122 : zE 69 d Q 122 [l0, l1, l2, l3] (zR (some r) :: st) G h k ↔ (G.2.1 r = 7 ∧ zE 69 d Q 125 [l0, l1, l2, l3] (zR (G.2.2.2 r 8) :: st) G h k) := E_getR (by rfl) rfl
theorem e69_125 : zE 69 d Q 125 [l0, l1, l2, l3] st G h k ↔ zE 69 d Q 126 [l0, l1, l2, l3] (zI 0 :: st) G h k := E_iconst (by rfl)
theorem e69_126 : zE 69 d Q 126 [l0, l1, l2, l3] (v3 :: v2 :: v1 :: v0 :: zR (some r) :: st) G h k ↔ (zsum st ≤ 8 ∧ G.2.1 r = 6 ∧ zRunD ztb zmt' d 55 [zR (some r), v0, v1, v2, v3] G h (fun v G' h' => zE 69 d Q 129 [l0, l1, l2, l3] (v.toList ++ st) G' h' k)) := E_invV2z (by rfl) (by decide) rfl
theorem e69_129 : zE 69 d Q 129 [some (.inr (.inr w9)), l1, l2, l3] st G h k ↔ zE 69 d Q 130 [some (.inr (.inr w9)), l1, l2, l3] (.inr (.inr w9) :: st) G h k := E_aload_n (by rfl) rfl
theorem e69_130 : zE 69 d Q 130 [l0, l1, l2, l3] (zR (some r) :: st) G h k ↔ (G.2.1 r = 7 ∧ zE 69 d Q 133 [l0, l1, l2, l3] (zR (G.2.2.2 r 7) :: st) G h k) := E_getR (by rfl) rfl
theorem e69_133 : zE 69 d Q 133 [some (.inr (.inr w9)), l1, l2, l3] st G h k ↔ zE 69 d Q 134 [some (.inr (.inr w9)), l1, l2, l3] (.inr (.inr w9) :: st) G h k := E_aload_n (by rfl) rfl
theorem e69_134 : zE 69 d Q 134 [l0, l1, l2, l3] (zR (some r) :: st) G h k ↔ (G.2.1 r = 7 ∧ zE 69 d Q 137 [l0, l1, l2, l3] (zR (G.2.2.2 r 4) :: st) G h k) := E_getR (by rfl) rfl
theorem e69_137 : zE 69 d Q 137 [l0, some (zI x), l2, l3] st G h k ↔ zE 69 d Q 138 [l0, some (zI x), l2, l3] (zI x :: st) G h k := E_iload_n (by rfl) rfl
theorem e69_138 : zE 69 d Q 138 [l0, l1, l2, l3] (v1 :: v0 :: zR (some r) :: st) G h k ↔ (zsum st ≤ 8 ∧ G.2.1 r = 0 ∧ zRunD ztb zmt' d 4 [zR (some r), v0, v1] G h (fun v G' h' => zE 69 d Q 141 [l0, l1, l2, l3] (v.toList ++ st) G' h' k)) := E_invV2z (by rfl) (by decide) rfl
theorem e69_141 : zE 69 d Q 141 [l0, l1, l2, l3] [zI x] G h k ↔ Q (some (zI x)) G h := E_iret (by rfl) rfl
theorem e70_0 : zE 70 d Q 0 [some (.inr (.inr w9)), l1] st G h k ↔ zE 70 d Q 1 [some (.inr (.inr w9)), l1] (.inr (.inr w9) :: st) G h k := E_aload_n (by rfl) rfl
theorem e70_1 : zE 70 d Q 1 [l0, l1] (zR (some r) :: st) G h k ↔ (zsum st ≤ 8 ∧ G.2.1 r = 7 ∧ zRunD ztb zmt' d 97 [zR (some r)] G h (fun v G' h' => zE 70 d Q 4 [l0, l1] (v.toList ++ st) G' h' k)) := E_invV2z (by rfl) (by decide) rfl
theorem e70_4 : zE 70 d Q 4 [l0, l1] (zI x :: st) G h k ↔ ((¬ x = 0 → zE 70 d Q 14 [l0, l1] st G h k) ∧ (¬ (¬ x = 0) → zE 70 d Q 7 [l0, l1] st G h k)) := E_if_ne (by rfl)
theorem e70_7 : zE 70 d Q 7 [some (.inr (.inr w9)), l1] st G h k ↔ zE 70 d Q 8 [some (.inr (.inr w9)), l1] (.inr (.inr w9) :: st) G h k := E_aload_n (by rfl) rfl
theorem e70_8 : zE 70 d Q 8 [l0, l1] st G h k ↔ zE 70 d Q 9 [l0, l1] (zI 1 :: st) G h k := E_iconst (by rfl)
theorem e70_9 : zE 70 d Q 9 [l0, l1] (zI x :: zR (some r) :: st) G h k ↔ (G.2.1 r = 7 ∧ zE 70 d Q 12 [l0, l1] st G (zu h r 11 x) k) := E_putI (by rfl) rfl
theorem e70_12 : zE 70 d Q 12 [l0, l1] st G h k ↔ zE 70 d Q 13 [l0, l1] (zI 0 :: st) G h k := E_iconst (by rfl)
theorem e70_13 : zE 70 d Q 13 [l0, l1] [zI x] G h k ↔ ((x = 0 ∨ x = 1) ∧ Q (some (zI x)) G h) := E_zret (by rfl) rfl
theorem e70_14 : zE 70 d Q 14 [l0, some (zI x)] st G h k ↔ zE 70 d Q 15 [l0, some (zI x)] (zI x :: st) G h k := E_iload_n (by rfl) rfl
theorem e70_15 : zE 70 d Q 15 [l0, l1] (zI x :: st) G h k ↔ ((x < 0 → zE 70 d Q 29 [l0, l1] st G h k) ∧ (¬ (x < 0) → zE 70 d Q 18 [l0, l1] st G h k)) := E_if_lt (by rfl)
theorem e70_18 : zE 70 d Q 18 [l0, some (zI x)] st G h k ↔ zE 70 d Q 19 [l0, some (zI x)] (zI x :: st) G h k := E_iload_n (by rfl) rfl
theorem e70_19 : zE 70 d Q 19 [some (.inr (.inr w9)), l1] st G h k ↔ zE 70 d Q 20 [some (.inr (.inr w9)), l1] (.inr (.inr w9) :: st) G h k := E_aload_n (by rfl) rfl
theorem e70_20 : zE 70 d Q 20 [l0, l1] (zR (some r) :: st) G h k ↔ (G.2.1 r = 7 ∧ zE 70 d Q 23 [l0, l1] (zR (G.2.2.2 r 7) :: st) G h k) := E_getR (by rfl) rfl
theorem e70_23 : zE 70 d Q 23 [l0, l1] (zR (some r) :: st) G h k ↔ (G.2.1 r = 0 ∧ zE 70 d Q 26 [l0, l1] (zI (h r 0) :: st) G h k) := E_getI (by rfl) (by decide)
theorem e70_26 : zE 70 d Q 26 [l0, l1] (zI y :: zI x :: st) G h k ↔ ((x ≤ y → zE 70 d Q 36 [l0, l1] st G h k) ∧ (¬ (x ≤ y) → zE 70 d Q 29 [l0, l1] st G h k)) := E_icmp_le (by rfl)
theorem e70_29 : zE 70 d Q 29 [some (.inr (.inr w9)), l1] st G h k ↔ zE 70 d Q 30 [some (.inr (.inr w9)), l1] (.inr (.inr w9) :: st) G h k := E_aload_n (by rfl) rfl
theorem e70_30 : zE 70 d Q 30 [l0, l1] st G h k ↔ zE 70 d Q 31 [l0, l1] (zI 2 :: st) G h k := E_iconst (by rfl)
theorem e70_31 : zE 70 d Q 31 [l0, l1] (zI x :: zR (some r) :: st) G h k ↔ (G.2.1 r = 7 ∧ zE 70 d Q 34 [l0, l1] st G (zu h r 11 x) k) := E_putI (by rfl) rfl
theorem e70_34 : zE 70 d Q 34 [l0, l1] st G h k ↔ zE 70 d Q 35 [l0, l1] (zI 0 :: st) G h k := E_iconst (by rfl)
theorem e70_35 : zE 70 d Q 35 [l0, l1] [zI x] G h k ↔ ((x = 0 ∨ x = 1) ∧ Q (some (zI x)) G h) := E_zret (by rfl) rfl
theorem e70_36 : zE 70 d Q 36 [some (.inr (.inr w9)), l1] st G h k ↔ zE 70 d Q 37 [some (.inr (.inr w9)), l1] (.inr (.inr w9) :: st) G h k := E_aload_n (by rfl) rfl
theorem e70_37 : zE 70 d Q 37 [l0, l1] st G h k ↔ zE 70 d Q 38 [l0, l1] (zI 0 :: st) G h k := E_iconst (by rfl)
theorem e70_38 : zE 70 d Q 38 [l0, l1] (zI x :: zR (some r) :: st) G h k ↔ (G.2.1 r = 7 ∧ zE 70 d Q 41 [l0, l1] st G (zu h r 11 x) k) := E_putI (by rfl) rfl
theorem e70_41 : zE 70 d Q 41 [some (.inr (.inr w9)), l1] st G h k ↔ zE 70 d Q 42 [some (.inr (.inr w9)), l1] (.inr (.inr w9) :: st) G h k := E_aload_n (by rfl) rfl
theorem e70_42 : zE 70 d Q 42 [l0, l1] (zR (some r) :: st) G h k ↔ (G.2.1 r = 7 ∧ zE 70 d Q 45 [l0, l1] (zR (G.2.2.2 r 7) :: st) G h k) := E_getR (by rfl) rfl
theorem e70_45 : zE 70 d Q 45 [l0, some (zI x)] st G h k ↔ zE 70 d Q 46 [l0, some (zI x)] (zI x :: st) G h k := E_iload_n (by rfl) rfl
theorem e70_46 : zE 70 d Q 46 [l0, l1] (zI x :: zR (some r) :: st) G h k ↔ (G.2.1 r = 0 ∧ zE 70 d Q 49 [l0, l1] st G (zu h r 0 x) k) := E_putI (by rfl) rfl
theorem e70_49 : zE 70 d Q 49 [l0, l1] st G h k ↔ zE 70 d Q 50 [l0, l1] (zI 1 :: st) G h k := E_iconst (by rfl)
theorem e70_50 : zE 70 d Q 50 [l0, l1] [zI x] G h k ↔ ((x = 0 ∨ x = 1) ∧ Q (some (zI x)) G h) := E_zret (by rfl) rfl
theorem e71_0 : zE 71 d Q 0 [some (.inr (.inr w9)), l1, l2] st G h k ↔ zE 71 d Q 1 [some (.inr (.inr w9)), l1, l2] (.inr (.inr w9) :: st) G h k := E_aload_n (by rfl) rfl
theorem e71_1 : zE 71 d Q 1 [l0, some (zI x), l2] st G h k ↔ zE 71 d Q 2 [l0, some (zI x), l2] (zI x :: st) G h k := E_iload_n (by rfl) rfl
theorem e71_2 : zE 71 d Q 2 [l0, l1, l2] (v0 :: zR (some r) :: st) G h k ↔ (zsum st ≤ 8 ∧ G.2.1 r = 7 ∧ zRunD ztb zmt' d 98 [zR (some r), v0] G h (fun v G' h' => zE 71 d Q 5 [l0, l1, l2] (v.toList ++ st) G' h' k)) := E_invV2z (by rfl) (by decide) rfl
theorem e71_5 : zE 71 d Q 5 [l0, l1, l2] (zI x :: st) G h k ↔ ((x = 0 → zE 71 d Q 16 [l0, l1, l2] st G h k) ∧ (¬ (x = 0) → zE 71 d Q 8 [l0, l1, l2] st G h k)) := E_if_eq (by rfl)
theorem e71_8 : zE 71 d Q 8 [some (.inr (.inr w9)), l1, l2] st G h k ↔ zE 71 d Q 9 [some (.inr (.inr w9)), l1, l2] (.inr (.inr w9) :: st) G h k := E_aload_n (by rfl) rfl
theorem e71_9 : zE 71 d Q 9 [l0, l1, some (zI x)] st G h k ↔ zE 71 d Q 10 [l0, l1, some (zI x)] (zI x :: st) G h k := E_iload_n (by rfl) rfl
theorem e71_10 : zE 71 d Q 10 [l0, l1, l2] (v0 :: zR (some r) :: st) G h k ↔ (zsum st ≤ 8 ∧ G.2.1 r = 7 ∧ zRunD ztb zmt' d 99 [zR (some r), v0] G h (fun v G' h' => zE 71 d Q 13 [l0, l1, l2] (v.toList ++ st) G' h' k)) := E_invV2z (by rfl) (by decide) rfl
theorem e71_13 : zE 71 d Q 13 [l0, l1, l2] (zI x :: st) G h k ↔ ((¬ x = 0 → zE 71 d Q 23 [l0, l1, l2] st G h k) ∧ (¬ (¬ x = 0) → zE 71 d Q 16 [l0, l1, l2] st G h k)) := E_if_ne (by rfl)
theorem e71_16 : zE 71 d Q 16 [some (.inr (.inr w9)), l1, l2] st G h k ↔ zE 71 d Q 17 [some (.inr (.inr w9)), l1, l2] (.inr (.inr w9) :: st) G h k := E_aload_n (by rfl) rfl
theorem e71_17 : zE 71 d Q 17 [l0, l1, l2] st G h k ↔ zE 71 d Q 18 [l0, l1, l2] (zI 1 :: st) G h k := E_iconst (by rfl)
theorem e71_18 : zE 71 d Q 18 [l0, l1, l2] (zI x :: zR (some r) :: st) G h k ↔ (G.2.1 r = 7 ∧ zE 71 d Q 21 [l0, l1, l2] st G (zu h r 11 x) k) := E_putI (by rfl) rfl
theorem e71_21 : zE 71 d Q 21 [l0, l1, l2] st G h k ↔ zE 71 d Q 22 [l0, l1, l2] (zI (-1) :: st) G h k := E_iconst (by rfl)
theorem e71_22 : zE 71 d Q 22 [l0, l1, l2] [zI x] G h k ↔ Q (some (zI x)) G h := E_iret (by rfl) rfl
theorem e71_23 : zE 71 d Q 23 [some (.inr (.inr w9)), l1, l2] st G h k ↔ zE 71 d Q 24 [some (.inr (.inr w9)), l1, l2] (.inr (.inr w9) :: st) G h k := E_aload_n (by rfl) rfl
theorem e71_24 : zE 71 d Q 24 [l0, l1, l2] st G h k ↔ zE 71 d Q 25 [l0, l1, l2] (zI 0 :: st) G h k := E_iconst (by rfl)
theorem e71_25 : zE 71 d Q 25 [l0, l1, l2] (zI x :: zR (some r) :: st) G h k ↔ (G.2.1 r = 7 ∧ zE 71 d Q 28 [l0, l1, l2] st G (zu h r 11 x) k) := E_putI (by rfl) rfl
theorem e71_28 : zE 71 d Q 28 [some (.inr (.inr w9)), l1, l2] st G h k ↔ zE 71 d Q 29 [some (.inr (.inr w9)), l1, l2] (.inr (.inr w9) :: st) G h k := E_aload_n (by rfl) rfl
theorem e71_29 : zE 71 d Q 29 [l0, l1, l2] (zR (some r) :: st) G h k ↔ (G.2.1 r = 7 ∧ zE 71 d Q 32 [l0, l1, l2] (zR (G.2.2.2 r 7) :: st) G h k) := E_getR (by rfl) rfl
theorem e71_32 : zE 71 d Q 32 [l0, l1, l2] (zR (some r) :: st) G h k ↔ (G.2.1 r = 0 ∧ zE 71 d Q 35 [l0, l1, l2] (zR (G.2.2.2 r 1) :: st) G h k) := E_getR (by rfl) rfl
theorem e71_35 : zE 71 d Q 35 [some (.inr (.inr w9)), l1, l2] st G h k ↔ zE 71 d Q 36 [some (.inr (.inr w9)), l1, l2] (.inr (.inr w9) :: st) G h k := E_aload_n (by rfl) rfl
theorem e71_36 : zE 71 d Q 36 [l0, l1, l2] (zR (some r) :: st) G h k ↔ (G.2.1 r = 7 ∧ zE 71 d Q 39 [l0, l1, l2] (zR (G.2.2.2 r 7) :: st) G h k) := E_getR (by rfl) rfl
theorem e71_39 : zE 71 d Q 39 [l0, some (zI x), l2] st G h k ↔ zE 71 d Q 40 [l0, some (zI x), l2] (zI x :: st) G h k := E_iload_n (by rfl) rfl
theorem e71_40 : zE 71 d Q 40 [l0, l1, some (zI x)] st G h k ↔ zE 71 d Q 41 [l0, l1, some (zI x)] (zI x :: st) G h k := E_iload_n (by rfl) rfl
theorem e71_41 : zE 71 d Q 41 [l0, l1, l2] (v1 :: v0 :: zR (some r) :: st) G h k ↔ (zsum st ≤ 8 ∧ G.2.1 r = 0 ∧ zRunD ztb zmt' d 2 [zR (some r), v0, v1] G h (fun v G' h' => zE 71 d Q 44 [l0, l1, l2] (v.toList ++ st) G' h' k)) := E_invV2z (by rfl) (by decide) rfl
theorem e71_44 : zE 71 d Q 44 [l0, l1, l2] (zI i :: zR (some r) :: st) G h k ↔ (G.2.1 r = 10 ∧ (0 ≤ i ∧ i < G.2.2.1 r) ∧ zE 71 d Q 45 [l0, l1, l2] (zI (h r i.toNat) :: st) G h k) := E_iaload (by rfl)
theorem e71_45 : zE 71 d Q 45 [l0, l1, l2] [zI x] G h k ↔ Q (some (zI x)) G h := E_iret (by rfl) rfl
theorem e72_0 : zE 72 d Q 0 [some (.inr (.inr w9)), l1, l2] st G h k ↔ zE 72 d Q 1 [some (.inr (.inr w9)), l1, l2] (.inr (.inr w9) :: st) G h k := E_aload_n (by rfl) rfl
theorem e72_1 : zE 72 d Q 1 [l0, some (zI x), l2] st G h k ↔ zE 72 d Q 2 [l0, some (zI x), l2] (zI x :: st) G h k := E_iload_n (by rfl) rfl
theorem e72_2 : zE 72 d Q 2 [l0, l1, l2] (v0 :: zR (some r) :: st) G h k ↔ (zsum st ≤ 8 ∧ G.2.1 r = 7 ∧ zRunD ztb zmt' d 98 [zR (some r), v0] G h (fun v G' h' => zE 72 d Q 5 [l0, l1, l2] (v.toList ++ st) G' h' k)) := E_invV2z (by rfl) (by decide) rfl
theorem e72_5 : zE 72 d Q 5 [l0, l1, l2] (zI x :: st) G h k ↔ ((x = 0 → zE 72 d Q 23 [l0, l1, l2] st G h k) ∧ (¬ (x = 0) → zE 72 d Q 8 [l0, l1, l2] st G h k)) := E_if_eq (by rfl)
theorem e72_8 : zE 72 d Q 8 [l0, l1, some (zI x)] st G h k ↔ zE 72 d Q 9 [l0, l1, some (zI x)] (zI x :: st) G h k := E_iload_n (by rfl) rfl
theorem e72_9 : zE 72 d Q 9 [l0, l1, l2] (zI x :: st) G h k ↔ ((x < 0 → zE 72 d Q 23 [l0, l1, l2] st G h k) ∧ (¬ (x < 0) → zE 72 d Q 12 [l0, l1, l2] st G h k)) := E_if_lt (by rfl)
theorem e72_12 : zE 72 d Q 12 [l0, l1, some (zI x)] st G h k ↔ zE 72 d Q 13 [l0, l1, some (zI x)] (zI x :: st) G h k := E_iload_n (by rfl) rfl
theorem e72_13 : zE 72 d Q 13 [some (.inr (.inr w9)), l1, l2] st G h k ↔ zE 72 d Q 14 [some (.inr (.inr w9)), l1, l2] (.inr (.inr w9) :: st) G h k := E_aload_n (by rfl) rfl
theorem e72_14 : zE 72 d Q 14 [l0, l1, l2] (zR (some r) :: st) G h k ↔ (G.2.1 r = 7 ∧ zE 72 d Q 17 [l0, l1, l2] (zR (G.2.2.2 r 7) :: st) G h k) := E_getR (by rfl) rfl
theorem e72_17 : zE 72 d Q 17 [l0, l1, l2] (zR (some r) :: st) G h k ↔ (G.2.1 r = 0 ∧ zE 72 d Q 20 [l0, l1, l2] (zI (h r 0) :: st) G h k) := E_getI (by rfl) (by decide)
theorem e72_20 : zE 72 d Q 20 [l0, l1, l2] (zI y :: zI x :: st) G h k ↔ ((x < y → zE 72 d Q 32 [l0, l1, l2] st G h k) ∧ (¬ (x < y) → zE 72 d Q 23 [l0, l1, l2] st G h k)) := E_icmp_lt (by rfl)
theorem e72_23 : zE 72 d Q 23 [some (.inr (.inr w9)), l1, l2] st G h k ↔ zE 72 d Q 24 [some (.inr (.inr w9)), l1, l2] (.inr (.inr w9) :: st) G h k := E_aload_n (by rfl) rfl
theorem e72_24 : zE 72 d Q 24 [l0, l1, l2] st G h k ↔ zE 72 d Q 25 [l0, l1, l2] (zI 1 :: st) G h k := E_iconst (by rfl)
theorem e72_25 : zE 72 d Q 25 [l0, l1, l2] (zI x :: zR (some r) :: st) G h k ↔ (G.2.1 r = 7 ∧ zE 72 d Q 28 [l0, l1, l2] st G (zu h r 11 x) k) := E_putI (by rfl) rfl
theorem e72_28 : zE 72 d Q 28 [l0, l1, l2] st G h k ↔ zE 72 d Q 31 [l0, l1, l2] (zL (-9223372036854775808) :: st) G h k := E_ldc2_w (by rfl)
theorem e72_31 : zE 72 d Q 31 [l0, l1, l2] [zL x] G h k ↔ Q (some (zL x)) G h := E_lret (by rfl) rfl
theorem e72_32 : zE 72 d Q 32 [some (.inr (.inr w9)), l1, l2] st G h k ↔ zE 72 d Q 33 [some (.inr (.inr w9)), l1, l2] (.inr (.inr w9) :: st) G h k := E_aload_n (by rfl) rfl
theorem e72_33 : zE 72 d Q 33 [l0, l1, l2] st G h k ↔ zE 72 d Q 34 [l0, l1, l2] (zI 0 :: st) G h k := E_iconst (by rfl)
theorem e72_34 : zE 72 d Q 34 [l0, l1, l2] (zI x :: zR (some r) :: st) G h k ↔ (G.2.1 r = 7 ∧ zE 72 d Q 37 [l0, l1, l2] st G (zu h r 11 x) k) := E_putI (by rfl) rfl
theorem e72_37 : zE 72 d Q 37 [some (.inr (.inr w9)), l1, l2] st G h k ↔ zE 72 d Q 38 [some (.inr (.inr w9)), l1, l2] (.inr (.inr w9) :: st) G h k := E_aload_n (by rfl) rfl
theorem e72_38 : zE 72 d Q 38 [l0, l1, l2] (zR (some r) :: st) G h k ↔ (G.2.1 r = 7 ∧ zE 72 d Q 41 [l0, l1, l2] (zR (G.2.2.2 r 7) :: st) G h k) := E_getR (by rfl) rfl
theorem e72_41 : zE 72 d Q 41 [l0, l1, l2] (zR (some r) :: st) G h k ↔ (G.2.1 r = 0 ∧ zE 72 d Q 44 [l0, l1, l2] (zR (G.2.2.2 r 5) :: st) G h k) := E_getR (by rfl) rfl
theorem e72_44 : zE 72 d Q 44 [l0, l1, some (zI x)] st G h k ↔ zE 72 d Q 45 [l0, l1, some (zI x)] (zI x :: st) G h k := E_iload_n (by rfl) rfl
theorem e72_45 : zE 72 d Q 45 [l0, l1, l2] st G h k ↔ zE 72 d Q 46 [l0, l1, l2] (zI 3 :: st) G h k := E_iconst (by rfl)
theorem e72_46 : zE 72 d Q 46 [l0, l1, l2] (zI y :: zI x :: st) G h k ↔ zE 72 d Q 47 [l0, l1, l2] (zI (wr (x * y)) :: st) G h k := E_imul (by rfl)
theorem e72_47 : zE 72 d Q 47 [l0, some (zI x), l2] st G h k ↔ zE 72 d Q 48 [l0, some (zI x), l2] (zI x :: st) G h k := E_iload_n (by rfl) rfl
theorem e72_48 : zE 72 d Q 48 [l0, l1, l2] (zI y :: zI x :: st) G h k ↔ zE 72 d Q 49 [l0, l1, l2] (zI (wr (x + y)) :: st) G h k := E_iadd (by rfl)
theorem e72_49 : zE 72 d Q 49 [l0, l1, l2] (zI i :: zR (some r) :: st) G h k ↔ (G.2.1 r = 11 ∧ (0 ≤ i ∧ i < G.2.2.1 r) ∧ zE 72 d Q 50 [l0, l1, l2] (zL (h r i.toNat) :: st) G h k) := E_laload (by rfl)
theorem e72_50 : zE 72 d Q 50 [l0, l1, l2] [zL x] G h k ↔ Q (some (zL x)) G h := E_lret (by rfl) rfl
theorem e73_0 : zE 73 d Q 0 [some (.inr (.inr w9)), l1, l2, l3] st G h k ↔ zE 73 d Q 1 [some (.inr (.inr w9)), l1, l2, l3] (.inr (.inr w9) :: st) G h k := E_aload_n (by rfl) rfl
theorem e73_1 : zE 73 d Q 1 [some (.inr (.inr w9)), l1, l2, l3] st G h k ↔ zE 73 d Q 2 [some (.inr (.inr w9)), l1, l2, l3] (.inr (.inr w9) :: st) G h k := E_aload_n (by rfl) rfl
theorem e73_2 : zE 73 d Q 2 [l0, l1, l2, l3] (zR (some r) :: st) G h k ↔ (zsum st ≤ 8 ∧ G.2.1 r = 7 ∧ zRunD ztb zmt' d 97 [zR (some r)] G h (fun v G' h' => zE 73 d Q 5 [l0, l1, l2, l3] (v.toList ++ st) G' h' k)) := E_invV2z (by rfl) (by decide) rfl
theorem e73_5 : zE 73 d Q 5 [l0, l1, l2, l3] (zI x :: st) G h k ↔ ((x = 0 → zE 73 d Q 17 [l0, l1, l2, l3] st G h k) ∧ (¬ (x = 0) → zE 73 d Q 8 [l0, l1, l2, l3] st G h k)) := E_if_eq (by rfl)
theorem e73_8 : zE 73 d Q 8 [some (.inr (.inr w9)), l1, l2, l3] st G h k ↔ zE 73 d Q 9 [some (.inr (.inr w9)), l1, l2, l3] (.inr (.inr w9) :: st) G h k := E_aload_n (by rfl) rfl
theorem e73_9 : zE 73 d Q 9 [l0, some (zI x), l2, l3] st G h k ↔ zE 73 d Q 10 [l0, some (zI x), l2, l3] (zI x :: st) G h k := E_iload_n (by rfl) rfl
theorem e73_10 : zE 73 d Q 10 [l0, l1, l2, l3] st G h k ↔ zE 73 d Q 11 [l0, l1, l2, l3] (zI 0 :: st) G h k := E_iconst (by rfl)
theorem e73_11 : zE 73 d Q 11 [l0, l1, l2, l3] (v1 :: v0 :: zR (some r) :: st) G h k ↔ (zsum st ≤ 8 ∧ G.2.1 r = 7 ∧ zRunD ztb zmt' d 104 [zR (some r), v0, v1] G h (fun v G' h' => zE 73 d Q 14 [l0, l1, l2, l3] (v.toList ++ st) G' h' k)) := E_invV2z (by rfl) (by decide) rfl
theorem e73_14 : zE 73 d Q 14 [l0, l1, l2, l3] st G h k ↔ zE 73 d Q 18 [l0, l1, l2, l3] st G h k := E_goto (by rfl)
theorem e73_17 : zE 73 d Q 17 [l0, l1, l2, l3] st G h k ↔ zE 73 d Q 18 [l0, l1, l2, l3] (zI 1 :: st) G h k := E_iconst (by rfl)
theorem e73_18 : zE 73 d Q 18 [l0, l1, l2, l3] (zI x :: zR (some r) :: st) G h k ↔ (G.2.1 r = 7 ∧ zE 73 d Q 21 [l0, l1, l2, l3] st G (zu h r 11 x) k) := E_putI (by rfl) rfl
theorem e73_21 : zE 73 d Q 21 [some (.inr (.inr w9)), l1, l2, l3] st G h k ↔ zE 73 d Q 22 [some (.inr (.inr w9)), l1, l2, l3] (.inr (.inr w9) :: st) G h k := E_aload_n (by rfl) rfl
theorem e73_22 : zE 73 d Q 22 [l0, l1, l2, l3] (zR (some r) :: st) G h k ↔ (G.2.1 r = 7 ∧ zE 73 d Q 25 [l0, l1, l2, l3] (zI (h r 11) :: st) G h k) := E_getI (by rfl) (by decide)
theorem e73_25 : zE 73 d Q 25 [l0, l1, l2, l3] (zI x :: st) G h k ↔ ((x = 0 → zE 73 d Q 30 [l0, l1, l2, l3] st G h k) ∧ (¬ (x = 0) → zE 73 d Q 28 [l0, l1, l2, l3] st G h k)) := E_if_eq (by rfl)
theorem e73_28 : zE 73 d Q 28 [l0, l1, l2, l3] st G h k ↔ zE 73 d Q 29 [l0, l1, l2, l3] (zI (-1) :: st) G h k := E_iconst (by rfl)
theorem e73_29 : zE 73 d Q 29 [l0, l1, l2, l3] [zI x] G h k ↔ Q (some (zI x)) G h := E_iret (by rfl) rfl
theorem e73_30 : zE 73 d Q 30 [some (.inr (.inr w9)), l1, l2, l3] st G h k ↔ zE 73 d Q 31 [some (.inr (.inr w9)), l1, l2, l3] (.inr (.inr w9) :: st) G h k := E_aload_n (by rfl) rfl
theorem e73_31 : zE 73 d Q 31 [l0, l1, l2, l3] st G h k ↔ zE 73 d Q 32 [l0, l1, l2, l3] (zI 0 :: st) G h k := E_iconst (by rfl)
theorem e73_32 : zE 73 d Q 32 [l0, some (zI x), l2, l3] st G h k ↔ zE 73 d Q 33 [l0, some (zI x), l2, l3] (zI x :: st) G h k := E_iload_n (by rfl) rfl
theorem e73_33 : zE 73 d Q 33 [l0, l1, l2, l3] (v1 :: v0 :: zR (some r) :: st) G h k ↔ (zsum st ≤ 8 ∧ G.2.1 r = 7 ∧ zRunD ztb zmt' d 108 [zR (some r), v0, v1] G h (fun v G' h' => zE 73 d Q 36 [l0, l1, l2, l3] (v.toList ++ st) G' h' k)) := E_invV2z (by rfl) (by decide) rfl
theorem e73_36 : zE 73 d Q 36 [some (.inr (.inr w9)), l1, l2, l3] st G h k ↔ zE 73 d Q 37 [some (.inr (.inr w9)), l1, l2, l3] (.inr (.inr w9) :: st) G h k := E_aload_n (by rfl) rfl
theorem e73_37 : zE 73 d Q 37 [l0, l1, l2, l3] (zR (some r) :: st) G h k ↔ (G.2.1 r = 7 ∧ zE 73 d Q 40 [l0, l1, l2, l3] (zR (G.2.2.2 r 9) :: st) G h k) := E_getR (by rfl) rfl
theorem e73_40 : zE 73 d Q 40 [l0, some (zI x), l2, l3] st G h k ↔ zE 73 d Q 41 [l0, some (zI x), l2, l3] (zI x :: st) G h k := E_iload_n (by rfl) rfl
theorem e73_41 : zE 73 d Q 41 [l0, l1, l2, l3] (v0 :: zR (some r) :: st) G h k ↔ (zsum st ≤ 8 ∧ G.2.1 r = 4 ∧ zRunD ztb zmt' d 35 [zR (some r), v0] G h (fun v G' h' => zE 73 d Q 44 [l0, l1, l2, l3] (v.toList ++ st) G' h' k)) := E_invV2z (by rfl) (by decide) rfl
theorem e73_44 : zE 73 d Q 44 [some (.inr (.inr w9)), l1, l2, l3] st G h k ↔ zE 73 d Q 45 [some (.inr (.inr w9)), l1, l2, l3] (.inr (.inr w9) :: st) G h k := E_aload_n (by rfl) rfl
theorem e73_45 : zE 73 d Q 45 [l0, l1, l2, l3] (zR (some r) :: st) G h k ↔ (G.2.1 r = 7 ∧ zE 73 d Q 48 [l0, l1, l2, l3] (zR (G.2.2.2 r 9) :: st) G h k) := E_getR (by rfl) rfl
theorem e73_48 : zE 73 d Q 48 [l0, some (zI x), l2, l3] st G h k ↔ zE 73 d Q 49 [l0, some (zI x), l2, l3] (zI x :: st) G h k := E_iload_n (by rfl) rfl
theorem e73_49 : zE 73 d Q 49 [l0, l1, l2, l3] (v0 :: zR (some r) :: st) G h k ↔ (zsum st ≤ 8 ∧ G.2.1 r = 4 ∧ zRunD ztb zmt' d 40 [zR (some r), v0] G h (fun v G' h' => zE 73 d Q 52 [l0, l1, l2, l3] (v.toList ++ st) G' h' k)) := E_invV2z (by rfl) (by decide) rfl
theorem e73_52 : zE 73 d Q 52 [l0, l1, l2, l3] (zI x :: st) G h k ↔ zE 73 d Q 53 [l0, (zclr l1), some (zI x), l3] st G h k := E_istore_n (by rfl) (by decide)
theorem e73_53 : zE 73 d Q 53 [l0, l1, l2, l3] st G h k ↔ zE 73 d Q 54 [l0, l1, l2, l3] (zI 0 :: st) G h k := E_iconst (by rfl)
theorem e73_54 : zE 73 d Q 54 [l0, l1, l2, l3] (zI x :: st) G h k ↔ zE 73 d Q 55 [l0, l1, (zclr l2), some (zI x)] st G h k := E_istore_n (by rfl) (by decide)
theorem e73_55 : zE 73 d Q 55 [l0, l1, l2, some (zI x)] st G h k ↔ zE 73 d Q 56 [l0, l1, l2, some (zI x)] (zI x :: st) G h k := E_iload_n (by rfl) rfl
theorem e73_56 : zE 73 d Q 56 [some (.inr (.inr w9)), l1, l2, l3] st G h k ↔ zE 73 d Q 57 [some (.inr (.inr w9)), l1, l2, l3] (.inr (.inr w9) :: st) G h k := E_aload_n (by rfl) rfl
theorem e73_57 : zE 73 d Q 57 [l0, l1, l2, l3] (zR (some r) :: st) G h k ↔ (G.2.1 r = 7 ∧ zE 73 d Q 60 [l0, l1, l2, l3] (zR (G.2.2.2 r 6) :: st) G h k) := E_getR (by rfl) rfl
theorem e73_60 : zE 73 d Q 60 [l0, l1, l2, l3] (zR (some r) :: st) G h k ↔ (G.2.1 r = 5 ∧ zE 73 d Q 63 [l0, l1, l2, l3] (zI (h r 9) :: st) G h k) := E_getI (by rfl) (by decide)
theorem e73_63 : zE 73 d Q 63 [l0, l1, l2, l3] (zI y :: zI x :: st) G h k ↔ ((y ≤ x → zE 73 d Q 142 [l0, l1, l2, l3] st G h k) ∧ (¬ (y ≤ x) → zE 73 d Q 66 [l0, l1, l2, l3] st G h k)) := E_icmp_ge (by rfl)
theorem e73_66 : zE 73 d Q 66 [some (.inr (.inr w9)), l1, l2, l3] st G h k ↔ zE 73 d Q 67 [some (.inr (.inr w9)), l1, l2, l3] (.inr (.inr w9) :: st) G h k := E_aload_n (by rfl) rfl
theorem e73_67 : zE 73 d Q 67 [l0, l1, l2, l3] (zR (some r) :: st) G h k ↔ (G.2.1 r = 7 ∧ zE 73 d Q 70 [l0, l1, l2, l3] (zR (G.2.2.2 r 10) :: st) G h k) := E_getR (by rfl) rfl
theorem e73_70 : zE 73 d Q 70 [l0, l1, l2, l3] (zR (some r) :: st) G h k ↔ (G.2.1 r = 2 ∧ zE 73 d Q 73 [l0, l1, l2, l3] (zR (G.2.2.2 r 1) :: st) G h k) := E_getR (by rfl) rfl
theorem e73_73 : zE 73 d Q 73 [l0, l1, l2, some (zI x)] st G h k ↔ zE 73 d Q 74 [l0, l1, l2, some (zI x)] (zI x :: st) G h k := E_iload_n (by rfl) rfl
theorem e73_74 : zE 73 d Q 74 [some (.inr (.inr w9)), l1, l2, l3] st G h k ↔ zE 73 d Q 75 [some (.inr (.inr w9)), l1, l2, l3] (.inr (.inr w9) :: st) G h k := E_aload_n (by rfl) rfl
theorem e73_75 : zE 73 d Q 75 [l0, l1, l2, l3] (zR (some r) :: st) G h k ↔ (G.2.1 r = 7 ∧ zE 73 d Q 78 [l0, l1, l2, l3] (zR (G.2.2.2 r 6) :: st) G h k) := E_getR (by rfl) rfl
theorem e73_78 : zE 73 d Q 78 [some (.inr (.inr w9)), l1, l2, l3] st G h k ↔ zE 73 d Q 79 [some (.inr (.inr w9)), l1, l2, l3] (.inr (.inr w9) :: st) G h k := E_aload_n (by rfl) rfl
theorem e73_79 : zE 73 d Q 79 [l0, l1, l2, l3] (zR (some r) :: st) G h k ↔ (G.2.1 r = 7 ∧ zE 73 d Q 82 [l0, l1, l2, l3] (zR (G.2.2.2 r 9) :: st) G h k) := E_getR (by rfl) rfl
theorem e73_82 : zE 73 d Q 82 [l0, l1, some (zI x), l3] st G h k ↔ zE 73 d Q 83 [l0, l1, some (zI x), l3] (zI x :: st) G h k := E_iload_n (by rfl) rfl
theorem e73_83 : zE 73 d Q 83 [l0, l1, l2, some (zI x)] st G h k ↔ zE 73 d Q 84 [l0, l1, l2, some (zI x)] (zI x :: st) G h k := E_iload_n (by rfl) rfl
theorem e73_84 : zE 73 d Q 84 [l0, l1, l2, l3] (v1 :: v0 :: zR (some r) :: st) G h k ↔ (zsum st ≤ 8 ∧ G.2.1 r = 4 ∧ zRunD ztb zmt' d 38 [zR (some r), v0, v1] G h (fun v G' h' => zE 73 d Q 87 [l0, l1, l2, l3] (v.toList ++ st) G' h' k)) := E_invV2z (by rfl) (by decide) rfl
theorem e73_87 : zE 73 d Q 87 [l0, l1, l2, l3] (v0 :: zR (some r) :: st) G h k ↔ (zsum st ≤ 8 ∧ G.2.1 r = 5 ∧ zRunD ztb zmt' d 49 [zR (some r), v0] G h (fun v G' h' => zE 73 d Q 90 [l0, l1, l2, l3] (v.toList ++ st) G' h' k)) := E_invV2z (by rfl) (by decide) rfl
theorem e73_90 : zE 73 d Q 90 [l0, l1, l2, l3] (zI x :: zI i :: zR (some r) :: st) G h k ↔ (G.2.1 r = 10 ∧ (0 ≤ i ∧ i < G.2.2.1 r) ∧ zE 73 d Q 91 [l0, l1, l2, l3] st G (zu h r i.toNat x) k) := E_iastore (by rfl)
theorem e73_91 : zE 73 d Q 91 [some (.inr (.inr w9)), l1, l2, l3] st G h k ↔ zE 73 d Q 92 [some (.inr (.inr w9)), l1, l2, l3] (.inr (.inr w9) :: st) G h k := E_aload_n (by rfl) rfl
theorem e73_92 : zE 73 d Q 92 [l0, l1, l2, l3] (zR (some r) :: st) G h k ↔ (G.2.1 r = 7 ∧ zE 73 d Q 95 [l0, l1, l2, l3] (zR (G.2.2.2 r 10) :: st) G h k) := E_getR (by rfl) rfl
theorem e73_95 : zE 73 d Q 95 [l0, l1, l2, l3] (zR (some r) :: st) G h k ↔ (G.2.1 r = 2 ∧ zE 73 d Q 98 [l0, l1, l2, l3] (zR (G.2.2.2 r 2) :: st) G h k) := E_getR (by rfl) rfl
theorem e73_98 : zE 73 d Q 98 [l0, l1, l2, some (zI x)] st G h k ↔ zE 73 d Q 99 [l0, l1, l2, some (zI x)] (zI x :: st) G h k := E_iload_n (by rfl) rfl
theorem e73_99 : zE 73 d Q 99 [some (.inr (.inr w9)), l1, l2, l3] st G h k ↔ zE 73 d Q 100 [some (.inr (.inr w9)), l1, l2, l3] (.inr (.inr w9) :: st) G h k := E_aload_n (by rfl) rfl
theorem e73_100 : zE 73 d Q 100 [l0, l1, l2, l3] (zR (some r) :: st) G h k ↔ (G.2.1 r = 7 ∧ zE 73 d Q 103 [l0, l1, l2, l3] (zR (G.2.2.2 r 6) :: st) G h k) := E_getR (by rfl) rfl
theorem e73_103 : zE 73 d Q 103 [some (.inr (.inr w9)), l1, l2, l3] st G h k ↔ zE 73 d Q 104 [some (.inr (.inr w9)), l1, l2, l3] (.inr (.inr w9) :: st) G h k := E_aload_n (by rfl) rfl
theorem e73_104 : zE 73 d Q 104 [l0, l1, l2, l3] (zR (some r) :: st) G h k ↔ (G.2.1 r = 7 ∧ zE 73 d Q 107 [l0, l1, l2, l3] (zR (G.2.2.2 r 9) :: st) G h k) := E_getR (by rfl) rfl
theorem e73_107 : zE 73 d Q 107 [l0, l1, some (zI x), l3] st G h k ↔ zE 73 d Q 108 [l0, l1, some (zI x), l3] (zI x :: st) G h k := E_iload_n (by rfl) rfl
theorem e73_108 : zE 73 d Q 108 [l0, l1, l2, some (zI x)] st G h k ↔ zE 73 d Q 109 [l0, l1, l2, some (zI x)] (zI x :: st) G h k := E_iload_n (by rfl) rfl
theorem e73_109 : zE 73 d Q 109 [l0, l1, l2, l3] (v1 :: v0 :: zR (some r) :: st) G h k ↔ (zsum st ≤ 8 ∧ G.2.1 r = 4 ∧ zRunD ztb zmt' d 38 [zR (some r), v0, v1] G h (fun v G' h' => zE 73 d Q 112 [l0, l1, l2, l3] (v.toList ++ st) G' h' k)) := E_invV2z (by rfl) (by decide) rfl
theorem e73_112 : zE 73 d Q 112 [l0, l1, l2, l3] (v0 :: zR (some r) :: st) G h k ↔ (zsum st ≤ 8 ∧ G.2.1 r = 5 ∧ zRunD ztb zmt' d 50 [zR (some r), v0] G h (fun v G' h' => zE 73 d Q 115 [l0, l1, l2, l3] (v.toList ++ st) G' h' k)) := E_invV2z (by rfl) (by decide) rfl
theorem e73_115 : zE 73 d Q 115 [l0, l1, l2, l3] (zI x :: zI i :: zR (some r) :: st) G h k ↔ (G.2.1 r = 10 ∧ (0 ≤ i ∧ i < G.2.2.1 r) ∧ zE 73 d Q 116 [l0, l1, l2, l3] st G (zu h r i.toNat x) k) := E_iastore (by rfl)
theorem e73_116 : zE 73 d Q 116 [some (.inr (.inr w9)), l1, l2, l3] st G h k ↔ zE 73 d Q 117 [some (.inr (.inr w9)), l1, l2, l3] (.inr (.inr w9) :: st) G h k := E_aload_n (by rfl) rfl
theorem e73_117 : zE 73 d Q 117 [l0, l1, l2, l3] (zR (some r) :: st) G h k ↔ (G.2.1 r = 7 ∧ zE 73 d Q 120 [l0, l1, l2, l3] (zR (G.2.2.2 r 10) :: st) G h k) := E_getR (by rfl) rfl
theorem e73_120 : zE 73 d Q 120 [l0, l1, l2, l3] (zR (some r) :: st) G h k ↔ (G.2.1 r = 2 ∧ zE 73 d Q 123 [l0, l1, l2, l3] (zR (G.2.2.2 r 3) :: st) G h k) := E_getR (by rfl) rfl
theorem e73_123 : zE 73 d Q 123 [l0, l1, l2, some (zI x)] st G h k ↔ zE 73 d Q 124 [l0, l1, l2, some (zI x)] (zI x :: st) G h k := E_iload_n (by rfl) rfl
theorem e73_124 : zE 73 d Q 124 [some (.inr (.inr w9)), l1, l2, l3] st G h k ↔ zE 73 d Q 125 [some (.inr (.inr w9)), l1, l2, l3] (.inr (.inr w9) :: st) G h k := E_aload_n (by rfl) rfl
theorem e73_125 : zE 73 d Q 125 [l0, l1, l2, l3] (zR (some r) :: st) G h k ↔ (G.2.1 r = 7 ∧ zE 73 d Q 128 [l0, l1, l2, l3] (zR (G.2.2.2 r 9) :: st) G h k) := E_getR (by rfl) rfl
theorem e73_128 : zE 73 d Q 128 [l0, l1, l2, l3] (zR (some r) :: st) G h k ↔ (G.2.1 r = 4 ∧ zE 73 d Q 131 [l0, l1, l2, l3] (zR (G.2.2.2 r 11) :: st) G h k) := E_getR (by rfl) rfl
theorem e73_131 : zE 73 d Q 131 [l0, some (zI x), l2, l3] st G h k ↔ zE 73 d Q 132 [l0, some (zI x), l2, l3] (zI x :: st) G h k := E_iload_n (by rfl) rfl
theorem e73_132 : zE 73 d Q 132 [l0, l1, l2, l3] (zI i :: zR (some r) :: st) G h k ↔ (G.2.1 r = 15 ∧ (0 ≤ i ∧ i < G.2.2.1 r) ∧ zE 73 d Q 133 [l0, l1, l2, l3] (zR (G.2.2.2 r i.toNat) :: st) G h k) := E_aaload (by rfl) (by decide)
theorem e73_133 : zE 73 d Q 133 [l0, l1, l2, some (zI x)] st G h k ↔ zE 73 d Q 134 [l0, l1, l2, some (zI x)] (zI x :: st) G h k := E_iload_n (by rfl) rfl
theorem e73_134 : zE 73 d Q 134 [l0, l1, l2, l3] (zI i :: zR (some r) :: st) G h k ↔ (G.2.1 r = 11 ∧ (0 ≤ i ∧ i < G.2.2.1 r) ∧ zE 73 d Q 135 [l0, l1, l2, l3] (zL (h r i.toNat) :: st) G h k) := E_laload (by rfl)
theorem e73_135 : zE 73 d Q 135 [l0, l1, l2, l3] (zL x :: zI i :: zR (some r) :: st) G h k ↔ (G.2.1 r = 11 ∧ (0 ≤ i ∧ i < G.2.2.1 r) ∧ zE 73 d Q 136 [l0, l1, l2, l3] st G (zu h r i.toNat x) k) := E_lastore (by rfl)
theorem e73_136 : zE 73 d Q 136 [l0, l1, l2, some (zI x)] st G h k ↔ zE 73 d Q 139 [l0, l1, (zclr l2), some (zI (wr (x + 1)))] st G h k := E_iinc (by rfl) rfl
theorem e73_139 : zE 73 d Q 139 [l0, l1, l2, l3] st G h k ↔ zE 73 d Q 55 [l0, l1, l2, l3] st G h k := E_goto (by rfl)
theorem e73_142 : zE 73 d Q 142 [some (.inr (.inr w9)), l1, l2, l3] st G h k ↔ zE 73 d Q 143 [some (.inr (.inr w9)), l1, l2, l3] (.inr (.inr w9) :: st) G h k := E_aload_n (by rfl) rfl
theorem e73_143 : zE 73 d Q 143 [l0, l1, l2, l3] (zR (some r) :: st) G h k ↔ (G.2.1 r = 7 ∧ zE 73 d Q 146 [l0, l1, l2, l3] (zR (G.2.2.2 r 10) :: st) G h k) := E_getR (by rfl) rfl
theorem e73_146 : zE 73 d Q 146 [l0, l1, l2, l3] st G h k ↔ zE 73 d Q 147 [l0, l1, l2, l3] (zI 1 :: st) G h k := E_iconst (by rfl)
theorem e73_147 : zE 73 d Q 147 [l0, l1, l2, l3] (zI x :: zR (some r) :: st) G h k ↔ (G.2.1 r = 2 ∧ (x = 0 ∨ x = 1) ∧ zE 73 d Q 150 [l0, l1, l2, l3] st G (zu h r 0 x) k) := E_putZ (by rfl) rfl
theorem e73_150 : zE 73 d Q 150 [some (.inr (.inr w9)), l1, l2, l3] st G h k ↔ zE 73 d Q 151 [some (.inr (.inr w9)), l1, l2, l3] (.inr (.inr w9) :: st) G h k := E_aload_n (by rfl) rfl
theorem e73_151 : zE 73 d Q 151 [l0, l1, l2, l3] (zR (some r) :: st) G h k ↔ (G.2.1 r = 7 ∧ zE 73 d Q 154 [l0, l1, l2, l3] (zR (G.2.2.2 r 9) :: st) G h k) := E_getR (by rfl) rfl
theorem e73_154 : zE 73 d Q 154 [l0, l1, l2, l3] (zR (some r) :: st) G h k ↔ (G.2.1 r = 4 ∧ zE 73 d Q 157 [l0, l1, l2, l3] (zI (h r 14) :: st) G h k) := E_getI (by rfl) (by decide)
theorem e73_157 : zE 73 d Q 157 [l0, l1, l2, l3] (zI x :: st) G h k ↔ ((x = 0 → zE 73 d Q 164 [l0, l1, l2, l3] st G h k) ∧ (¬ (x = 0) → zE 73 d Q 160 [l0, l1, l2, l3] st G h k)) := E_if_eq (by rfl)
theorem e73_160 : zE 73 d Q 160 [l0, l1, l2, l3] st G h k ↔ zE 73 d Q 161 [l0, l1, l2, l3] (zI 1 :: st) G h k := E_iconst (by rfl)
theorem e73_161 : zE 73 d Q 161 [l0, l1, l2, l3] st G h k ↔ zE 73 d Q 165 [l0, l1, l2, l3] st G h k := E_goto (by rfl)
theorem e73_164 : zE 73 d Q 164 [l0, l1, l2, l3] st G h k ↔ zE 73 d Q 165 [l0, l1, l2, l3] (zI 0 :: st) G h k := E_iconst (by rfl)
theorem e73_165 : zE 73 d Q 165 [l0, l1, l2, l3] [zI x] G h k ↔ Q (some (zI x)) G h := E_iret (by rfl) rfl
theorem e74_0 : zE 74 d Q 0 [some (.inr (.inr w9)), l1, l2] st G h k ↔ zE 74 d Q 1 [some (.inr (.inr w9)), l1, l2] (.inr (.inr w9) :: st) G h k := E_aload_n (by rfl) rfl
theorem e74_1 : zE 74 d Q 1 [some (.inr (.inr w9)), l1, l2] st G h k ↔ zE 74 d Q 2 [some (.inr (.inr w9)), l1, l2] (.inr (.inr w9) :: st) G h k := E_aload_n (by rfl) rfl
theorem e74_2 : zE 74 d Q 2 [l0, some (zI x), l2] st G h k ↔ zE 74 d Q 3 [l0, some (zI x), l2] (zI x :: st) G h k := E_iload_n (by rfl) rfl
theorem e74_3 : zE 74 d Q 3 [l0, l1, some (zI x)] st G h k ↔ zE 74 d Q 4 [l0, l1, some (zI x)] (zI x :: st) G h k := E_iload_n (by rfl) rfl
theorem e74_4 : zE 74 d Q 4 [l0, l1, l2] (v1 :: v0 :: zR (some r) :: st) G h k ↔ (zsum st ≤ 8 ∧ G.2.1 r = 7 ∧ zRunD ztb zmt' d 105 [zR (some r), v0, v1] G h (fun v G' h' => zE 74 d Q 7 [l0, l1, l2] (v.toList ++ st) G' h' k)) := E_invV2z (by rfl) (by decide) rfl
theorem e74_7 : zE 74 d Q 7 [l0, l1, l2] (zI x :: zR (some r) :: st) G h k ↔ (G.2.1 r = 7 ∧ zE 74 d Q 10 [l0, l1, l2] st G (zu h r 11 x) k) := E_putI (by rfl) rfl
theorem e74_10 : zE 74 d Q 10 [some (.inr (.inr w9)), l1, l2] st G h k ↔ zE 74 d Q 11 [some (.inr (.inr w9)), l1, l2] (.inr (.inr w9) :: st) G h k := E_aload_n (by rfl) rfl
theorem e74_11 : zE 74 d Q 11 [l0, l1, l2] (zR (some r) :: st) G h k ↔ (G.2.1 r = 7 ∧ zE 74 d Q 14 [l0, l1, l2] (zI (h r 11) :: st) G h k) := E_getI (by rfl) (by decide)
theorem e74_14 : zE 74 d Q 14 [l0, l1, l2] (zI x :: st) G h k ↔ ((x = 0 → zE 74 d Q 19 [l0, l1, l2] st G h k) ∧ (¬ (x = 0) → zE 74 d Q 17 [l0, l1, l2] st G h k)) := E_if_eq (by rfl)
theorem e74_17 : zE 74 d Q 17 [l0, l1, l2] st G h k ↔ zE 74 d Q 18 [l0, l1, l2] (zI (-1) :: st) G h k := E_iconst (by rfl)
theorem e74_18 : zE 74 d Q 18 [l0, l1, l2] [zI x] G h k ↔ Q (some (zI x)) G h := E_iret (by rfl) rfl
theorem e74_19 : zE 74 d Q 19 [l0, l1, some (zI x)] st G h k ↔ zE 74 d Q 20 [l0, l1, some (zI x)] (zI x :: st) G h k := E_iload_n (by rfl) rfl
theorem e74_20 : zE 74 d Q 20 [l0, l1, l2] (zI x :: st) G h k ↔ ((¬ x = 0 → zE 74 d Q 35 [l0, l1, l2] st G h k) ∧ (¬ (¬ x = 0) → zE 74 d Q 23 [l0, l1, l2] st G h k)) := E_if_ne (by rfl)
theorem e74_23 : zE 74 d Q 23 [some (.inr (.inr w9)), l1, l2] st G h k ↔ zE 74 d Q 24 [some (.inr (.inr w9)), l1, l2] (.inr (.inr w9) :: st) G h k := E_aload_n (by rfl) rfl
theorem e74_24 : zE 74 d Q 24 [l0, l1, l2] (zR (some r) :: st) G h k ↔ (G.2.1 r = 7 ∧ zE 74 d Q 27 [l0, l1, l2] (zR (G.2.2.2 r 10) :: st) G h k) := E_getR (by rfl) rfl
theorem e74_27 : zE 74 d Q 27 [l0, l1, l2] (zR (some r) :: st) G h k ↔ (G.2.1 r = 2 ∧ zE 74 d Q 30 [l0, l1, l2] (zR (G.2.2.2 r 1) :: st) G h k) := E_getR (by rfl) rfl
theorem e74_30 : zE 74 d Q 30 [l0, some (zI x), l2] st G h k ↔ zE 74 d Q 31 [l0, some (zI x), l2] (zI x :: st) G h k := E_iload_n (by rfl) rfl
theorem e74_31 : zE 74 d Q 31 [l0, l1, l2] (zI i :: zR (some r) :: st) G h k ↔ (G.2.1 r = 10 ∧ (0 ≤ i ∧ i < G.2.2.1 r) ∧ zE 74 d Q 32 [l0, l1, l2] (zI (h r i.toNat) :: st) G h k) := E_iaload (by rfl)
theorem e74_32 : zE 74 d Q 32 [l0, l1, l2] st G h k ↔ zE 74 d Q 44 [l0, l1, l2] st G h k := E_goto (by rfl)
theorem e74_35 : zE 74 d Q 35 [some (.inr (.inr w9)), l1, l2] st G h k ↔ zE 74 d Q 36 [some (.inr (.inr w9)), l1, l2] (.inr (.inr w9) :: st) G h k := E_aload_n (by rfl) rfl
theorem e74_36 : zE 74 d Q 36 [l0, l1, l2] (zR (some r) :: st) G h k ↔ (G.2.1 r = 7 ∧ zE 74 d Q 39 [l0, l1, l2] (zR (G.2.2.2 r 10) :: st) G h k) := E_getR (by rfl) rfl
theorem e74_39 : zE 74 d Q 39 [l0, l1, l2] (zR (some r) :: st) G h k ↔ (G.2.1 r = 2 ∧ zE 74 d Q 42 [l0, l1, l2] (zR (G.2.2.2 r 2) :: st) G h k) := E_getR (by rfl) rfl
theorem e74_42 : zE 74 d Q 42 [l0, some (zI x), l2] st G h k ↔ zE 74 d Q 43 [l0, some (zI x), l2] (zI x :: st) G h k := E_iload_n (by rfl) rfl
theorem e74_43 : zE 74 d Q 43 [l0, l1, l2] (zI i :: zR (some r) :: st) G h k ↔ (G.2.1 r = 10 ∧ (0 ≤ i ∧ i < G.2.2.1 r) ∧ zE 74 d Q 44 [l0, l1, l2] (zI (h r i.toNat) :: st) G h k) := E_iaload (by rfl)
theorem e74_44 : zE 74 d Q 44 [l0, l1, l2] [zI x] G h k ↔ Q (some (zI x)) G h := E_iret (by rfl) rfl
theorem e75_0 : zE 75 d Q 0 [some (.inr (.inr w9)), l1] st G h k ↔ zE 75 d Q 1 [some (.inr (.inr w9)), l1] (.inr (.inr w9) :: st) G h k := E_aload_n (by rfl) rfl
theorem e75_1 : zE 75 d Q 1 [some (.inr (.inr w9)), l1] st G h k ↔ zE 75 d Q 2 [some (.inr (.inr w9)), l1] (.inr (.inr w9) :: st) G h k := E_aload_n (by rfl) rfl
theorem e75_2 : zE 75 d Q 2 [l0, some (zI x)] st G h k ↔ zE 75 d Q 3 [l0, some (zI x)] (zI x :: st) G h k := E_iload_n (by rfl) rfl
theorem e75_3 : zE 75 d Q 3 [l0, l1] st G h k ↔ zE 75 d Q 4 [l0, l1] (zI 0 :: st) G h k := E_iconst (by rfl)
theorem e75_4 : zE 75 d Q 4 [l0, l1] (v1 :: v0 :: zR (some r) :: st) G h k ↔ (zsum st ≤ 8 ∧ G.2.1 r = 7 ∧ zRunD ztb zmt' d 105 [zR (some r), v0, v1] G h (fun v G' h' => zE 75 d Q 7 [l0, l1] (v.toList ++ st) G' h' k)) := E_invV2z (by rfl) (by decide) rfl
theorem e75_7 : zE 75 d Q 7 [l0, l1] (zI x :: zR (some r) :: st) G h k ↔ (G.2.1 r = 7 ∧ zE 75 d Q 10 [l0, l1] st G (zu h r 11 x) k) := E_putI (by rfl) rfl
theorem e75_10 : zE 75 d Q 10 [some (.inr (.inr w9)), l1] st G h k ↔ zE 75 d Q 11 [some (.inr (.inr w9)), l1] (.inr (.inr w9) :: st) G h k := E_aload_n (by rfl) rfl
theorem e75_11 : zE 75 d Q 11 [l0, l1] (zR (some r) :: st) G h k ↔ (G.2.1 r = 7 ∧ zE 75 d Q 14 [l0, l1] (zI (h r 11) :: st) G h k) := E_getI (by rfl) (by decide)
theorem e75_14 : zE 75 d Q 14 [l0, l1] (zI x :: st) G h k ↔ ((¬ x = 0 → zE 75 d Q 29 [l0, l1] st G h k) ∧ (¬ (¬ x = 0) → zE 75 d Q 17 [l0, l1] st G h k)) := E_if_ne (by rfl)
theorem e75_17 : zE 75 d Q 17 [some (.inr (.inr w9)), l1] st G h k ↔ zE 75 d Q 18 [some (.inr (.inr w9)), l1] (.inr (.inr w9) :: st) G h k := E_aload_n (by rfl) rfl
theorem e75_18 : zE 75 d Q 18 [l0, l1] (zR (some r) :: st) G h k ↔ (G.2.1 r = 7 ∧ zE 75 d Q 21 [l0, l1] (zR (G.2.2.2 r 10) :: st) G h k) := E_getR (by rfl) rfl
theorem e75_21 : zE 75 d Q 21 [l0, l1] (zR (some r) :: st) G h k ↔ (G.2.1 r = 2 ∧ zE 75 d Q 24 [l0, l1] (zR (G.2.2.2 r 3) :: st) G h k) := E_getR (by rfl) rfl
theorem e75_24 : zE 75 d Q 24 [l0, some (zI x)] st G h k ↔ zE 75 d Q 25 [l0, some (zI x)] (zI x :: st) G h k := E_iload_n (by rfl) rfl
theorem e75_25 : zE 75 d Q 25 [l0, l1] (zI i :: zR (some r) :: st) G h k ↔ (G.2.1 r = 11 ∧ (0 ≤ i ∧ i < G.2.2.1 r) ∧ zE 75 d Q 26 [l0, l1] (zL (h r i.toNat) :: st) G h k) := E_laload (by rfl)
theorem e75_26 : zE 75 d Q 26 [l0, l1] st G h k ↔ zE 75 d Q 32 [l0, l1] st G h k := E_goto (by rfl)
theorem e75_29 : zE 75 d Q 29 [l0, l1] st G h k ↔ zE 75 d Q 32 [l0, l1] (zL (-9223372036854775808) :: st) G h k := E_ldc2_w (by rfl)
theorem e75_32 : zE 75 d Q 32 [l0, l1] [zL x] G h k ↔ Q (some (zL x)) G h := E_lret (by rfl) rfl
theorem e76_0 : zE 76 d Q 0 [some (.inr (.inr w9)), l1, l2, l3, l4] st G h k ↔ zE 76 d Q 1 [some (.inr (.inr w9)), l1, l2, l3, l4] (.inr (.inr w9) :: st) G h k := E_aload_n (by rfl) rfl
theorem e76_1 : zE 76 d Q 1 [some (.inr (.inr w9)), l1, l2, l3, l4] st G h k ↔ zE 76 d Q 2 [some (.inr (.inr w9)), l1, l2, l3, l4] (.inr (.inr w9) :: st) G h k := E_aload_n (by rfl) rfl
theorem e76_2 : zE 76 d Q 2 [l0, some (zI x), l2, l3, l4] st G h k ↔ zE 76 d Q 3 [l0, some (zI x), l2, l3, l4] (zI x :: st) G h k := E_iload_n (by rfl) rfl
theorem e76_3 : zE 76 d Q 3 [l0, l1, l2, l3, l4] (v0 :: zR (some r) :: st) G h k ↔ (zsum st ≤ 8 ∧ G.2.1 r = 7 ∧ zRunD ztb zmt' d 98 [zR (some r), v0] G h (fun v G' h' => zE 76 d Q 6 [l0, l1, l2, l3, l4] (v.toList ++ st) G' h' k)) := E_invV2z (by rfl) (by decide) rfl
theorem e76_6 : zE 76 d Q 6 [l0, l1, l2, l3, l4] (zI x :: st) G h k ↔ ((x = 0 → zE 76 d Q 13 [l0, l1, l2, l3, l4] st G h k) ∧ (¬ (x = 0) → zE 76 d Q 9 [l0, l1, l2, l3, l4] st G h k)) := E_if_eq (by rfl)
theorem e76_9 : zE 76 d Q 9 [l0, l1, l2, l3, l4] st G h k ↔ zE 76 d Q 10 [l0, l1, l2, l3, l4] (zI 0 :: st) G h k := E_iconst (by rfl)
theorem e76_10 : zE 76 d Q 10 [l0, l1, l2, l3, l4] st G h k ↔ zE 76 d Q 14 [l0, l1, l2, l3, l4] st G h k := E_goto (by rfl)
theorem e76_13 : zE 76 d Q 13 [l0, l1, l2, l3, l4] st G h k ↔ zE 76 d Q 14 [l0, l1, l2, l3, l4] (zI 1 :: st) G h k := E_iconst (by rfl)
theorem e76_14 : zE 76 d Q 14 [l0, l1, l2, l3, l4] (zI x :: zR (some r) :: st) G h k ↔ (G.2.1 r = 7 ∧ zE 76 d Q 17 [l0, l1, l2, l3, l4] st G (zu h r 11 x) k) := E_putI (by rfl) rfl
theorem e76_17 : zE 76 d Q 17 [some (.inr (.inr w9)), l1, l2, l3, l4] st G h k ↔ zE 76 d Q 18 [some (.inr (.inr w9)), l1, l2, l3, l4] (.inr (.inr w9) :: st) G h k := E_aload_n (by rfl) rfl
theorem e76_18 : zE 76 d Q 18 [l0, l1, l2, l3, l4] (zR (some r) :: st) G h k ↔ (G.2.1 r = 7 ∧ zE 76 d Q 21 [l0, l1, l2, l3, l4] (zI (h r 11) :: st) G h k) := E_getI (by rfl) (by decide)
theorem e76_21 : zE 76 d Q 21 [l0, l1, l2, l3, l4] (zI x :: st) G h k ↔ ((x = 0 → zE 76 d Q 28 [l0, l1, l2, l3, l4] st G h k) ∧ (¬ (x = 0) → zE 76 d Q 24 [l0, l1, l2, l3, l4] st G h k)) := E_if_eq (by rfl)
theorem e76_24 : zE 76 d Q 24 [l0, l1, l2, l3, l4] st G h k ↔ zE 76 d Q 27 [l0, l1, l2, l3, l4] (zL (-9223372036854775808) :: st) G h k := E_ldc2_w (by rfl)
theorem e76_27 : zE 76 d Q 27 [l0, l1, l2, l3, l4] [zL x] G h k ↔ Q (some (zL x)) G h := E_lret (by rfl) rfl
theorem e76_28 : zE 76 d Q 28 [some (.inr (.inr w9)), l1, l2, l3, l4] st G h k ↔ zE 76 d Q 29 [some (.inr (.inr w9)), l1, l2, l3, l4] (.inr (.inr w9) :: st) G h k := E_aload_n (by rfl) rfl
theorem e76_29 : zE 76 d Q 29 [l0, l1, l2, l3, l4] (zR (some r) :: st) G h k ↔ (zsum st ≤ 8 ∧ G.2.1 r = 7 ∧ zRunD ztb zmt' d 107 [zR (some r)] G h (fun v G' h' => zE 76 d Q 32 [l0, l1, l2, l3, l4] (v.toList ++ st) G' h' k)) := E_invV2z (by rfl) (by decide) rfl
theorem e76_32 : zE 76 d Q 32 [some (.inr (.inr w9)), l1, l2, l3, l4] st G h k ↔ zE 76 d Q 33 [some (.inr (.inr w9)), l1, l2, l3, l4] (.inr (.inr w9) :: st) G h k := E_aload_n (by rfl) rfl
theorem e76_33 : zE 76 d Q 33 [l0, l1, l2, l3, l4] (zR (some r) :: st) G h k ↔ (G.2.1 r = 7 ∧ zE 76 d Q 36 [l0, l1, l2, l3, l4] (zR (G.2.2.2 r 7) :: st) G h k) := E_getR (by rfl) rfl
theorem e76_36 : zE 76 d Q 36 [l0, some (zI x), l2, l3, l4] st G h k ↔ zE 76 d Q 37 [l0, some (zI x), l2, l3, l4] (zI x :: st) G h k := E_iload_n (by rfl) rfl
theorem e76_37 : zE 76 d Q 37 [l0, l1, l2, l3, l4] (v0 :: zR (some r) :: st) G h k ↔ (zsum st ≤ 8 ∧ G.2.1 r = 0 ∧ zRunD ztb zmt' d 3 [zR (some r), v0] G h (fun v G' h' => zE 76 d Q 40 [l0, l1, l2, l3, l4] (v.toList ++ st) G' h' k)) := E_invV2z (by rfl) (by decide) rfl
theorem e76_40 : zE 76 d Q 40 [l0, l1, l2, l3, l4] (zI x :: st) G h k ↔ zE 76 d Q 41 [l0, (zclr l1), some (zI x), l3, l4] st G h k := E_istore_n (by rfl) (by decide)
theorem e76_41 : zE 76 d Q 41 [some (.inr (.inr w9)), l1, l2, l3, l4] st G h k ↔ zE 76 d Q 42 [some (.inr (.inr w9)), l1, l2, l3, l4] (.inr (.inr w9) :: st) G h k := E_aload_n (by rfl) rfl
theorem e76_42 : zE 76 d Q 42 [l0, some (zI x), l2, l3, l4] st G h k ↔ zE 76 d Q 43 [l0, some (zI x), l2, l3, l4] (zI x :: st) G h k := E_iload_n (by rfl) rfl
theorem e76_43 : zE 76 d Q 43 [some (.inr (.inr w9)), l1, l2, l3, l4] st G h k ↔ zE 76 d Q 44 [some (.inr (.inr w9)), l1, l2, l3, l4] (.inr (.inr w9) :: st) G h k := E_aload_n (by rfl) rfl
theorem e76_44 : zE 76 d Q 44 [l0, l1, l2, l3, l4] (zR (some r) :: st) G h k ↔ (G.2.1 r = 7 ∧ zE 76 d Q 47 [l0, l1, l2, l3, l4] (zR (G.2.2.2 r 6) :: st) G h k) := E_getR (by rfl) rfl
theorem e76_47 : zE 76 d Q 47 [some (.inr (.inr w9)), l1, l2, l3, l4] st G h k ↔ zE 76 d Q 48 [some (.inr (.inr w9)), l1, l2, l3, l4] (.inr (.inr w9) :: st) G h k := E_aload_n (by rfl) rfl
theorem e76_48 : zE 76 d Q 48 [l0, l1, l2, l3, l4] (zR (some r) :: st) G h k ↔ (G.2.1 r = 7 ∧ zE 76 d Q 51 [l0, l1, l2, l3, l4] (zR (G.2.2.2 r 7) :: st) G h k) := E_getR (by rfl) rfl
theorem e76_51 : zE 76 d Q 51 [l0, l1, l2, l3, l4] (zR (some r) :: st) G h k ↔ (G.2.1 r = 0 ∧ zE 76 d Q 54 [l0, l1, l2, l3, l4] (zR (G.2.2.2 r 2) :: st) G h k) := E_getR (by rfl) rfl
theorem e76_54 : zE 76 d Q 54 [l0, l1, some (zI x), l3, l4] st G h k ↔ zE 76 d Q 55 [l0, l1, some (zI x), l3, l4] (zI x :: st) G h k := E_iload_n (by rfl) rfl
theorem e76_55 : zE 76 d Q 55 [l0, l1, l2, l3, l4] (zI i :: zR (some r) :: st) G h k ↔ (G.2.1 r = 10 ∧ (0 ≤ i ∧ i < G.2.2.1 r) ∧ zE 76 d Q 56 [l0, l1, l2, l3, l4] (zI (h r i.toNat) :: st) G h k) := E_iaload (by rfl)
theorem e76_56 : zE 76 d Q 56 [some (.inr (.inr w9)), l1, l2, l3, l4] st G h k ↔ zE 76 d Q 57 [some (.inr (.inr w9)), l1, l2, l3, l4] (.inr (.inr w9) :: st) G h k := E_aload_n (by rfl) rfl
theorem e76_57 : zE 76 d Q 57 [l0, l1, l2, l3, l4] (zR (some r) :: st) G h k ↔ (G.2.1 r = 7 ∧ zE 76 d Q 60 [l0, l1, l2, l3, l4] (zR (G.2.2.2 r 7) :: st) G h k) := E_getR (by rfl) rfl
theorem e76_60 : zE 76 d Q 60 [l0, l1, l2, l3, l4] (zR (some r) :: st) G h k ↔ (G.2.1 r = 0 ∧ zE 76 d Q 63 [l0, l1, l2, l3, l4] (zR (G.2.2.2 r 3) :: st) G h k) := E_getR (by rfl) rfl
theorem e76_63 : zE 76 d Q 63 [l0, l1, some (zI x), l3, l4] st G h k ↔ zE 76 d Q 64 [l0, l1, some (zI x), l3, l4] (zI x :: st) G h k := E_iload_n (by rfl) rfl
theorem e76_64 : zE 76 d Q 64 [l0, l1, l2, l3, l4] (zI i :: zR (some r) :: st) G h k ↔ (G.2.1 r = 10 ∧ (0 ≤ i ∧ i < G.2.2.1 r) ∧ zE 76 d Q 65 [l0, l1, l2, l3, l4] (zI (h r i.toNat) :: st) G h k) := E_iaload (by rfl)
theorem e76_65 : zE 76 d Q 65 [l0, l1, l2, l3, l4] (v1 :: v0 :: zR (some r) :: st) G h k ↔ (zsum st ≤ 8 ∧ G.2.1 r = 5 ∧ zRunD ztb zmt' d 51 [zR (some r), v0, v1] G h (fun v G' h' => zE 76 d Q 68 [l0, l1, l2, l3, l4] (v.toList ++ st) G' h' k)) := E_invV2z (by rfl) (by decide) rfl
theorem e76_68 : zE 76 d Q 68 [l0, l1, l2, l3, l4] (v1 :: v0 :: zR (some r) :: st) G h k ↔ (zsum st ≤ 8 ∧ G.2.1 r = 7 ∧ zRunD ztb zmt' d 79 [zR (some r), v0, v1] G h (fun v G' h' => zE 76 d Q 71 [l0, l1, l2, l3, l4] (v.toList ++ st) G' h' k)) := E_invV2z (by rfl) (by decide) rfl
theorem e76_71 : zE 76 d Q 71 [l0, l1, l2, l3, l4] (zL x :: st) G h k ↔ zE 76 d Q 72 [l0, l1, (zclr l2), some (zL x), none] st G h k := E_lstore_n (by rfl) (by decide)
theorem e76_72 : zE 76 d Q 72 [some (.inr (.inr w9)), l1, l2, l3, l4] st G h k ↔ zE 76 d Q 73 [some (.inr (.inr w9)), l1, l2, l3, l4] (.inr (.inr w9) :: st) G h k := E_aload_n (by rfl) rfl
theorem e76_73 : zE 76 d Q 73 [l0, some (zI x), l2, l3, l4] st G h k ↔ zE 76 d Q 74 [l0, some (zI x), l2, l3, l4] (zI x :: st) G h k := E_iload_n (by rfl) rfl
theorem e76_74 : zE 76 d Q 74 [some (.inr (.inr w9)), l1, l2, l3, l4] st G h k ↔ zE 76 d Q 75 [some (.inr (.inr w9)), l1, l2, l3, l4] (.inr (.inr w9) :: st) G h k := E_aload_n (by rfl) rfl
theorem e76_75 : zE 76 d Q 75 [l0, some (zI x), l2, l3, l4] st G h k ↔ zE 76 d Q 76 [l0, some (zI x), l2, l3, l4] (zI x :: st) G h k := E_iload_n (by rfl) rfl
theorem e76_76 : zE 76 d Q 76 [l0, l1, l2, l3, l4] (v0 :: zR (some r) :: st) G h k ↔ (zsum st ≤ 8 ∧ G.2.1 r = 7 ∧ zRunD ztb zmt' d 78 [zR (some r), v0] G h (fun v G' h' => zE 76 d Q 79 [l0, l1, l2, l3, l4] (v.toList ++ st) G' h' k)) := E_invV2z (by rfl) (by decide) rfl
theorem e76_79 : zE 76 d Q 79 [l0, l1, l2, l3, l4] (v1 :: v0 :: zR (some r) :: st) G h k ↔ (zsum st ≤ 8 ∧ G.2.1 r = 7 ∧ zRunD ztb zmt' d 79 [zR (some r), v0, v1] G h (fun v G' h' => zE 76 d Q 82 [l0, l1, l2, l3, l4] (v.toList ++ st) G' h' k)) := E_invV2z (by rfl) (by decide) rfl
theorem e76_82 : zE 76 d Q 82 [l0, l1, l2, some (zL x), l4] st G h k ↔ zE 76 d Q 83 [l0, l1, l2, some (zL x), l4] (zL x :: st) G h k := E_lload_n (by rfl) rfl
theorem e76_83 : zE 76 d Q 83 [l0, l1, l2, l3, l4] (zL y :: zL x :: st) G h k ↔ zE 76 d Q 84 [l0, l1, l2, l3, l4] (zL (wl (x - y)) :: st) G h k := E_lsub (by rfl)
theorem e76_84 : zE 76 d Q 84 [l0, l1, l2, l3, l4] [zL x] G h k ↔ Q (some (zL x)) G h := E_lret (by rfl) rfl
theorem e77_0 : zE 77 d Q 0 [some (.inr (.inr w9)), l1, l2] st G h k ↔ zE 77 d Q 1 [some (.inr (.inr w9)), l1, l2] (.inr (.inr w9) :: st) G h k := E_aload_n (by rfl) rfl
theorem e77_1 : zE 77 d Q 1 [some (.inr (.inr w9)), l1, l2] st G h k ↔ zE 77 d Q 2 [some (.inr (.inr w9)), l1, l2] (.inr (.inr w9) :: st) G h k := E_aload_n (by rfl) rfl
theorem e77_2 : zE 77 d Q 2 [l0, some (zI x), l2] st G h k ↔ zE 77 d Q 3 [l0, some (zI x), l2] (zI x :: st) G h k := E_iload_n (by rfl) rfl
theorem e77_3 : zE 77 d Q 3 [l0, l1, l2] (v0 :: zR (some r) :: st) G h k ↔ (zsum st ≤ 8 ∧ G.2.1 r = 7 ∧ zRunD ztb zmt' d 98 [zR (some r), v0] G h (fun v G' h' => zE 77 d Q 6 [l0, l1, l2] (v.toList ++ st) G' h' k)) := E_invV2z (by rfl) (by decide) rfl
theorem e77_6 : zE 77 d Q 6 [l0, l1, l2] (zI x :: st) G h k ↔ ((x = 0 → zE 77 d Q 13 [l0, l1, l2] st G h k) ∧ (¬ (x = 0) → zE 77 d Q 9 [l0, l1, l2] st G h k)) := E_if_eq (by rfl)
theorem e77_9 : zE 77 d Q 9 [l0, l1, l2] st G h k ↔ zE 77 d Q 10 [l0, l1, l2] (zI 0 :: st) G h k := E_iconst (by rfl)
theorem e77_10 : zE 77 d Q 10 [l0, l1, l2] st G h k ↔ zE 77 d Q 14 [l0, l1, l2] st G h k := E_goto (by rfl)
theorem e77_13 : zE 77 d Q 13 [l0, l1, l2] st G h k ↔ zE 77 d Q 14 [l0, l1, l2] (zI 1 :: st) G h k := E_iconst (by rfl)
theorem e77_14 : zE 77 d Q 14 [l0, l1, l2] (zI x :: zR (some r) :: st) G h k ↔ (G.2.1 r = 7 ∧ zE 77 d Q 17 [l0, l1, l2] st G (zu h r 11 x) k) := E_putI (by rfl) rfl
theorem e77_17 : zE 77 d Q 17 [some (.inr (.inr w9)), l1, l2] st G h k ↔ zE 77 d Q 18 [some (.inr (.inr w9)), l1, l2] (.inr (.inr w9) :: st) G h k := E_aload_n (by rfl) rfl
theorem e77_18 : zE 77 d Q 18 [l0, l1, l2] (zR (some r) :: st) G h k ↔ (G.2.1 r = 7 ∧ zE 77 d Q 21 [l0, l1, l2] (zI (h r 11) :: st) G h k) := E_getI (by rfl) (by decide)
theorem e77_21 : zE 77 d Q 21 [l0, l1, l2] (zI x :: st) G h k ↔ ((x = 0 → zE 77 d Q 26 [l0, l1, l2] st G h k) ∧ (¬ (x = 0) → zE 77 d Q 24 [l0, l1, l2] st G h k)) := E_if_eq (by rfl)
theorem e77_24 : zE 77 d Q 24 [l0, l1, l2] st G h k ↔ zE 77 d Q 25 [l0, l1, l2] (zI (-1) :: st) G h k := E_iconst (by rfl)
theorem e77_25 : zE 77 d Q 25 [l0, l1, l2] [zI x] G h k ↔ Q (some (zI x)) G h := E_iret (by rfl) rfl
theorem e77_26 : zE 77 d Q 26 [some (.inr (.inr w9)), l1, l2] st G h k ↔ zE 77 d Q 27 [some (.inr (.inr w9)), l1, l2] (.inr (.inr w9) :: st) G h k := E_aload_n (by rfl) rfl
theorem e77_27 : zE 77 d Q 27 [l0, l1, l2] (zR (some r) :: st) G h k ↔ (zsum st ≤ 8 ∧ G.2.1 r = 7 ∧ zRunD ztb zmt' d 107 [zR (some r)] G h (fun v G' h' => zE 77 d Q 30 [l0, l1, l2] (v.toList ++ st) G' h' k)) := E_invV2z (by rfl) (by decide) rfl
theorem e77_30 : zE 77 d Q 30 [some (.inr (.inr w9)), l1, l2] st G h k ↔ zE 77 d Q 31 [some (.inr (.inr w9)), l1, l2] (.inr (.inr w9) :: st) G h k := E_aload_n (by rfl) rfl
theorem e77_31 : zE 77 d Q 31 [l0, some (zI x), l2] st G h k ↔ zE 77 d Q 32 [l0, some (zI x), l2] (zI x :: st) G h k := E_iload_n (by rfl) rfl
theorem e77_32 : zE 77 d Q 32 [l0, l1, l2] (v0 :: zR (some r) :: st) G h k ↔ (zsum st ≤ 8 ∧ G.2.1 r = 7 ∧ zRunD ztb zmt' d 78 [zR (some r), v0] G h (fun v G' h' => zE 77 d Q 35 [l0, l1, l2] (v.toList ++ st) G' h' k)) := E_invV2z (by rfl) (by decide) rfl
theorem e77_35 : zE 77 d Q 35 [l0, l1, l2] (zI x :: st) G h k ↔ zE 77 d Q 36 [l0, (zclr l1), some (zI x)] st G h k := E_istore_n (by rfl) (by decide)
theorem e77_36 : zE 77 d Q 36 [l0, l1, l2] st G h k ↔ zE 77 d Q 38 [l0, l1, l2] (zI 10 :: st) G h k := E_bipush (by rfl)
theorem e77_38 : zE 77 d Q 38 [some (.inr (.inr w9)), l1, l2] st G h k ↔ zE 77 d Q 39 [some (.inr (.inr w9)), l1, l2] (.inr (.inr w9) :: st) G h k := E_aload_n (by rfl) rfl
theorem e77_39 : zE 77 d Q 39 [l0, l1, l2] (zR (some r) :: st) G h k ↔ (G.2.1 r = 7 ∧ zE 77 d Q 42 [l0, l1, l2] (zR (G.2.2.2 r 6) :: st) G h k) := E_getR (by rfl) rfl
theorem e77_42 : zE 77 d Q 42 [l0, l1, some (zI x)] st G h k ↔ zE 77 d Q 43 [l0, l1, some (zI x)] (zI x :: st) G h k := E_iload_n (by rfl) rfl
theorem e77_43 : zE 77 d Q 43 [l0, l1, l2] (v0 :: zR (some r) :: st) G h k ↔ (zsum st ≤ 8 ∧ G.2.1 r = 5 ∧ zRunD ztb zmt' d 49 [zR (some r), v0] G h (fun v G' h' => zE 77 d Q 46 [l0, l1, l2] (v.toList ++ st) G' h' k)) := E_invV2z (by rfl) (by decide) rfl
theorem e77_46 : zE 77 d Q 46 [l0, l1, l2] (zI y :: zI x :: st) G h k ↔ zE 77 d Q 47 [l0, l1, l2] (zI (wr (x * y)) :: st) G h k := E_imul (by rfl)
theorem e77_47 : zE 77 d Q 47 [some (.inr (.inr w9)), l1, l2] st G h k ↔ zE 77 d Q 48 [some (.inr (.inr w9)), l1, l2] (.inr (.inr w9) :: st) G h k := E_aload_n (by rfl) rfl
theorem e77_48 : zE 77 d Q 48 [l0, l1, l2] (zR (some r) :: st) G h k ↔ (G.2.1 r = 7 ∧ zE 77 d Q 51 [l0, l1, l2] (zR (G.2.2.2 r 6) :: st) G h k) := E_getR (by rfl) rfl
theorem e77_51 : zE 77 d Q 51 [l0, l1, some (zI x)] st G h k ↔ zE 77 d Q 52 [l0, l1, some (zI x)] (zI x :: st) G h k := E_iload_n (by rfl) rfl
theorem e77_52 : zE 77 d Q 52 [l0, l1, l2] (v0 :: zR (some r) :: st) G h k ↔ (zsum st ≤ 8 ∧ G.2.1 r = 5 ∧ zRunD ztb zmt' d 50 [zR (some r), v0] G h (fun v G' h' => zE 77 d Q 55 [l0, l1, l2] (v.toList ++ st) G' h' k)) := E_invV2z (by rfl) (by decide) rfl
theorem e77_55 : zE 77 d Q 55 [l0, l1, l2] (zI y :: zI x :: st) G h k ↔ zE 77 d Q 56 [l0, l1, l2] (zI (wr (x + y)) :: st) G h k := E_iadd (by rfl)
theorem e77_56 : zE 77 d Q 56 [l0, l1, l2] [zI x] G h k ↔ Q (some (zI x)) G h := E_iret (by rfl) rfl
theorem e78_0 : zE 78 d Q 0 [l0, l1, l2, l3, l4, l5, l6, l7] st G h k ↔ zE 78 d Q 1 [l0, l1, l2, l3, l4, l5, l6, l7] (zI 0 :: st) G h k := E_iconst (by rfl)
theorem e78_1 : zE 78 d Q 1 [l0, l1, l2, l3, l4, l5, l6, l7] (zI x :: st) G h k ↔ zE 78 d Q 2 [l0, (zclr l1), some (zI x), l3, l4, l5, l6, l7] st G h k := E_istore_n (by rfl) (by decide)
theorem e78_2 : zE 78 d Q 2 [some (.inr (.inr w9)), l1, l2, l3, l4, l5, l6, l7] st G h k ↔ zE 78 d Q 3 [some (.inr (.inr w9)), l1, l2, l3, l4, l5, l6, l7] (.inr (.inr w9) :: st) G h k := E_aload_n (by rfl) rfl
theorem e78_3 : zE 78 d Q 3 [l0, some (zI x), l2, l3, l4, l5, l6, l7] st G h k ↔ zE 78 d Q 4 [l0, some (zI x), l2, l3, l4, l5, l6, l7] (zI x :: st) G h k := E_iload_n (by rfl) rfl
theorem e78_4 : zE 78 d Q 4 [l0, l1, l2, l3, l4, l5, l6, l7] st G h k ↔ zE 78 d Q 5 [l0, l1, l2, l3, l4, l5, l6, l7] (zI 0 :: st) G h k := E_iconst (by rfl)
theorem e78_5 : zE 78 d Q 5 [l0, l1, l2, l3, l4, l5, l6, l7] (v1 :: v0 :: zR (some r) :: st) G h k ↔ (zsum st ≤ 8 ∧ G.2.1 r = 7 ∧ zRunD ztb zmt' d 79 [zR (some r), v0, v1] G h (fun v G' h' => zE 78 d Q 8 [l0, l1, l2, l3, l4, l5, l6, l7] (v.toList ++ st) G' h' k)) := E_invV2z (by rfl) (by decide) rfl
theorem e78_8 : zE 78 d Q 8 [l0, l1, l2, l3, l4, l5, l6, l7] (zL x :: st) G h k ↔ zE 78 d Q 9 [l0, l1, (zclr l2), some (zL x), none, l5, l6, l7] st G h k := E_lstore_n (by rfl) (by decide)
theorem e78_9 : zE 78 d Q 9 [l0, l1, l2, l3, l4, l5, l6, l7] st G h k ↔ zE 78 d Q 10 [l0, l1, l2, l3, l4, l5, l6, l7] (zI 1 :: st) G h k := E_iconst (by rfl)
theorem e78_10 : zE 78 d Q 10 [l0, l1, l2, l3, l4, l5, l6, l7] (zI x :: st) G h k ↔ zE 78 d Q 12 [l0, l1, l2, l3, (zclr l4), some (zI x), l6, l7] st G h k := E_istore (by rfl) (by decide)
theorem e78_12 : zE 78 d Q 12 [l0, l1, l2, l3, l4, some (zI x), l6, l7] st G h k ↔ zE 78 d Q 14 [l0, l1, l2, l3, l4, some (zI x), l6, l7] (zI x :: st) G h k := E_iload (by rfl) rfl
theorem e78_14 : zE 78 d Q 14 [some (.inr (.inr w9)), l1, l2, l3, l4, l5, l6, l7] st G h k ↔ zE 78 d Q 15 [some (.inr (.inr w9)), l1, l2, l3, l4, l5, l6, l7] (.inr (.inr w9) :: st) G h k := E_aload_n (by rfl) rfl
theorem e78_15 : zE 78 d Q 15 [l0, l1, l2, l3, l4, l5, l6, l7] (zR (some r) :: st) G h k ↔ (G.2.1 r = 7 ∧ zE 78 d Q 18 [l0, l1, l2, l3, l4, l5, l6, l7] (zR (G.2.2.2 r 6) :: st) G h k) := E_getR (by rfl) rfl
theorem e78_18 : zE 78 d Q 18 [l0, l1, l2, l3, l4, l5, l6, l7] (zR (some r) :: st) G h k ↔ (zsum st ≤ 8 ∧ G.2.1 r = 5 ∧ zRunD ztb zmt' d 48 [zR (some r)] G h (fun v G' h' => zE 78 d Q 21 [l0, l1, l2, l3, l4, l5, l6, l7] (v.toList ++ st) G' h' k)) := E_invV2z (by rfl) (by decide) rfl
theorem e78_21 : zE 78 d Q 21 [l0, l1, l2, l3, l4, l5, l6, l7] (zI y :: zI x :: st) G h k ↔ ((y ≤ x → zE 78 d Q 52 [l0, l1, l2, l3, l4, l5, l6, l7] st G h k) ∧ (¬ (y ≤ x) → zE 78 d Q 24 [l0, l1, l2, l3, l4, l5, l6, l7] st G h k)) := E_icmp_ge (by rfl)
theorem e78_24 : zE 78 d Q 24 [some (.inr (.inr w9)), l1, l2, l3, l4, l5, l6, l7] st G h k ↔ zE 78 d Q 25 [some (.inr (.inr w9)), l1, l2, l3, l4, l5, l6, l7] (.inr (.inr w9) :: st) G h k := E_aload_n (by rfl) rfl
theorem e78_25 : zE 78 d Q 25 [l0, some (zI x), l2, l3, l4, l5, l6, l7] st G h k ↔ zE 78 d Q 26 [l0, some (zI x), l2, l3, l4, l5, l6, l7] (zI x :: st) G h k := E_iload_n (by rfl) rfl
theorem e78_26 : zE 78 d Q 26 [l0, l1, l2, l3, l4, some (zI x), l6, l7] st G h k ↔ zE 78 d Q 28 [l0, l1, l2, l3, l4, some (zI x), l6, l7] (zI x :: st) G h k := E_iload (by rfl) rfl
theorem e78_28 : zE 78 d Q 28 [l0, l1, l2, l3, l4, l5, l6, l7] (v1 :: v0 :: zR (some r) :: st) G h k ↔ (zsum st ≤ 8 ∧ G.2.1 r = 7 ∧ zRunD ztb zmt' d 79 [zR (some r), v0, v1] G h (fun v G' h' => zE 78 d Q 31 [l0, l1, l2, l3, l4, l5, l6, l7] (v.toList ++ st) G' h' k)) := E_invV2z (by rfl) (by decide) rfl
theorem e78_31 : zE 78 d Q 31 [l0, l1, l2, l3, l4, l5, l6, l7] (zL x :: st) G h k ↔ zE 78 d Q 33 [l0, l1, l2, l3, l4, (zclr l5), some (zL x), none] st G h k := E_lstore (by rfl) (by decide)
theorem e78_33 : zE 78 d Q 33 [l0, l1, l2, l3, l4, l5, some (zL x), l7] st G h k ↔ zE 78 d Q 35 [l0, l1, l2, l3, l4, l5, some (zL x), l7] (zL x :: st) G h k := E_lload (by rfl) rfl
theorem e78_35 : zE 78 d Q 35 [l0, l1, l2, some (zL x), l4, l5, l6, l7] st G h k ↔ zE 78 d Q 36 [l0, l1, l2, some (zL x), l4, l5, l6, l7] (zL x :: st) G h k := E_lload_n (by rfl) rfl
theorem e78_36 : zE 78 d Q 36 [l0, l1, l2, l3, l4, l5, l6, l7] (zL y :: zL x :: st) G h k ↔ zE 78 d Q 37 [l0, l1, l2, l3, l4, l5, l6, l7] (zI (zlc x y) :: st) G h k := E_lcmp (by rfl)
theorem e78_37 : zE 78 d Q 37 [l0, l1, l2, l3, l4, l5, l6, l7] (zI x :: st) G h k ↔ ((x ≤ 0 → zE 78 d Q 46 [l0, l1, l2, l3, l4, l5, l6, l7] st G h k) ∧ (¬ (x ≤ 0) → zE 78 d Q 40 [l0, l1, l2, l3, l4, l5, l6, l7] st G h k)) := E_if_le (by rfl)
theorem e78_40 : zE 78 d Q 40 [l0, l1, l2, l3, l4, l5, some (zL x), l7] st G h k ↔ zE 78 d Q 42 [l0, l1, l2, l3, l4, l5, some (zL x), l7] (zL x :: st) G h k := E_lload (by rfl) rfl
theorem e78_42 : zE 78 d Q 42 [l0, l1, l2, l3, l4, l5, l6, l7] (zL x :: st) G h k ↔ zE 78 d Q 43 [l0, l1, (zclr l2), some (zL x), none, l5, l6, l7] st G h k := E_lstore_n (by rfl) (by decide)
theorem e78_43 : zE 78 d Q 43 [l0, l1, l2, l3, l4, some (zI x), l6, l7] st G h k ↔ zE 78 d Q 45 [l0, l1, l2, l3, l4, some (zI x), l6, l7] (zI x :: st) G h k := E_iload (by rfl) rfl
theorem e78_45 : zE 78 d Q 45 [l0, l1, l2, l3, l4, l5, l6, l7] (zI x :: st) G h k ↔ zE 78 d Q 46 [l0, (zclr l1), some (zI x), l3, l4, l5, l6, l7] st G h k := E_istore_n (by rfl) (by decide)
theorem e78_46 : zE 78 d Q 46 [l0, l1, l2, l3, l4, some (zI x), l6, l7] st G h k ↔ zE 78 d Q 49 [l0, l1, l2, l3, (zclr l4), some (zI (wr (x + 1))), l6, l7] st G h k := E_iinc (by rfl) rfl
theorem e78_49 : zE 78 d Q 49 [l0, l1, l2, l3, l4, l5, l6, l7] st G h k ↔ zE 78 d Q 12 [l0, l1, l2, l3, l4, l5, l6, l7] st G h k := E_goto (by rfl)
theorem e78_52 : zE 78 d Q 52 [l0, l1, some (zI x), l3, l4, l5, l6, l7] st G h k ↔ zE 78 d Q 53 [l0, l1, some (zI x), l3, l4, l5, l6, l7] (zI x :: st) G h k := E_iload_n (by rfl) rfl
theorem e78_53 : zE 78 d Q 53 [l0, l1, l2, l3, l4, l5, l6, l7] [zI x] G h k ↔ Q (some (zI x)) G h := E_iret (by rfl) rfl
theorem e79_0 : zE 79 d Q 0 [some (.inr (.inr w9)), l1, l2] st G h k ↔ zE 79 d Q 1 [some (.inr (.inr w9)), l1, l2] (.inr (.inr w9) :: st) G h k := E_aload_n (by rfl) rfl
theorem e79_1 : zE 79 d Q 1 [l0, l1, l2] (zR (some r) :: st) G h k ↔ (G.2.1 r = 7 ∧ zE 79 d Q 4 [l0, l1, l2] (zR (G.2.2.2 r 5) :: st) G h k) := E_getR (by rfl) rfl
theorem e79_4 : zE 79 d Q 4 [l0, some (zI x), l2] st G h k ↔ zE 79 d Q 5 [l0, some (zI x), l2] (zI x :: st) G h k := E_iload_n (by rfl) rfl
theorem e79_5 : zE 79 d Q 5 [some (.inr (.inr w9)), l1, l2] st G h k ↔ zE 79 d Q 6 [some (.inr (.inr w9)), l1, l2] (.inr (.inr w9) :: st) G h k := E_aload_n (by rfl) rfl
theorem e79_6 : zE 79 d Q 6 [l0, l1, l2] (zR (some r) :: st) G h k ↔ (G.2.1 r = 7 ∧ zE 79 d Q 9 [l0, l1, l2] (zR (G.2.2.2 r 6) :: st) G h k) := E_getR (by rfl) rfl
theorem e79_9 : zE 79 d Q 9 [l0, l1, some (zI x)] st G h k ↔ zE 79 d Q 10 [l0, l1, some (zI x)] (zI x :: st) G h k := E_iload_n (by rfl) rfl
theorem e79_10 : zE 79 d Q 10 [l0, l1, l2] (v0 :: zR (some r) :: st) G h k ↔ (zsum st ≤ 8 ∧ G.2.1 r = 5 ∧ zRunD ztb zmt' d 49 [zR (some r), v0] G h (fun v G' h' => zE 79 d Q 13 [l0, l1, l2] (v.toList ++ st) G' h' k)) := E_invV2z (by rfl) (by decide) rfl
theorem e79_13 : zE 79 d Q 13 [some (.inr (.inr w9)), l1, l2] st G h k ↔ zE 79 d Q 14 [some (.inr (.inr w9)), l1, l2] (.inr (.inr w9) :: st) G h k := E_aload_n (by rfl) rfl
theorem e79_14 : zE 79 d Q 14 [l0, l1, l2] (zR (some r) :: st) G h k ↔ (G.2.1 r = 7 ∧ zE 79 d Q 17 [l0, l1, l2] (zR (G.2.2.2 r 6) :: st) G h k) := E_getR (by rfl) rfl
theorem e79_17 : zE 79 d Q 17 [l0, l1, some (zI x)] st G h k ↔ zE 79 d Q 18 [l0, l1, some (zI x)] (zI x :: st) G h k := E_iload_n (by rfl) rfl
theorem e79_18 : zE 79 d Q 18 [l0, l1, l2] (v0 :: zR (some r) :: st) G h k ↔ (zsum st ≤ 8 ∧ G.2.1 r = 5 ∧ zRunD ztb zmt' d 50 [zR (some r), v0] G h (fun v G' h' => zE 79 d Q 21 [l0, l1, l2] (v.toList ++ st) G' h' k)) := E_invV2z (by rfl) (by decide) rfl
theorem e79_21 : zE 79 d Q 21 [l0, l1, l2] (v2 :: v1 :: v0 :: zR (some r) :: st) G h k ↔ (zsum st ≤ 8 ∧ G.2.1 r = 1 ∧ zRunD ztb zmt' d 6 [zR (some r), v0, v1, v2] G h (fun v G' h' => zE 79 d Q 24 [l0, l1, l2] (v.toList ++ st) G' h' k)) := E_invV2z (by rfl) (by decide) rfl
theorem e79_24 : zE 79 d Q 24 [some (.inr (.inr w9)), l1, l2] st G h k ↔ zE 79 d Q 25 [some (.inr (.inr w9)), l1, l2] (.inr (.inr w9) :: st) G h k := E_aload_n (by rfl) rfl
theorem e79_25 : zE 79 d Q 25 [l0, l1, l2] (zR (some r) :: st) G h k ↔ (G.2.1 r = 7 ∧ zE 79 d Q 28 [l0, l1, l2] (zR (G.2.2.2 r 5) :: st) G h k) := E_getR (by rfl) rfl
theorem e79_28 : zE 79 d Q 28 [some (.inr (.inr w9)), l1, l2] st G h k ↔ zE 79 d Q 29 [some (.inr (.inr w9)), l1, l2] (.inr (.inr w9) :: st) G h k := E_aload_n (by rfl) rfl
theorem e79_29 : zE 79 d Q 29 [l0, l1, l2] (zR (some r) :: st) G h k ↔ (G.2.1 r = 7 ∧ zE 79 d Q 32 [l0, l1, l2] (zR (G.2.2.2 r 8) :: st) G h k) := E_getR (by rfl) rfl
theorem e79_32 : zE 79 d Q 32 [l0, l1, l2] st G h k ↔ zE 79 d Q 33 [l0, l1, l2] (zI 0 :: st) G h k := E_iconst (by rfl)
theorem e79_33 : zE 79 d Q 33 [l0, l1, l2] (v1 :: v0 :: zR (some r) :: st) G h k ↔ (zsum st ≤ 8 ∧ G.2.1 r = 1 ∧ zRunD ztb zmt' d 11 [zR (some r), v0, v1] G h (fun v G' h' => zE 79 d Q 36 [l0, l1, l2] (v.toList ++ st) G' h' k)) := E_invV2z (by rfl) (by decide) rfl
theorem e79_36 : zE 79 d Q 36 [some (.inr (.inr w9)), l1, l2] st G h k ↔ zE 79 d Q 37 [some (.inr (.inr w9)), l1, l2] (.inr (.inr w9) :: st) G h k := E_aload_n (by rfl) rfl
theorem e79_37 : zE 79 d Q 37 [l0, l1, l2] (zR (some r) :: st) G h k ↔ (G.2.1 r = 7 ∧ zE 79 d Q 40 [l0, l1, l2] (zR (G.2.2.2 r 4) :: st) G h k) := E_getR (by rfl) rfl
theorem e79_40 : zE 79 d Q 40 [some (.inr (.inr w9)), l1, l2] st G h k ↔ zE 79 d Q 41 [some (.inr (.inr w9)), l1, l2] (.inr (.inr w9) :: st) G h k := E_aload_n (by rfl) rfl
theorem e79_41 : zE 79 d Q 41 [l0, l1, l2] (zR (some r) :: st) G h k ↔ (G.2.1 r = 7 ∧ zE 79 d Q 44 [l0, l1, l2] (zR (G.2.2.2 r 7) :: st) G h k) := E_getR (by rfl) rfl
theorem e79_44 : zE 79 d Q 44 [l0, l1, l2] (zR (some r) :: st) G h k ↔ (G.2.1 r = 0 ∧ zE 79 d Q 47 [l0, l1, l2] (zR (G.2.2.2 r 1) :: st) G h k) := E_getR (by rfl) rfl
theorem e79_47 : zE 79 d Q 47 [some (.inr (.inr w9)), l1, l2] st G h k ↔ zE 79 d Q 48 [some (.inr (.inr w9)), l1, l2] (.inr (.inr w9) :: st) G h k := E_aload_n (by rfl) rfl
theorem e79_48 : zE 79 d Q 48 [l0, l1, l2] (zR (some r) :: st) G h k ↔ (G.2.1 r = 7 ∧ zE 79 d Q 51 [l0, l1, l2] (zR (G.2.2.2 r 7) :: st) G h k) := E_getR (by rfl) rfl
theorem e79_51 : zE 79 d Q 51 [l0, l1, l2] (zR (some r) :: st) G h k ↔ (G.2.1 r = 0 ∧ zE 79 d Q 54 [l0, l1, l2] (zI (h r 0) :: st) G h k) := E_getI (by rfl) (by decide)
theorem e79_54 : zE 79 d Q 54 [l0, l1, l2] st G h k ↔ zE 79 d Q 56 [l0, l1, l2] (zI 12 :: st) G h k := E_bipush (by rfl)
theorem e79_56 : zE 79 d Q 56 [l0, l1, l2] (zI y :: zI x :: st) G h k ↔ zE 79 d Q 57 [l0, l1, l2] (zI (wr (x * y)) :: st) G h k := E_imul (by rfl)
theorem e79_57 : zE 79 d Q 57 [some (.inr (.inr w9)), l1, l2] st G h k ↔ zE 79 d Q 58 [some (.inr (.inr w9)), l1, l2] (.inr (.inr w9) :: st) G h k := E_aload_n (by rfl) rfl
theorem e79_58 : zE 79 d Q 58 [l0, l1, l2] (zR (some r) :: st) G h k ↔ (G.2.1 r = 7 ∧ zE 79 d Q 61 [l0, l1, l2] (zR (G.2.2.2 r 8) :: st) G h k) := E_getR (by rfl) rfl
theorem e79_61 : zE 79 d Q 61 [l0, l1, l2] st G h k ↔ zE 79 d Q 62 [l0, l1, l2] (zI 0 :: st) G h k := E_iconst (by rfl)
theorem e79_62 : zE 79 d Q 62 [l0, l1, l2] (v3 :: v2 :: v1 :: v0 :: zR (some r) :: st) G h k ↔ (zsum st ≤ 8 ∧ G.2.1 r = 6 ∧ zRunD ztb zmt' d 55 [zR (some r), v0, v1, v2, v3] G h (fun v G' h' => zE 79 d Q 65 [l0, l1, l2] (v.toList ++ st) G' h' k)) := E_invV2z (by rfl) (by decide) rfl
theorem e79_65 : zE 79 d Q 65 [some (.inr (.inr w9)), l1, l2] st G h k ↔ zE 79 d Q 66 [some (.inr (.inr w9)), l1, l2] (.inr (.inr w9) :: st) G h k := E_aload_n (by rfl) rfl
theorem e79_66 : zE 79 d Q 66 [l0, l1, l2] (zR (some r) :: st) G h k ↔ (G.2.1 r = 7 ∧ zE 79 d Q 69 [l0, l1, l2] (zR (G.2.2.2 r 4) :: st) G h k) := E_getR (by rfl) rfl
theorem e79_69 : zE 79 d Q 69 [l0, l1, l2] (zR (some r) :: st) G h k ↔ (G.2.1 r = 6 ∧ zE 79 d Q 72 [l0, l1, l2] (zR (G.2.2.2 r 5) :: st) G h k) := E_getR (by rfl) rfl
theorem e79_72 : zE 79 d Q 72 [l0, some (zI x), l2] st G h k ↔ zE 79 d Q 73 [l0, some (zI x), l2] (zI x :: st) G h k := E_iload_n (by rfl) rfl
theorem e79_73 : zE 79 d Q 73 [l0, l1, l2] (zI i :: zR (some r) :: st) G h k ↔ (G.2.1 r = 11 ∧ (0 ≤ i ∧ i < G.2.2.1 r) ∧ zE 79 d Q 74 [l0, l1, l2] (zL (h r i.toNat) :: st) G h k) := E_laload (by rfl)
theorem e79_74 : zE 79 d Q 74 [l0, l1, l2] [zL x] G h k ↔ Q (some (zL x)) G h := E_lret (by rfl) rfl
theorem e80_0 : zE 80 d Q 0 [some (.inr (.inr w9)), l1, l2, l3] st G h k ↔ zE 80 d Q 1 [some (.inr (.inr w9)), l1, l2, l3] (.inr (.inr w9) :: st) G h k := E_aload_n (by rfl) rfl
theorem e80_1 : zE 80 d Q 1 [some (.inr (.inr w9)), l1, l2, l3] st G h k ↔ zE 80 d Q 2 [some (.inr (.inr w9)), l1, l2, l3] (.inr (.inr w9) :: st) G h k := E_aload_n (by rfl) rfl
theorem e80_2 : zE 80 d Q 2 [l0, some (zI x), l2, l3] st G h k ↔ zE 80 d Q 3 [l0, some (zI x), l2, l3] (zI x :: st) G h k := E_iload_n (by rfl) rfl
theorem e80_3 : zE 80 d Q 3 [l0, l1, l2, l3] (v0 :: zR (some r) :: st) G h k ↔ (zsum st ≤ 8 ∧ G.2.1 r = 7 ∧ zRunD ztb zmt' d 99 [zR (some r), v0] G h (fun v G' h' => zE 80 d Q 6 [l0, l1, l2, l3] (v.toList ++ st) G' h' k)) := E_invV2z (by rfl) (by decide) rfl
theorem e80_6 : zE 80 d Q 6 [l0, l1, l2, l3] (zI x :: st) G h k ↔ ((x = 0 → zE 80 d Q 26 [l0, l1, l2, l3] st G h k) ∧ (¬ (x = 0) → zE 80 d Q 9 [l0, l1, l2, l3] st G h k)) := E_if_eq (by rfl)
theorem e80_9 : zE 80 d Q 9 [some (.inr (.inr w9)), l1, l2, l3] st G h k ↔ zE 80 d Q 10 [some (.inr (.inr w9)), l1, l2, l3] (.inr (.inr w9) :: st) G h k := E_aload_n (by rfl) rfl
theorem e80_10 : zE 80 d Q 10 [l0, l1, l2, some (zI x)] st G h k ↔ zE 80 d Q 11 [l0, l1, l2, some (zI x)] (zI x :: st) G h k := E_iload_n (by rfl) rfl
theorem e80_11 : zE 80 d Q 11 [l0, l1, l2, l3] (v0 :: zR (some r) :: st) G h k ↔ (zsum st ≤ 8 ∧ G.2.1 r = 7 ∧ zRunD ztb zmt' d 101 [zR (some r), v0] G h (fun v G' h' => zE 80 d Q 14 [l0, l1, l2, l3] (v.toList ++ st) G' h' k)) := E_invV2z (by rfl) (by decide) rfl
theorem e80_14 : zE 80 d Q 14 [l0, l1, l2, l3] (zI x :: st) G h k ↔ ((x = 0 → zE 80 d Q 26 [l0, l1, l2, l3] st G h k) ∧ (¬ (x = 0) → zE 80 d Q 17 [l0, l1, l2, l3] st G h k)) := E_if_eq (by rfl)
theorem e80_17 : zE 80 d Q 17 [some (.inr (.inr w9)), l1, l2, l3] st G h k ↔ zE 80 d Q 18 [some (.inr (.inr w9)), l1, l2, l3] (.inr (.inr w9) :: st) G h k := E_aload_n (by rfl) rfl
theorem e80_18 : zE 80 d Q 18 [l0, l1, some (zI x), l3] st G h k ↔ zE 80 d Q 19 [l0, l1, some (zI x), l3] (zI x :: st) G h k := E_iload_n (by rfl) rfl
theorem e80_19 : zE 80 d Q 19 [l0, l1, l2, some (zI x)] st G h k ↔ zE 80 d Q 20 [l0, l1, l2, some (zI x)] (zI x :: st) G h k := E_iload_n (by rfl) rfl
theorem e80_20 : zE 80 d Q 20 [l0, l1, l2, l3] (v1 :: v0 :: zR (some r) :: st) G h k ↔ (zsum st ≤ 8 ∧ G.2.1 r = 7 ∧ zRunD ztb zmt' d 104 [zR (some r), v0, v1] G h (fun v G' h' => zE 80 d Q 23 [l0, l1, l2, l3] (v.toList ++ st) G' h' k)) := E_invV2z (by rfl) (by decide) rfl
theorem e80_23 : zE 80 d Q 23 [l0, l1, l2, l3] st G h k ↔ zE 80 d Q 27 [l0, l1, l2, l3] st G h k := E_goto (by rfl)
theorem e80_26 : zE 80 d Q 26 [l0, l1, l2, l3] st G h k ↔ zE 80 d Q 27 [l0, l1, l2, l3] (zI 1 :: st) G h k := E_iconst (by rfl)
theorem e80_27 : zE 80 d Q 27 [l0, l1, l2, l3] (zI x :: zR (some r) :: st) G h k ↔ (G.2.1 r = 7 ∧ zE 80 d Q 30 [l0, l1, l2, l3] st G (zu h r 11 x) k) := E_putI (by rfl) rfl
theorem e80_30 : zE 80 d Q 30 [some (.inr (.inr w9)), l1, l2, l3] st G h k ↔ zE 80 d Q 31 [some (.inr (.inr w9)), l1, l2, l3] (.inr (.inr w9) :: st) G h k := E_aload_n (by rfl) rfl
theorem e80_31 : zE 80 d Q 31 [l0, l1, l2, l3] (zR (some r) :: st) G h k ↔ (G.2.1 r = 7 ∧ zE 80 d Q 34 [l0, l1, l2, l3] (zI (h r 11) :: st) G h k) := E_getI (by rfl) (by decide)
theorem e80_34 : zE 80 d Q 34 [l0, l1, l2, l3] (zI x :: st) G h k ↔ ((x = 0 → zE 80 d Q 41 [l0, l1, l2, l3] st G h k) ∧ (¬ (x = 0) → zE 80 d Q 37 [l0, l1, l2, l3] st G h k)) := E_if_eq (by rfl)
theorem e80_37 : zE 80 d Q 37 [l0, l1, l2, l3] st G h k ↔ zE 80 d Q 40 [l0, l1, l2, l3] (zL (-9223372036854775808) :: st) G h k := E_ldc2_w (by rfl)
theorem e80_40 : zE 80 d Q 40 [l0, l1, l2, l3] [zL x] G h k ↔ Q (some (zL x)) G h := E_lret (by rfl) rfl
theorem e80_41 : zE 80 d Q 41 [some (.inr (.inr w9)), l1, l2, l3] st G h k ↔ zE 80 d Q 42 [some (.inr (.inr w9)), l1, l2, l3] (.inr (.inr w9) :: st) G h k := E_aload_n (by rfl) rfl
theorem e80_42 : zE 80 d Q 42 [l0, some (zI x), l2, l3] st G h k ↔ zE 80 d Q 43 [l0, some (zI x), l2, l3] (zI x :: st) G h k := E_iload_n (by rfl) rfl
theorem e80_43 : zE 80 d Q 43 [l0, l1, some (zI x), l3] st G h k ↔ zE 80 d Q 44 [l0, l1, some (zI x), l3] (zI x :: st) G h k := E_iload_n (by rfl) rfl
theorem e80_44 : zE 80 d Q 44 [l0, l1, l2, some (zI x)] st G h k ↔ zE 80 d Q 45 [l0, l1, l2, some (zI x)] (zI x :: st) G h k := E_iload_n (by rfl) rfl
theorem e80_45 : zE 80 d Q 45 [l0, l1, l2, l3] (v2 :: v1 :: v0 :: zR (some r) :: st) G h k ↔ (zsum st ≤ 8 ∧ G.2.1 r = 7 ∧ zRunD ztb zmt' d 83 [zR (some r), v0, v1, v2] G h (fun v G' h' => zE 80 d Q 48 [l0, l1, l2, l3] (v.toList ++ st) G' h' k)) := E_invV2z (by rfl) (by decide) rfl
theorem e80_48 : zE 80 d Q 48 [l0, l1, l2, l3] [zL x] G h k ↔ Q (some (zL x)) G h := E_lret (by rfl) rfl
theorem e81_0 : zE 81 d Q 0 [some (.inr (.inr w9)), l1, l2, l3] st G h k ↔ zE 81 d Q 1 [some (.inr (.inr w9)), l1, l2, l3] (.inr (.inr w9) :: st) G h k := E_aload_n (by rfl) rfl
theorem e81_1 : zE 81 d Q 1 [some (.inr (.inr w9)), l1, l2, l3] st G h k ↔ zE 81 d Q 2 [some (.inr (.inr w9)), l1, l2, l3] (.inr (.inr w9) :: st) G h k := E_aload_n (by rfl) rfl
theorem e81_2 : zE 81 d Q 2 [l0, some (zI x), l2, l3] st G h k ↔ zE 81 d Q 3 [l0, some (zI x), l2, l3] (zI x :: st) G h k := E_iload_n (by rfl) rfl
theorem e81_3 : zE 81 d Q 3 [l0, l1, l2, l3] (v0 :: zR (some r) :: st) G h k ↔ (zsum st ≤ 8 ∧ G.2.1 r = 7 ∧ zRunD ztb zmt' d 99 [zR (some r), v0] G h (fun v G' h' => zE 81 d Q 6 [l0, l1, l2, l3] (v.toList ++ st) G' h' k)) := E_invV2z (by rfl) (by decide) rfl
theorem e81_6 : zE 81 d Q 6 [l0, l1, l2, l3] (zI x :: st) G h k ↔ ((x = 0 → zE 81 d Q 26 [l0, l1, l2, l3] st G h k) ∧ (¬ (x = 0) → zE 81 d Q 9 [l0, l1, l2, l3] st G h k)) := E_if_eq (by rfl)
theorem e81_9 : zE 81 d Q 9 [some (.inr (.inr w9)), l1, l2, l3] st G h k ↔ zE 81 d Q 10 [some (.inr (.inr w9)), l1, l2, l3] (.inr (.inr w9) :: st) G h k := E_aload_n (by rfl) rfl
theorem e81_10 : zE 81 d Q 10 [l0, l1, l2, some (zI x)] st G h k ↔ zE 81 d Q 11 [l0, l1, l2, some (zI x)] (zI x :: st) G h k := E_iload_n (by rfl) rfl
theorem e81_11 : zE 81 d Q 11 [l0, l1, l2, l3] (v0 :: zR (some r) :: st) G h k ↔ (zsum st ≤ 8 ∧ G.2.1 r = 7 ∧ zRunD ztb zmt' d 101 [zR (some r), v0] G h (fun v G' h' => zE 81 d Q 14 [l0, l1, l2, l3] (v.toList ++ st) G' h' k)) := E_invV2z (by rfl) (by decide) rfl
theorem e81_14 : zE 81 d Q 14 [l0, l1, l2, l3] (zI x :: st) G h k ↔ ((x = 0 → zE 81 d Q 26 [l0, l1, l2, l3] st G h k) ∧ (¬ (x = 0) → zE 81 d Q 17 [l0, l1, l2, l3] st G h k)) := E_if_eq (by rfl)
theorem e81_17 : zE 81 d Q 17 [some (.inr (.inr w9)), l1, l2, l3] st G h k ↔ zE 81 d Q 18 [some (.inr (.inr w9)), l1, l2, l3] (.inr (.inr w9) :: st) G h k := E_aload_n (by rfl) rfl
theorem e81_18 : zE 81 d Q 18 [l0, l1, some (zI x), l3] st G h k ↔ zE 81 d Q 19 [l0, l1, some (zI x), l3] (zI x :: st) G h k := E_iload_n (by rfl) rfl
theorem e81_19 : zE 81 d Q 19 [l0, l1, l2, some (zI x)] st G h k ↔ zE 81 d Q 20 [l0, l1, l2, some (zI x)] (zI x :: st) G h k := E_iload_n (by rfl) rfl
theorem e81_20 : zE 81 d Q 20 [l0, l1, l2, l3] (v1 :: v0 :: zR (some r) :: st) G h k ↔ (zsum st ≤ 8 ∧ G.2.1 r = 7 ∧ zRunD ztb zmt' d 104 [zR (some r), v0, v1] G h (fun v G' h' => zE 81 d Q 23 [l0, l1, l2, l3] (v.toList ++ st) G' h' k)) := E_invV2z (by rfl) (by decide) rfl
theorem e81_23 : zE 81 d Q 23 [l0, l1, l2, l3] st G h k ↔ zE 81 d Q 27 [l0, l1, l2, l3] st G h k := E_goto (by rfl)
theorem e81_26 : zE 81 d Q 26 [l0, l1, l2, l3] st G h k ↔ zE 81 d Q 27 [l0, l1, l2, l3] (zI 1 :: st) G h k := E_iconst (by rfl)
theorem e81_27 : zE 81 d Q 27 [l0, l1, l2, l3] (zI x :: zR (some r) :: st) G h k ↔ (G.2.1 r = 7 ∧ zE 81 d Q 30 [l0, l1, l2, l3] st G (zu h r 11 x) k) := E_putI (by rfl) rfl
theorem e81_30 : zE 81 d Q 30 [some (.inr (.inr w9)), l1, l2, l3] st G h k ↔ zE 81 d Q 31 [some (.inr (.inr w9)), l1, l2, l3] (.inr (.inr w9) :: st) G h k := E_aload_n (by rfl) rfl
theorem e81_31 : zE 81 d Q 31 [l0, l1, l2, l3] (zR (some r) :: st) G h k ↔ (G.2.1 r = 7 ∧ zE 81 d Q 34 [l0, l1, l2, l3] (zI (h r 11) :: st) G h k) := E_getI (by rfl) (by decide)
theorem e81_34 : zE 81 d Q 34 [l0, l1, l2, l3] (zI x :: st) G h k ↔ ((x = 0 → zE 81 d Q 41 [l0, l1, l2, l3] st G h k) ∧ (¬ (x = 0) → zE 81 d Q 37 [l0, l1, l2, l3] st G h k)) := E_if_eq (by rfl)
theorem e81_37 : zE 81 d Q 37 [l0, l1, l2, l3] st G h k ↔ zE 81 d Q 40 [l0, l1, l2, l3] (zL (-9223372036854775808) :: st) G h k := E_ldc2_w (by rfl)
theorem e81_40 : zE 81 d Q 40 [l0, l1, l2, l3] [zL x] G h k ↔ Q (some (zL x)) G h := E_lret (by rfl) rfl
theorem e81_41 : zE 81 d Q 41 [some (.inr (.inr w9)), l1, l2, l3] st G h k ↔ zE 81 d Q 42 [some (.inr (.inr w9)), l1, l2, l3] (.inr (.inr w9) :: st) G h k := E_aload_n (by rfl) rfl
theorem e81_42 : zE 81 d Q 42 [l0, l1, l2, some (zI x)] st G h k ↔ zE 81 d Q 43 [l0, l1, l2, some (zI x)] (zI x :: st) G h k := E_iload_n (by rfl) rfl
theorem e81_43 : zE 81 d Q 43 [l0, l1, some (zI x), l3] st G h k ↔ zE 81 d Q 44 [l0, l1, some (zI x), l3] (zI x :: st) G h k := E_iload_n (by rfl) rfl
theorem e81_44 : zE 81 d Q 44 [l0, l1, l2, l3] (v1 :: v0 :: zR (some r) :: st) G h k ↔ (zsum st ≤ 8 ∧ G.2.1 r = 7 ∧ zRunD ztb zmt' d 108 [zR (some r), v0, v1] G h (fun v G' h' => zE 81 d Q 47 [l0, l1, l2, l3] (v.toList ++ st) G' h' k)) := E_invV2z (by rfl) (by decide) rfl
theorem e81_47 : zE 81 d Q 47 [some (.inr (.inr w9)), l1, l2, l3] st G h k ↔ zE 81 d Q 48 [some (.inr (.inr w9)), l1, l2, l3] (.inr (.inr w9) :: st) G h k := E_aload_n (by rfl) rfl
theorem e81_48 : zE 81 d Q 48 [l0, l1, l2, l3] (zR (some r) :: st) G h k ↔ (G.2.1 r = 7 ∧ zE 81 d Q 51 [l0, l1, l2, l3] (zR (G.2.2.2 r 9) :: st) G h k) := E_getR (by rfl) rfl
theorem e81_51 : zE 81 d Q 51 [l0, l1, some (zI x), l3] st G h k ↔ zE 81 d Q 52 [l0, l1, some (zI x), l3] (zI x :: st) G h k := E_iload_n (by rfl) rfl
theorem e81_52 : zE 81 d Q 52 [l0, l1, l2, l3] (v0 :: zR (some r) :: st) G h k ↔ (zsum st ≤ 8 ∧ G.2.1 r = 4 ∧ zRunD ztb zmt' d 43 [zR (some r), v0] G h (fun v G' h' => zE 81 d Q 55 [l0, l1, l2, l3] (v.toList ++ st) G' h' k)) := E_invV2z (by rfl) (by decide) rfl
theorem e81_55 : zE 81 d Q 55 [some (.inr (.inr w9)), l1, l2, l3] st G h k ↔ zE 81 d Q 56 [some (.inr (.inr w9)), l1, l2, l3] (.inr (.inr w9) :: st) G h k := E_aload_n (by rfl) rfl
theorem e81_56 : zE 81 d Q 56 [l0, l1, l2, l3] (zR (some r) :: st) G h k ↔ (G.2.1 r = 7 ∧ zE 81 d Q 59 [l0, l1, l2, l3] (zR (G.2.2.2 r 9) :: st) G h k) := E_getR (by rfl) rfl
theorem e81_59 : zE 81 d Q 59 [l0, l1, l2, l3] (zR (some r) :: st) G h k ↔ (G.2.1 r = 4 ∧ zE 81 d Q 62 [l0, l1, l2, l3] (zR (G.2.2.2 r 13) :: st) G h k) := E_getR (by rfl) rfl
theorem e81_62 : zE 81 d Q 62 [l0, some (zI x), l2, l3] st G h k ↔ zE 81 d Q 63 [l0, some (zI x), l2, l3] (zI x :: st) G h k := E_iload_n (by rfl) rfl
theorem e81_63 : zE 81 d Q 63 [l0, l1, l2, l3] (zI i :: zR (some r) :: st) G h k ↔ (G.2.1 r = 11 ∧ (0 ≤ i ∧ i < G.2.2.1 r) ∧ zE 81 d Q 64 [l0, l1, l2, l3] (zL (h r i.toNat) :: st) G h k) := E_laload (by rfl)
theorem e81_64 : zE 81 d Q 64 [l0, l1, l2, l3] [zL x] G h k ↔ Q (some (zL x)) G h := E_lret (by rfl) rfl
theorem e82_0 : zE 82 d Q 0 [some (.inr (.inr w9)), l1, l2, l3, l4, l5, l6, l7, l8] st G h k ↔ zE 82 d Q 1 [some (.inr (.inr w9)), l1, l2, l3, l4, l5, l6, l7, l8] (.inr (.inr w9) :: st) G h k := E_aload_n (by rfl) rfl
theorem e82_1 : zE 82 d Q 1 [some (.inr (.inr w9)), l1, l2, l3, l4, l5, l6, l7, l8] st G h k ↔ zE 82 d Q 2 [some (.inr (.inr w9)), l1, l2, l3, l4, l5, l6, l7, l8] (.inr (.inr w9) :: st) G h k := E_aload_n (by rfl) rfl
theorem e82_2 : zE 82 d Q 2 [l0, some (zI x), l2, l3, l4, l5, l6, l7, l8] st G h k ↔ zE 82 d Q 3 [l0, some (zI x), l2, l3, l4, l5, l6, l7, l8] (zI x :: st) G h k := E_iload_n (by rfl) rfl
theorem e82_3 : zE 82 d Q 3 [l0, l1, l2, l3, l4, l5, l6, l7, l8] (v0 :: zR (some r) :: st) G h k ↔ (zsum st ≤ 8 ∧ G.2.1 r = 7 ∧ zRunD ztb zmt' d 99 [zR (some r), v0] G h (fun v G' h' => zE 82 d Q 6 [l0, l1, l2, l3, l4, l5, l6, l7, l8] (v.toList ++ st) G' h' k)) := E_invV2z (by rfl) (by decide) rfl
theorem e82_6 : zE 82 d Q 6 [l0, l1, l2, l3, l4, l5, l6, l7, l8] (zI x :: st) G h k ↔ ((x = 0 → zE 82 d Q 18 [l0, l1, l2, l3, l4, l5, l6, l7, l8] st G h k) ∧ (¬ (x = 0) → zE 82 d Q 9 [l0, l1, l2, l3, l4, l5, l6, l7, l8] st G h k)) := E_if_eq (by rfl)
theorem e82_9 : zE 82 d Q 9 [some (.inr (.inr w9)), l1, l2, l3, l4, l5, l6, l7, l8] st G h k ↔ zE 82 d Q 10 [some (.inr (.inr w9)), l1, l2, l3, l4, l5, l6, l7, l8] (.inr (.inr w9) :: st) G h k := E_aload_n (by rfl) rfl
theorem e82_10 : zE 82 d Q 10 [l0, l1, some (zI x), l3, l4, l5, l6, l7, l8] st G h k ↔ zE 82 d Q 11 [l0, l1, some (zI x), l3, l4, l5, l6, l7, l8] (zI x :: st) G h k := E_iload_n (by rfl) rfl
theorem e82_11 : zE 82 d Q 11 [l0, l1, l2, l3, l4, l5, l6, l7, l8] st G h k ↔ zE 82 d Q 12 [l0, l1, l2, l3, l4, l5, l6, l7, l8] (zI 0 :: st) G h k := E_iconst (by rfl)
theorem e82_12 : zE 82 d Q 12 [l0, l1, l2, l3, l4, l5, l6, l7, l8] (v1 :: v0 :: zR (some r) :: st) G h k ↔ (zsum st ≤ 8 ∧ G.2.1 r = 7 ∧ zRunD ztb zmt' d 104 [zR (some r), v0, v1] G h (fun v G' h' => zE 82 d Q 15 [l0, l1, l2, l3, l4, l5, l6, l7, l8] (v.toList ++ st) G' h' k)) := E_invV2z (by rfl) (by decide) rfl
theorem e82_15 : zE 82 d Q 15 [l0, l1, l2, l3, l4, l5, l6, l7, l8] st G h k ↔ zE 82 d Q 19 [l0, l1, l2, l3, l4, l5, l6, l7, l8] st G h k := E_goto (by rfl)
theorem e82_18 : zE 82 d Q 18 [l0, l1, l2, l3, l4, l5, l6, l7, l8] st G h k ↔ zE 82 d Q 19 [l0, l1, l2, l3, l4, l5, l6, l7, l8] (zI 1 :: st) G h k := E_iconst (by rfl)
theorem e82_19 : zE 82 d Q 19 [l0, l1, l2, l3, l4, l5, l6, l7, l8] (zI x :: zR (some r) :: st) G h k ↔ (G.2.1 r = 7 ∧ zE 82 d Q 22 [l0, l1, l2, l3, l4, l5, l6, l7, l8] st G (zu h r 11 x) k) := E_putI (by rfl) rfl
theorem e82_22 : zE 82 d Q 22 [some (.inr (.inr w9)), l1, l2, l3, l4, l5, l6, l7, l8] st G h k ↔ zE 82 d Q 23 [some (.inr (.inr w9)), l1, l2, l3, l4, l5, l6, l7, l8] (.inr (.inr w9) :: st) G h k := E_aload_n (by rfl) rfl
theorem e82_23 : zE 82 d Q 23 [l0, l1, l2, l3, l4, l5, l6, l7, l8] (zR (some r) :: st) G h k ↔ (G.2.1 r = 7 ∧ zE 82 d Q 26 [l0, l1, l2, l3, l4, l5, l6, l7, l8] (zI (h r 11) :: st) G h k) := E_getI (by rfl) (by decide)
theorem e82_26 : zE 82 d Q 26 [l0, l1, l2, l3, l4, l5, l6, l7, l8] (zI x :: st) G h k ↔ ((x = 0 → zE 82 d Q 31 [l0, l1, l2, l3, l4, l5, l6, l7, l8] st G h k) ∧ (¬ (x = 0) → zE 82 d Q 29 [l0, l1, l2, l3, l4, l5, l6, l7, l8] st G h k)) := E_if_eq (by rfl)
theorem e82_29 : zE 82 d Q 29 [l0, l1, l2, l3, l4, l5, l6, l7, l8] st G h k ↔ zE 82 d Q 30 [l0, l1, l2, l3, l4, l5, l6, l7, l8] (zI (-1) :: st) G h k := E_iconst (by rfl)
theorem e82_30 : zE 82 d Q 30 [l0, l1, l2, l3, l4, l5, l6, l7, l8] [zI x] G h k ↔ Q (some (zI x)) G h := E_iret (by rfl) rfl
theorem e82_31 : zE 82 d Q 31 [l0, l1, l2, l3, l4, l5, l6, l7, l8] st G h k ↔ zE 82 d Q 32 [l0, l1, l2, l3, l4, l5, l6, l7, l8] (zI 0 :: st) G h k := E_iconst (by rfl)
theorem e82_32 : zE 82 d Q 32 [l0, l1, l2, l3, l4, l5, l6, l7, l8] (zI x :: st) G h k ↔ zE 82 d Q 33 [l0, l1, (zclr l2), some (zI x), l4, l5, l6, l7, l8] st G h k := E_istore_n (by rfl) (by decide)
theorem e82_33 : zE 82 d Q 33 [some (.inr (.inr w9)), l1, l2, l3, l4, l5, l6, l7, l8] st G h k ↔ zE 82 d Q 34 [some (.inr (.inr w9)), l1, l2, l3, l4, l5, l6, l7, l8] (.inr (.inr w9) :: st) G h k := E_aload_n (by rfl) rfl
theorem e82_34 : zE 82 d Q 34 [l0, some (zI x), l2, l3, l4, l5, l6, l7, l8] st G h k ↔ zE 82 d Q 35 [l0, some (zI x), l2, l3, l4, l5, l6, l7, l8] (zI x :: st) G h k := E_iload_n (by rfl) rfl
theorem e82_35 : zE 82 d Q 35 [l0, l1, some (zI x), l3, l4, l5, l6, l7, l8] st G h k ↔ zE 82 d Q 36 [l0, l1, some (zI x), l3, l4, l5, l6, l7, l8] (zI x :: st) G h k := E_iload_n (by rfl) rfl
theorem e82_36 : zE 82 d Q 36 [l0, l1, l2, l3, l4, l5, l6, l7, l8] st G h k ↔ zE 82 d Q 37 [l0, l1, l2, l3, l4, l5, l6, l7, l8] (zI 0 :: st) G h k := E_iconst (by rfl)
theorem e82_37 : zE 82 d Q 37 [l0, l1, l2, l3, l4, l5, l6, l7, l8] (v2 :: v1 :: v0 :: zR (some r) :: st) G h k ↔ (zsum st ≤ 8 ∧ G.2.1 r = 7 ∧ zRunD ztb zmt' d 83 [zR (some r), v0, v1, v2] G h (fun v G' h' => zE 82 d Q 40 [l0, l1, l2, l3, l4, l5, l6, l7, l8] (v.toList ++ st) G' h' k)) := E_invV2z (by rfl) (by decide) rfl
theorem e82_40 : zE 82 d Q 40 [l0, l1, l2, l3, l4, l5, l6, l7, l8] (zL x :: st) G h k ↔ zE 82 d Q 42 [l0, l1, l2, (zclr l3), some (zL x), none, l6, l7, l8] st G h k := E_lstore (by rfl) (by decide)
theorem e82_42 : zE 82 d Q 42 [l0, l1, l2, l3, l4, l5, l6, l7, l8] st G h k ↔ zE 82 d Q 43 [l0, l1, l2, l3, l4, l5, l6, l7, l8] (zI 1 :: st) G h k := E_iconst (by rfl)
theorem e82_43 : zE 82 d Q 43 [l0, l1, l2, l3, l4, l5, l6, l7, l8] (zI x :: st) G h k ↔ zE 82 d Q 45 [l0, l1, l2, l3, l4, (zclr l5), some (zI x), l7, l8] st G h k := E_istore (by rfl) (by decide)
theorem e82_45 : zE 82 d Q 45 [l0, l1, l2, l3, l4, l5, some (zI x), l7, l8] st G h k ↔ zE 82 d Q 47 [l0, l1, l2, l3, l4, l5, some (zI x), l7, l8] (zI x :: st) G h k := E_iload (by rfl) rfl
theorem e82_47 : zE 82 d Q 47 [l0, l1, l2, l3, l4, l5, l6, l7, l8] st G h k ↔ zE 82 d Q 48 [l0, l1, l2, l3, l4, l5, l6, l7, l8] (zI 5 :: st) G h k := E_iconst (by rfl)
theorem e82_48 : zE 82 d Q 48 [l0, l1, l2, l3, l4, l5, l6, l7, l8] (zI y :: zI x :: st) G h k ↔ ((y < x → zE 82 d Q 82 [l0, l1, l2, l3, l4, l5, l6, l7, l8] st G h k) ∧ (¬ (y < x) → zE 82 d Q 51 [l0, l1, l2, l3, l4, l5, l6, l7, l8] st G h k)) := E_icmp_gt (by rfl)
theorem e82_51 : zE 82 d Q 51 [some (.inr (.inr w9)), l1, l2, l3, l4, l5, l6, l7, l8] st G h k ↔ zE 82 d Q 52 [some (.inr (.inr w9)), l1, l2, l3, l4, l5, l6, l7, l8] (.inr (.inr w9) :: st) G h k := E_aload_n (by rfl) rfl
theorem e82_52 : zE 82 d Q 52 [l0, some (zI x), l2, l3, l4, l5, l6, l7, l8] st G h k ↔ zE 82 d Q 53 [l0, some (zI x), l2, l3, l4, l5, l6, l7, l8] (zI x :: st) G h k := E_iload_n (by rfl) rfl
theorem e82_53 : zE 82 d Q 53 [l0, l1, some (zI x), l3, l4, l5, l6, l7, l8] st G h k ↔ zE 82 d Q 54 [l0, l1, some (zI x), l3, l4, l5, l6, l7, l8] (zI x :: st) G h k := E_iload_n (by rfl) rfl
theorem e82_54 : zE 82 d Q 54 [l0, l1, l2, l3, l4, l5, some (zI x), l7, l8] st G h k ↔ zE 82 d Q 56 [l0, l1, l2, l3, l4, l5, some (zI x), l7, l8] (zI x :: st) G h k := E_iload (by rfl) rfl
theorem e82_56 : zE 82 d Q 56 [l0, l1, l2, l3, l4, l5, l6, l7, l8] (v2 :: v1 :: v0 :: zR (some r) :: st) G h k ↔ (zsum st ≤ 8 ∧ G.2.1 r = 7 ∧ zRunD ztb zmt' d 83 [zR (some r), v0, v1, v2] G h (fun v G' h' => zE 82 d Q 59 [l0, l1, l2, l3, l4, l5, l6, l7, l8] (v.toList ++ st) G' h' k)) := E_invV2z (by rfl) (by decide) rfl
theorem e82_59 : zE 82 d Q 59 [l0, l1, l2, l3, l4, l5, l6, l7, l8] (zL x :: st) G h k ↔ zE 82 d Q 61 [l0, l1, l2, l3, l4, l5, (zclr l6), some (zL x), none] st G h k := E_lstore (by rfl) (by decide)
theorem e82_61 : zE 82 d Q 61 [l0, l1, l2, l3, l4, l5, l6, some (zL x), l8] st G h k ↔ zE 82 d Q 63 [l0, l1, l2, l3, l4, l5, l6, some (zL x), l8] (zL x :: st) G h k := E_lload (by rfl) rfl
theorem e82_63 : zE 82 d Q 63 [l0, l1, l2, l3, some (zL x), l5, l6, l7, l8] st G h k ↔ zE 82 d Q 65 [l0, l1, l2, l3, some (zL x), l5, l6, l7, l8] (zL x :: st) G h k := E_lload (by rfl) rfl
theorem e82_65 : zE 82 d Q 65 [l0, l1, l2, l3, l4, l5, l6, l7, l8] (zL y :: zL x :: st) G h k ↔ zE 82 d Q 66 [l0, l1, l2, l3, l4, l5, l6, l7, l8] (zI (zlc x y) :: st) G h k := E_lcmp (by rfl)
theorem e82_66 : zE 82 d Q 66 [l0, l1, l2, l3, l4, l5, l6, l7, l8] (zI x :: st) G h k ↔ ((0 ≤ x → zE 82 d Q 76 [l0, l1, l2, l3, l4, l5, l6, l7, l8] st G h k) ∧ (¬ (0 ≤ x) → zE 82 d Q 69 [l0, l1, l2, l3, l4, l5, l6, l7, l8] st G h k)) := E_if_ge (by rfl)
theorem e82_69 : zE 82 d Q 69 [l0, l1, l2, l3, l4, l5, l6, some (zL x), l8] st G h k ↔ zE 82 d Q 71 [l0, l1, l2, l3, l4, l5, l6, some (zL x), l8] (zL x :: st) G h k := E_lload (by rfl) rfl
theorem e82_71 : zE 82 d Q 71 [l0, l1, l2, l3, l4, l5, l6, l7, l8] (zL x :: st) G h k ↔ zE 82 d Q 73 [l0, l1, l2, (zclr l3), some (zL x), none, l6, l7, l8] st G h k := E_lstore (by rfl) (by decide)
theorem e82_73 : zE 82 d Q 73 [l0, l1, l2, l3, l4, l5, some (zI x), l7, l8] st G h k ↔ zE 82 d Q 75 [l0, l1, l2, l3, l4, l5, some (zI x), l7, l8] (zI x :: st) G h k := E_iload (by rfl) rfl
theorem e82_75 : zE 82 d Q 75 [l0, l1, l2, l3, l4, l5, l6, l7, l8] (zI x :: st) G h k ↔ zE 82 d Q 76 [l0, l1, (zclr l2), some (zI x), l4, l5, l6, l7, l8] st G h k := E_istore_n (by rfl) (by decide)
theorem e82_76 : zE 82 d Q 76 [l0, l1, l2, l3, l4, l5, some (zI x), l7, l8] st G h k ↔ zE 82 d Q 79 [l0, l1, l2, l3, l4, (zclr l5), some (zI (wr (x + 1))), l7, l8] st G h k := E_iinc (by rfl) rfl
theorem e82_79 : zE 82 d Q 79 [l0, l1, l2, l3, l4, l5, l6, l7, l8] st G h k ↔ zE 82 d Q 45 [l0, l1, l2, l3, l4, l5, l6, l7, l8] st G h k := E_goto (by rfl)
theorem e82_82 : zE 82 d Q 82 [l0, l1, l2, some (zI x), l4, l5, l6, l7, l8] st G h k ↔ zE 82 d Q 83 [l0, l1, l2, some (zI x), l4, l5, l6, l7, l8] (zI x :: st) G h k := E_iload_n (by rfl) rfl
theorem e82_83 : zE 82 d Q 83 [l0, l1, l2, l3, l4, l5, l6, l7, l8] [zI x] G h k ↔ Q (some (zI x)) G h := E_iret (by rfl) rfl
theorem e83_0 : zE 83 d Q 0 [some (.inr (.inr w9)), l1, l2, l3] st G h k ↔ zE 83 d Q 1 [some (.inr (.inr w9)), l1, l2, l3] (.inr (.inr w9) :: st) G h k := E_aload_n (by rfl) rfl
theorem e83_1 : zE 83 d Q 1 [l0, l1, l2, some (zI x)] st G h k ↔ zE 83 d Q 2 [l0, l1, l2, some (zI x)] (zI x :: st) G h k := E_iload_n (by rfl) rfl
theorem e83_2 : zE 83 d Q 2 [l0, l1, some (zI x), l3] st G h k ↔ zE 83 d Q 3 [l0, l1, some (zI x), l3] (zI x :: st) G h k := E_iload_n (by rfl) rfl
theorem e83_3 : zE 83 d Q 3 [l0, l1, l2, l3] (v1 :: v0 :: zR (some r) :: st) G h k ↔ (zsum st ≤ 8 ∧ G.2.1 r = 7 ∧ zRunD ztb zmt' d 108 [zR (some r), v0, v1] G h (fun v G' h' => zE 83 d Q 6 [l0, l1, l2, l3] (v.toList ++ st) G' h' k)) := E_invV2z (by rfl) (by decide) rfl
theorem e83_6 : zE 83 d Q 6 [some (.inr (.inr w9)), l1, l2, l3] st G h k ↔ zE 83 d Q 7 [some (.inr (.inr w9)), l1, l2, l3] (.inr (.inr w9) :: st) G h k := E_aload_n (by rfl) rfl
theorem e83_7 : zE 83 d Q 7 [l0, l1, l2, l3] (zR (some r) :: st) G h k ↔ (G.2.1 r = 7 ∧ zE 83 d Q 10 [l0, l1, l2, l3] (zR (G.2.2.2 r 9) :: st) G h k) := E_getR (by rfl) rfl
theorem e83_10 : zE 83 d Q 10 [l0, l1, some (zI x), l3] st G h k ↔ zE 83 d Q 11 [l0, l1, some (zI x), l3] (zI x :: st) G h k := E_iload_n (by rfl) rfl
theorem e83_11 : zE 83 d Q 11 [l0, l1, l2, l3] (v0 :: zR (some r) :: st) G h k ↔ (zsum st ≤ 8 ∧ G.2.1 r = 4 ∧ zRunD ztb zmt' d 43 [zR (some r), v0] G h (fun v G' h' => zE 83 d Q 14 [l0, l1, l2, l3] (v.toList ++ st) G' h' k)) := E_invV2z (by rfl) (by decide) rfl
theorem e83_14 : zE 83 d Q 14 [some (.inr (.inr w9)), l1, l2, l3] st G h k ↔ zE 83 d Q 15 [some (.inr (.inr w9)), l1, l2, l3] (.inr (.inr w9) :: st) G h k := E_aload_n (by rfl) rfl
theorem e83_15 : zE 83 d Q 15 [l0, l1, l2, l3] (zR (some r) :: st) G h k ↔ (G.2.1 r = 7 ∧ zE 83 d Q 18 [l0, l1, l2, l3] (zR (G.2.2.2 r 9) :: st) G h k) := E_getR (by rfl) rfl
theorem e83_18 : zE 83 d Q 18 [l0, l1, l2, l3] (zR (some r) :: st) G h k ↔ (G.2.1 r = 4 ∧ zE 83 d Q 21 [l0, l1, l2, l3] (zR (G.2.2.2 r 12) :: st) G h k) := E_getR (by rfl) rfl
theorem e83_21 : zE 83 d Q 21 [l0, some (zI x), l2, l3] st G h k ↔ zE 83 d Q 22 [l0, some (zI x), l2, l3] (zI x :: st) G h k := E_iload_n (by rfl) rfl
theorem e83_22 : zE 83 d Q 22 [l0, l1, l2, l3] (zI i :: zR (some r) :: st) G h k ↔ (G.2.1 r = 11 ∧ (0 ≤ i ∧ i < G.2.2.1 r) ∧ zE 83 d Q 23 [l0, l1, l2, l3] (zL (h r i.toNat) :: st) G h k) := E_laload (by rfl)
theorem e83_23 : zE 83 d Q 23 [l0, l1, l2, l3] [zL x] G h k ↔ Q (some (zL x)) G h := E_lret (by rfl) rfl
theorem e84_0 : zE 84 d Q 0 [some (.inr (.inr w9)), l1, l2, l3] st G h k ↔ zE 84 d Q 1 [some (.inr (.inr w9)), l1, l2, l3] (.inr (.inr w9) :: st) G h k := E_aload_n (by rfl) rfl
theorem e84_1 : zE 84 d Q 1 [some (.inr (.inr w9)), l1, l2, l3] st G h k ↔ zE 84 d Q 2 [some (.inr (.inr w9)), l1, l2, l3] (.inr (.inr w9) :: st) G h k := E_aload_n (by rfl) rfl
theorem e84_2 : zE 84 d Q 2 [l0, some (zI x), l2, l3] st G h k ↔ zE 84 d Q 3 [l0, some (zI x), l2, l3] (zI x :: st) G h k := E_iload_n (by rfl) rfl
theorem e84_3 : zE 84 d Q 3 [l0, l1, l2, l3] (v0 :: zR (some r) :: st) G h k ↔ (zsum st ≤ 8 ∧ G.2.1 r = 7 ∧ zRunD ztb zmt' d 98 [zR (some r), v0] G h (fun v G' h' => zE 84 d Q 6 [l0, l1, l2, l3] (v.toList ++ st) G' h' k)) := E_invV2z (by rfl) (by decide) rfl
theorem e84_6 : zE 84 d Q 6 [l0, l1, l2, l3] (zI x :: st) G h k ↔ ((¬ x = 0 → zE 84 d Q 13 [l0, l1, l2, l3] st G h k) ∧ (¬ (¬ x = 0) → zE 84 d Q 9 [l0, l1, l2, l3] st G h k)) := E_if_ne (by rfl)
theorem e84_9 : zE 84 d Q 9 [l0, l1, l2, l3] st G h k ↔ zE 84 d Q 10 [l0, l1, l2, l3] (zI 1 :: st) G h k := E_iconst (by rfl)
theorem e84_10 : zE 84 d Q 10 [l0, l1, l2, l3] st G h k ↔ zE 84 d Q 31 [l0, l1, l2, l3] st G h k := E_goto (by rfl)
theorem e84_13 : zE 84 d Q 13 [some (.inr (.inr w9)), l1, l2, l3] st G h k ↔ zE 84 d Q 14 [some (.inr (.inr w9)), l1, l2, l3] (.inr (.inr w9) :: st) G h k := E_aload_n (by rfl) rfl
theorem e84_14 : zE 84 d Q 14 [l0, l1, some (zI x), l3] st G h k ↔ zE 84 d Q 15 [l0, l1, some (zI x), l3] (zI x :: st) G h k := E_iload_n (by rfl) rfl
theorem e84_15 : zE 84 d Q 15 [l0, l1, l2, l3] (v0 :: zR (some r) :: st) G h k ↔ (zsum st ≤ 8 ∧ G.2.1 r = 7 ∧ zRunD ztb zmt' d 100 [zR (some r), v0] G h (fun v G' h' => zE 84 d Q 18 [l0, l1, l2, l3] (v.toList ++ st) G' h' k)) := E_invV2z (by rfl) (by decide) rfl
theorem e84_18 : zE 84 d Q 18 [l0, l1, l2, l3] (zI x :: st) G h k ↔ ((¬ x = 0 → zE 84 d Q 25 [l0, l1, l2, l3] st G h k) ∧ (¬ (¬ x = 0) → zE 84 d Q 21 [l0, l1, l2, l3] st G h k)) := E_if_ne (by rfl)
theorem e84_21 : zE 84 d Q 21 [l0, l1, l2, l3] st G h k ↔ zE 84 d Q 22 [l0, l1, l2, l3] (zI 2 :: st) G h k := E_iconst (by rfl)
theorem e84_22 : zE 84 d Q 22 [l0, l1, l2, l3] st G h k ↔ zE 84 d Q 31 [l0, l1, l2, l3] st G h k := E_goto (by rfl)
theorem e84_25 : zE 84 d Q 25 [some (.inr (.inr w9)), l1, l2, l3] st G h k ↔ zE 84 d Q 26 [some (.inr (.inr w9)), l1, l2, l3] (.inr (.inr w9) :: st) G h k := E_aload_n (by rfl) rfl
theorem e84_26 : zE 84 d Q 26 [l0, l1, l2, some (zI x)] st G h k ↔ zE 84 d Q 27 [l0, l1, l2, some (zI x)] (zI x :: st) G h k := E_iload_n (by rfl) rfl
theorem e84_27 : zE 84 d Q 27 [l0, l1, l2, l3] st G h k ↔ zE 84 d Q 28 [l0, l1, l2, l3] (zI 0 :: st) G h k := E_iconst (by rfl)
theorem e84_28 : zE 84 d Q 28 [l0, l1, l2, l3] (v1 :: v0 :: zR (some r) :: st) G h k ↔ (zsum st ≤ 8 ∧ G.2.1 r = 7 ∧ zRunD ztb zmt' d 104 [zR (some r), v0, v1] G h (fun v G' h' => zE 84 d Q 31 [l0, l1, l2, l3] (v.toList ++ st) G' h' k)) := E_invV2z (by rfl) (by decide) rfl
theorem e84_31 : zE 84 d Q 31 [l0, l1, l2, l3] (zI x :: zR (some r) :: st) G h k ↔ (G.2.1 r = 7 ∧ zE 84 d Q 34 [l0, l1, l2, l3] st G (zu h r 11 x) k) := E_putI (by rfl) rfl
theorem e84_34 : zE 84 d Q 34 [some (.inr (.inr w9)), l1, l2, l3] st G h k ↔ zE 84 d Q 35 [some (.inr (.inr w9)), l1, l2, l3] (.inr (.inr w9) :: st) G h k := E_aload_n (by rfl) rfl
theorem e84_35 : zE 84 d Q 35 [l0, l1, l2, l3] (zR (some r) :: st) G h k ↔ (G.2.1 r = 7 ∧ zE 84 d Q 38 [l0, l1, l2, l3] (zI (h r 11) :: st) G h k) := E_getI (by rfl) (by decide)
theorem e84_38 : zE 84 d Q 38 [l0, l1, l2, l3] (zI x :: st) G h k ↔ ((x = 0 → zE 84 d Q 45 [l0, l1, l2, l3] st G h k) ∧ (¬ (x = 0) → zE 84 d Q 41 [l0, l1, l2, l3] st G h k)) := E_if_eq (by rfl)
theorem e84_41 : zE 84 d Q 41 [l0, l1, l2, l3] st G h k ↔ zE 84 d Q 44 [l0, l1, l2, l3] (zL (-9223372036854775808) :: st) G h k := E_ldc2_w (by rfl)
theorem e84_44 : zE 84 d Q 44 [l0, l1, l2, l3] [zL x] G h k ↔ Q (some (zL x)) G h := E_lret (by rfl) rfl
theorem e84_45 : zE 84 d Q 45 [some (.inr (.inr w9)), l1, l2, l3] st G h k ↔ zE 84 d Q 46 [some (.inr (.inr w9)), l1, l2, l3] (.inr (.inr w9) :: st) G h k := E_aload_n (by rfl) rfl
theorem e84_46 : zE 84 d Q 46 [l0, l1, l2, l3] st G h k ↔ zE 84 d Q 47 [l0, l1, l2, l3] (zI 0 :: st) G h k := E_iconst (by rfl)
theorem e84_47 : zE 84 d Q 47 [l0, l1, l2, some (zI x)] st G h k ↔ zE 84 d Q 48 [l0, l1, l2, some (zI x)] (zI x :: st) G h k := E_iload_n (by rfl) rfl
theorem e84_48 : zE 84 d Q 48 [l0, l1, l2, l3] (v1 :: v0 :: zR (some r) :: st) G h k ↔ (zsum st ≤ 8 ∧ G.2.1 r = 7 ∧ zRunD ztb zmt' d 108 [zR (some r), v0, v1] G h (fun v G' h' => zE 84 d Q 51 [l0, l1, l2, l3] (v.toList ++ st) G' h' k)) := E_invV2z (by rfl) (by decide) rfl
theorem e84_51 : zE 84 d Q 51 [some (.inr (.inr w9)), l1, l2, l3] st G h k ↔ zE 84 d Q 52 [some (.inr (.inr w9)), l1, l2, l3] (.inr (.inr w9) :: st) G h k := E_aload_n (by rfl) rfl
theorem e84_52 : zE 84 d Q 52 [l0, l1, l2, l3] (zR (some r) :: st) G h k ↔ (G.2.1 r = 7 ∧ zE 84 d Q 55 [l0, l1, l2, l3] (zR (G.2.2.2 r 9) :: st) G h k) := E_getR (by rfl) rfl
theorem e84_55 : zE 84 d Q 55 [l0, some (zI x), l2, l3] st G h k ↔ zE 84 d Q 56 [l0, some (zI x), l2, l3] (zI x :: st) G h k := E_iload_n (by rfl) rfl
theorem e84_56 : zE 84 d Q 56 [l0, l1, some (zI x), l3] st G h k ↔ zE 84 d Q 57 [l0, l1, some (zI x), l3] (zI x :: st) G h k := E_iload_n (by rfl) rfl
theorem e84_57 : zE 84 d Q 57 [l0, l1, l2, l3] (v1 :: v0 :: zR (some r) :: st) G h k ↔ (zsum st ≤ 8 ∧ G.2.1 r = 4 ∧ zRunD ztb zmt' d 33 [zR (some r), v0, v1] G h (fun v G' h' => zE 84 d Q 60 [l0, l1, l2, l3] (v.toList ++ st) G' h' k)) := E_invV2z (by rfl) (by decide) rfl
theorem e84_60 : zE 84 d Q 60 [some (.inr (.inr w9)), l1, l2, l3] st G h k ↔ zE 84 d Q 61 [some (.inr (.inr w9)), l1, l2, l3] (.inr (.inr w9) :: st) G h k := E_aload_n (by rfl) rfl
theorem e84_61 : zE 84 d Q 61 [l0, some (zI x), l2, l3] st G h k ↔ zE 84 d Q 62 [l0, some (zI x), l2, l3] (zI x :: st) G h k := E_iload_n (by rfl) rfl
theorem e84_62 : zE 84 d Q 62 [l0, l1, l2, some (zI x)] st G h k ↔ zE 84 d Q 63 [l0, l1, l2, some (zI x)] (zI x :: st) G h k := E_iload_n (by rfl) rfl
theorem e84_63 : zE 84 d Q 63 [l0, l1, l2, l3] (v1 :: v0 :: zR (some r) :: st) G h k ↔ (zsum st ≤ 8 ∧ G.2.1 r = 7 ∧ zRunD ztb zmt' d 109 [zR (some r), v0, v1] G h (fun v G' h' => zE 84 d Q 66 [l0, l1, l2, l3] (v.toList ++ st) G' h' k)) := E_invV2z (by rfl) (by decide) rfl
theorem e84_66 : zE 84 d Q 66 [l0, l1, l2, l3] [zL x] G h k ↔ Q (some (zL x)) G h := E_lret (by rfl) rfl
theorem e85_0 : zE 85 d Q 0 [some (.inr (.inr w9)), l1, l2, l3] st G h k ↔ zE 85 d Q 1 [some (.inr (.inr w9)), l1, l2, l3] (.inr (.inr w9) :: st) G h k := E_aload_n (by rfl) rfl
theorem e85_1 : zE 85 d Q 1 [some (.inr (.inr w9)), l1, l2, l3] st G h k ↔ zE 85 d Q 2 [some (.inr (.inr w9)), l1, l2, l3] (.inr (.inr w9) :: st) G h k := E_aload_n (by rfl) rfl
theorem e85_2 : zE 85 d Q 2 [l0, some (zI x), l2, l3] st G h k ↔ zE 85 d Q 3 [l0, some (zI x), l2, l3] (zI x :: st) G h k := E_iload_n (by rfl) rfl
theorem e85_3 : zE 85 d Q 3 [l0, l1, l2, l3] (v0 :: zR (some r) :: st) G h k ↔ (zsum st ≤ 8 ∧ G.2.1 r = 7 ∧ zRunD ztb zmt' d 98 [zR (some r), v0] G h (fun v G' h' => zE 85 d Q 6 [l0, l1, l2, l3] (v.toList ++ st) G' h' k)) := E_invV2z (by rfl) (by decide) rfl
theorem e85_6 : zE 85 d Q 6 [l0, l1, l2, l3] (zI x :: st) G h k ↔ ((x = 0 → zE 85 d Q 26 [l0, l1, l2, l3] st G h k) ∧ (¬ (x = 0) → zE 85 d Q 9 [l0, l1, l2, l3] st G h k)) := E_if_eq (by rfl)
theorem e85_9 : zE 85 d Q 9 [some (.inr (.inr w9)), l1, l2, l3] st G h k ↔ zE 85 d Q 10 [some (.inr (.inr w9)), l1, l2, l3] (.inr (.inr w9) :: st) G h k := E_aload_n (by rfl) rfl
theorem e85_10 : zE 85 d Q 10 [l0, l1, some (zI x), l3] st G h k ↔ zE 85 d Q 11 [l0, l1, some (zI x), l3] (zI x :: st) G h k := E_iload_n (by rfl) rfl
theorem e85_11 : zE 85 d Q 11 [l0, l1, l2, l3] (v0 :: zR (some r) :: st) G h k ↔ (zsum st ≤ 8 ∧ G.2.1 r = 7 ∧ zRunD ztb zmt' d 98 [zR (some r), v0] G h (fun v G' h' => zE 85 d Q 14 [l0, l1, l2, l3] (v.toList ++ st) G' h' k)) := E_invV2z (by rfl) (by decide) rfl
theorem e85_14 : zE 85 d Q 14 [l0, l1, l2, l3] (zI x :: st) G h k ↔ ((x = 0 → zE 85 d Q 26 [l0, l1, l2, l3] st G h k) ∧ (¬ (x = 0) → zE 85 d Q 17 [l0, l1, l2, l3] st G h k)) := E_if_eq (by rfl)
theorem e85_17 : zE 85 d Q 17 [some (.inr (.inr w9)), l1, l2, l3] st G h k ↔ zE 85 d Q 18 [some (.inr (.inr w9)), l1, l2, l3] (.inr (.inr w9) :: st) G h k := E_aload_n (by rfl) rfl
theorem e85_18 : zE 85 d Q 18 [l0, l1, l2, some (zI x)] st G h k ↔ zE 85 d Q 19 [l0, l1, l2, some (zI x)] (zI x :: st) G h k := E_iload_n (by rfl) rfl
theorem e85_19 : zE 85 d Q 19 [l0, l1, l2, l3] st G h k ↔ zE 85 d Q 20 [l0, l1, l2, l3] (zI 0 :: st) G h k := E_iconst (by rfl)
theorem e85_20 : zE 85 d Q 20 [l0, l1, l2, l3] (v1 :: v0 :: zR (some r) :: st) G h k ↔ (zsum st ≤ 8 ∧ G.2.1 r = 7 ∧ zRunD ztb zmt' d 104 [zR (some r), v0, v1] G h (fun v G' h' => zE 85 d Q 23 [l0, l1, l2, l3] (v.toList ++ st) G' h' k)) := E_invV2z (by rfl) (by decide) rfl
theorem e85_23 : zE 85 d Q 23 [l0, l1, l2, l3] st G h k ↔ zE 85 d Q 27 [l0, l1, l2, l3] st G h k := E_goto (by rfl)
theorem e85_26 : zE 85 d Q 26 [l0, l1, l2, l3] st G h k ↔ zE 85 d Q 27 [l0, l1, l2, l3] (zI 1 :: st) G h k := E_iconst (by rfl)
theorem e85_27 : zE 85 d Q 27 [l0, l1, l2, l3] (zI x :: zR (some r) :: st) G h k ↔ (G.2.1 r = 7 ∧ zE 85 d Q 30 [l0, l1, l2, l3] st G (zu h r 11 x) k) := E_putI (by rfl) rfl
theorem e85_30 : zE 85 d Q 30 [some (.inr (.inr w9)), l1, l2, l3] st G h k ↔ zE 85 d Q 31 [some (.inr (.inr w9)), l1, l2, l3] (.inr (.inr w9) :: st) G h k := E_aload_n (by rfl) rfl
theorem e85_31 : zE 85 d Q 31 [l0, l1, l2, l3] (zR (some r) :: st) G h k ↔ (G.2.1 r = 7 ∧ zE 85 d Q 34 [l0, l1, l2, l3] (zI (h r 11) :: st) G h k) := E_getI (by rfl) (by decide)
theorem e85_34 : zE 85 d Q 34 [l0, l1, l2, l3] (zI x :: st) G h k ↔ ((x = 0 → zE 85 d Q 41 [l0, l1, l2, l3] st G h k) ∧ (¬ (x = 0) → zE 85 d Q 37 [l0, l1, l2, l3] st G h k)) := E_if_eq (by rfl)
theorem e85_37 : zE 85 d Q 37 [l0, l1, l2, l3] st G h k ↔ zE 85 d Q 40 [l0, l1, l2, l3] (zL (-9223372036854775808) :: st) G h k := E_ldc2_w (by rfl)
theorem e85_40 : zE 85 d Q 40 [l0, l1, l2, l3] [zL x] G h k ↔ Q (some (zL x)) G h := E_lret (by rfl) rfl
theorem e85_41 : zE 85 d Q 41 [some (.inr (.inr w9)), l1, l2, l3] st G h k ↔ zE 85 d Q 42 [some (.inr (.inr w9)), l1, l2, l3] (.inr (.inr w9) :: st) G h k := E_aload_n (by rfl) rfl
theorem e85_42 : zE 85 d Q 42 [l0, some (zI x), l2, l3] st G h k ↔ zE 85 d Q 43 [l0, some (zI x), l2, l3] (zI x :: st) G h k := E_iload_n (by rfl) rfl
theorem e85_43 : zE 85 d Q 43 [l0, l1, some (zI x), l3] st G h k ↔ zE 85 d Q 44 [l0, l1, some (zI x), l3] (zI x :: st) G h k := E_iload_n (by rfl) rfl
theorem e85_44 : zE 85 d Q 44 [l0, l1, l2, some (zI x)] st G h k ↔ zE 85 d Q 45 [l0, l1, l2, some (zI x)] (zI x :: st) G h k := E_iload_n (by rfl) rfl
theorem e85_45 : zE 85 d Q 45 [l0, l1, l2, l3] (v2 :: v1 :: v0 :: zR (some r) :: st) G h k ↔ (zsum st ≤ 8 ∧ G.2.1 r = 7 ∧ zRunD ztb zmt' d 87 [zR (some r), v0, v1, v2] G h (fun v G' h' => zE 85 d Q 48 [l0, l1, l2, l3] (v.toList ++ st) G' h' k)) := E_invV2z (by rfl) (by decide) rfl
theorem e85_48 : zE 85 d Q 48 [l0, l1, l2, l3] [zL x] G h k ↔ Q (some (zL x)) G h := E_lret (by rfl) rfl
theorem e86_0 : zE 86 d Q 0 [some (.inr (.inr w9)), l1, l2, l3, l4, l5, l6, l7, l8] st G h k ↔ zE 86 d Q 1 [some (.inr (.inr w9)), l1, l2, l3, l4, l5, l6, l7, l8] (.inr (.inr w9) :: st) G h k := E_aload_n (by rfl) rfl
theorem e86_1 : zE 86 d Q 1 [some (.inr (.inr w9)), l1, l2, l3, l4, l5, l6, l7, l8] st G h k ↔ zE 86 d Q 2 [some (.inr (.inr w9)), l1, l2, l3, l4, l5, l6, l7, l8] (.inr (.inr w9) :: st) G h k := E_aload_n (by rfl) rfl
theorem e86_2 : zE 86 d Q 2 [l0, some (zI x), l2, l3, l4, l5, l6, l7, l8] st G h k ↔ zE 86 d Q 3 [l0, some (zI x), l2, l3, l4, l5, l6, l7, l8] (zI x :: st) G h k := E_iload_n (by rfl) rfl
theorem e86_3 : zE 86 d Q 3 [l0, l1, l2, l3, l4, l5, l6, l7, l8] (v0 :: zR (some r) :: st) G h k ↔ (zsum st ≤ 8 ∧ G.2.1 r = 7 ∧ zRunD ztb zmt' d 98 [zR (some r), v0] G h (fun v G' h' => zE 86 d Q 6 [l0, l1, l2, l3, l4, l5, l6, l7, l8] (v.toList ++ st) G' h' k)) := E_invV2z (by rfl) (by decide) rfl
theorem e86_6 : zE 86 d Q 6 [l0, l1, l2, l3, l4, l5, l6, l7, l8] (zI x :: st) G h k ↔ ((x = 0 → zE 86 d Q 18 [l0, l1, l2, l3, l4, l5, l6, l7, l8] st G h k) ∧ (¬ (x = 0) → zE 86 d Q 9 [l0, l1, l2, l3, l4, l5, l6, l7, l8] st G h k)) := E_if_eq (by rfl)
theorem e86_9 : zE 86 d Q 9 [some (.inr (.inr w9)), l1, l2, l3, l4, l5, l6, l7, l8] st G h k ↔ zE 86 d Q 10 [some (.inr (.inr w9)), l1, l2, l3, l4, l5, l6, l7, l8] (.inr (.inr w9) :: st) G h k := E_aload_n (by rfl) rfl
theorem e86_10 : zE 86 d Q 10 [l0, l1, some (zI x), l3, l4, l5, l6, l7, l8] st G h k ↔ zE 86 d Q 11 [l0, l1, some (zI x), l3, l4, l5, l6, l7, l8] (zI x :: st) G h k := E_iload_n (by rfl) rfl
theorem e86_11 : zE 86 d Q 11 [l0, l1, l2, l3, l4, l5, l6, l7, l8] st G h k ↔ zE 86 d Q 12 [l0, l1, l2, l3, l4, l5, l6, l7, l8] (zI 0 :: st) G h k := E_iconst (by rfl)
theorem e86_12 : zE 86 d Q 12 [l0, l1, l2, l3, l4, l5, l6, l7, l8] (v1 :: v0 :: zR (some r) :: st) G h k ↔ (zsum st ≤ 8 ∧ G.2.1 r = 7 ∧ zRunD ztb zmt' d 104 [zR (some r), v0, v1] G h (fun v G' h' => zE 86 d Q 15 [l0, l1, l2, l3, l4, l5, l6, l7, l8] (v.toList ++ st) G' h' k)) := E_invV2z (by rfl) (by decide) rfl
theorem e86_15 : zE 86 d Q 15 [l0, l1, l2, l3, l4, l5, l6, l7, l8] st G h k ↔ zE 86 d Q 19 [l0, l1, l2, l3, l4, l5, l6, l7, l8] st G h k := E_goto (by rfl)
theorem e86_18 : zE 86 d Q 18 [l0, l1, l2, l3, l4, l5, l6, l7, l8] st G h k ↔ zE 86 d Q 19 [l0, l1, l2, l3, l4, l5, l6, l7, l8] (zI 1 :: st) G h k := E_iconst (by rfl)
theorem e86_19 : zE 86 d Q 19 [l0, l1, l2, l3, l4, l5, l6, l7, l8] (zI x :: zR (some r) :: st) G h k ↔ (G.2.1 r = 7 ∧ zE 86 d Q 22 [l0, l1, l2, l3, l4, l5, l6, l7, l8] st G (zu h r 11 x) k) := E_putI (by rfl) rfl
theorem e86_22 : zE 86 d Q 22 [some (.inr (.inr w9)), l1, l2, l3, l4, l5, l6, l7, l8] st G h k ↔ zE 86 d Q 23 [some (.inr (.inr w9)), l1, l2, l3, l4, l5, l6, l7, l8] (.inr (.inr w9) :: st) G h k := E_aload_n (by rfl) rfl
theorem e86_23 : zE 86 d Q 23 [l0, l1, l2, l3, l4, l5, l6, l7, l8] (zR (some r) :: st) G h k ↔ (G.2.1 r = 7 ∧ zE 86 d Q 26 [l0, l1, l2, l3, l4, l5, l6, l7, l8] (zI (h r 11) :: st) G h k) := E_getI (by rfl) (by decide)
theorem e86_26 : zE 86 d Q 26 [l0, l1, l2, l3, l4, l5, l6, l7, l8] (zI x :: st) G h k ↔ ((x = 0 → zE 86 d Q 31 [l0, l1, l2, l3, l4, l5, l6, l7, l8] st G h k) ∧ (¬ (x = 0) → zE 86 d Q 29 [l0, l1, l2, l3, l4, l5, l6, l7, l8] st G h k)) := E_if_eq (by rfl)
theorem e86_29 : zE 86 d Q 29 [l0, l1, l2, l3, l4, l5, l6, l7, l8] st G h k ↔ zE 86 d Q 30 [l0, l1, l2, l3, l4, l5, l6, l7, l8] (zI (-1) :: st) G h k := E_iconst (by rfl)
theorem e86_30 : zE 86 d Q 30 [l0, l1, l2, l3, l4, l5, l6, l7, l8] [zI x] G h k ↔ Q (some (zI x)) G h := E_iret (by rfl) rfl
theorem e86_31 : zE 86 d Q 31 [l0, l1, l2, l3, l4, l5, l6, l7, l8] st G h k ↔ zE 86 d Q 32 [l0, l1, l2, l3, l4, l5, l6, l7, l8] (zI 0 :: st) G h k := E_iconst (by rfl)
theorem e86_32 : zE 86 d Q 32 [l0, l1, l2, l3, l4, l5, l6, l7, l8] (zI x :: st) G h k ↔ zE 86 d Q 33 [l0, l1, (zclr l2), some (zI x), l4, l5, l6, l7, l8] st G h k := E_istore_n (by rfl) (by decide)
theorem e86_33 : zE 86 d Q 33 [some (.inr (.inr w9)), l1, l2, l3, l4, l5, l6, l7, l8] st G h k ↔ zE 86 d Q 34 [some (.inr (.inr w9)), l1, l2, l3, l4, l5, l6, l7, l8] (.inr (.inr w9) :: st) G h k := E_aload_n (by rfl) rfl
theorem e86_34 : zE 86 d Q 34 [l0, some (zI x), l2, l3, l4, l5, l6, l7, l8] st G h k ↔ zE 86 d Q 35 [l0, some (zI x), l2, l3, l4, l5, l6, l7, l8] (zI x :: st) G h k := E_iload_n (by rfl) rfl
theorem e86_35 : zE 86 d Q 35 [l0, l1, l2, l3, l4, l5, l6, l7, l8] st G h k ↔ zE 86 d Q 36 [l0, l1, l2, l3, l4, l5, l6, l7, l8] (zI 0 :: st) G h k := E_iconst (by rfl)
theorem e86_36 : zE 86 d Q 36 [l0, l1, some (zI x), l3, l4, l5, l6, l7, l8] st G h k ↔ zE 86 d Q 37 [l0, l1, some (zI x), l3, l4, l5, l6, l7, l8] (zI x :: st) G h k := E_iload_n (by rfl) rfl
theorem e86_37 : zE 86 d Q 37 [l0, l1, l2, l3, l4, l5, l6, l7, l8] (v2 :: v1 :: v0 :: zR (some r) :: st) G h k ↔ (zsum st ≤ 8 ∧ G.2.1 r = 7 ∧ zRunD ztb zmt' d 87 [zR (some r), v0, v1, v2] G h (fun v G' h' => zE 86 d Q 40 [l0, l1, l2, l3, l4, l5, l6, l7, l8] (v.toList ++ st) G' h' k)) := E_invV2z (by rfl) (by decide) rfl
theorem e86_40 : zE 86 d Q 40 [l0, l1, l2, l3, l4, l5, l6, l7, l8] (zL x :: st) G h k ↔ zE 86 d Q 42 [l0, l1, l2, (zclr l3), some (zL x), none, l6, l7, l8] st G h k := E_lstore (by rfl) (by decide)
theorem e86_42 : zE 86 d Q 42 [l0, l1, l2, l3, l4, l5, l6, l7, l8] st G h k ↔ zE 86 d Q 43 [l0, l1, l2, l3, l4, l5, l6, l7, l8] (zI 1 :: st) G h k := E_iconst (by rfl)
theorem e86_43 : zE 86 d Q 43 [l0, l1, l2, l3, l4, l5, l6, l7, l8] (zI x :: st) G h k ↔ zE 86 d Q 45 [l0, l1, l2, l3, l4, (zclr l5), some (zI x), l7, l8] st G h k := E_istore (by rfl) (by decide)
theorem e86_45 : zE 86 d Q 45 [l0, l1, l2, l3, l4, l5, some (zI x), l7, l8] st G h k ↔ zE 86 d Q 47 [l0, l1, l2, l3, l4, l5, some (zI x), l7, l8] (zI x :: st) G h k := E_iload (by rfl) rfl
theorem e86_47 : zE 86 d Q 47 [some (.inr (.inr w9)), l1, l2, l3, l4, l5, l6, l7, l8] st G h k ↔ zE 86 d Q 48 [some (.inr (.inr w9)), l1, l2, l3, l4, l5, l6, l7, l8] (.inr (.inr w9) :: st) G h k := E_aload_n (by rfl) rfl
theorem e86_48 : zE 86 d Q 48 [l0, l1, l2, l3, l4, l5, l6, l7, l8] (zR (some r) :: st) G h k ↔ (G.2.1 r = 7 ∧ zE 86 d Q 51 [l0, l1, l2, l3, l4, l5, l6, l7, l8] (zR (G.2.2.2 r 6) :: st) G h k) := E_getR (by rfl) rfl
theorem e86_51 : zE 86 d Q 51 [l0, l1, l2, l3, l4, l5, l6, l7, l8] (zR (some r) :: st) G h k ↔ (G.2.1 r = 5 ∧ zE 86 d Q 54 [l0, l1, l2, l3, l4, l5, l6, l7, l8] (zI (h r 9) :: st) G h k) := E_getI (by rfl) (by decide)
theorem e86_54 : zE 86 d Q 54 [l0, l1, l2, l3, l4, l5, l6, l7, l8] (zI y :: zI x :: st) G h k ↔ ((y ≤ x → zE 86 d Q 88 [l0, l1, l2, l3, l4, l5, l6, l7, l8] st G h k) ∧ (¬ (y ≤ x) → zE 86 d Q 57 [l0, l1, l2, l3, l4, l5, l6, l7, l8] st G h k)) := E_icmp_ge (by rfl)
theorem e86_57 : zE 86 d Q 57 [some (.inr (.inr w9)), l1, l2, l3, l4, l5, l6, l7, l8] st G h k ↔ zE 86 d Q 58 [some (.inr (.inr w9)), l1, l2, l3, l4, l5, l6, l7, l8] (.inr (.inr w9) :: st) G h k := E_aload_n (by rfl) rfl
theorem e86_58 : zE 86 d Q 58 [l0, some (zI x), l2, l3, l4, l5, l6, l7, l8] st G h k ↔ zE 86 d Q 59 [l0, some (zI x), l2, l3, l4, l5, l6, l7, l8] (zI x :: st) G h k := E_iload_n (by rfl) rfl
theorem e86_59 : zE 86 d Q 59 [l0, l1, l2, l3, l4, l5, some (zI x), l7, l8] st G h k ↔ zE 86 d Q 61 [l0, l1, l2, l3, l4, l5, some (zI x), l7, l8] (zI x :: st) G h k := E_iload (by rfl) rfl
theorem e86_61 : zE 86 d Q 61 [l0, l1, some (zI x), l3, l4, l5, l6, l7, l8] st G h k ↔ zE 86 d Q 62 [l0, l1, some (zI x), l3, l4, l5, l6, l7, l8] (zI x :: st) G h k := E_iload_n (by rfl) rfl
theorem e86_62 : zE 86 d Q 62 [l0, l1, l2, l3, l4, l5, l6, l7, l8] (v2 :: v1 :: v0 :: zR (some r) :: st) G h k ↔ (zsum st ≤ 8 ∧ G.2.1 r = 7 ∧ zRunD ztb zmt' d 87 [zR (some r), v0, v1, v2] G h (fun v G' h' => zE 86 d Q 65 [l0, l1, l2, l3, l4, l5, l6, l7, l8] (v.toList ++ st) G' h' k)) := E_invV2z (by rfl) (by decide) rfl
theorem e86_65 : zE 86 d Q 65 [l0, l1, l2, l3, l4, l5, l6, l7, l8] (zL x :: st) G h k ↔ zE 86 d Q 67 [l0, l1, l2, l3, l4, l5, (zclr l6), some (zL x), none] st G h k := E_lstore (by rfl) (by decide)
theorem e86_67 : zE 86 d Q 67 [l0, l1, l2, l3, l4, l5, l6, some (zL x), l8] st G h k ↔ zE 86 d Q 69 [l0, l1, l2, l3, l4, l5, l6, some (zL x), l8] (zL x :: st) G h k := E_lload (by rfl) rfl
theorem e86_69 : zE 86 d Q 69 [l0, l1, l2, l3, some (zL x), l5, l6, l7, l8] st G h k ↔ zE 86 d Q 71 [l0, l1, l2, l3, some (zL x), l5, l6, l7, l8] (zL x :: st) G h k := E_lload (by rfl) rfl
theorem e86_71 : zE 86 d Q 71 [l0, l1, l2, l3, l4, l5, l6, l7, l8] (zL y :: zL x :: st) G h k ↔ zE 86 d Q 72 [l0, l1, l2, l3, l4, l5, l6, l7, l8] (zI (zlc x y) :: st) G h k := E_lcmp (by rfl)
theorem e86_72 : zE 86 d Q 72 [l0, l1, l2, l3, l4, l5, l6, l7, l8] (zI x :: st) G h k ↔ ((x ≤ 0 → zE 86 d Q 82 [l0, l1, l2, l3, l4, l5, l6, l7, l8] st G h k) ∧ (¬ (x ≤ 0) → zE 86 d Q 75 [l0, l1, l2, l3, l4, l5, l6, l7, l8] st G h k)) := E_if_le (by rfl)
theorem e86_75 : zE 86 d Q 75 [l0, l1, l2, l3, l4, l5, l6, some (zL x), l8] st G h k ↔ zE 86 d Q 77 [l0, l1, l2, l3, l4, l5, l6, some (zL x), l8] (zL x :: st) G h k := E_lload (by rfl) rfl
theorem e86_77 : zE 86 d Q 77 [l0, l1, l2, l3, l4, l5, l6, l7, l8] (zL x :: st) G h k ↔ zE 86 d Q 79 [l0, l1, l2, (zclr l3), some (zL x), none, l6, l7, l8] st G h k := E_lstore (by rfl) (by decide)
theorem e86_79 : zE 86 d Q 79 [l0, l1, l2, l3, l4, l5, some (zI x), l7, l8] st G h k ↔ zE 86 d Q 81 [l0, l1, l2, l3, l4, l5, some (zI x), l7, l8] (zI x :: st) G h k := E_iload (by rfl) rfl
theorem e86_81 : zE 86 d Q 81 [l0, l1, l2, l3, l4, l5, l6, l7, l8] (zI x :: st) G h k ↔ zE 86 d Q 82 [l0, l1, (zclr l2), some (zI x), l4, l5, l6, l7, l8] st G h k := E_istore_n (by rfl) (by decide)
theorem e86_82 : zE 86 d Q 82 [l0, l1, l2, l3, l4, l5, some (zI x), l7, l8] st G h k ↔ zE 86 d Q 85 [l0, l1, l2, l3, l4, (zclr l5), some (zI (wr (x + 1))), l7, l8] st G h k := E_iinc (by rfl) rfl
theorem e86_85 : zE 86 d Q 85 [l0, l1, l2, l3, l4, l5, l6, l7, l8] st G h k ↔ zE 86 d Q 45 [l0, l1, l2, l3, l4, l5, l6, l7, l8] st G h k := E_goto (by rfl)
theorem e86_88 : zE 86 d Q 88 [l0, l1, l2, some (zI x), l4, l5, l6, l7, l8] st G h k ↔ zE 86 d Q 89 [l0, l1, l2, some (zI x), l4, l5, l6, l7, l8] (zI x :: st) G h k := E_iload_n (by rfl) rfl
theorem e86_89 : zE 86 d Q 89 [l0, l1, l2, l3, l4, l5, l6, l7, l8] [zI x] G h k ↔ Q (some (zI x)) G h := E_iret (by rfl) rfl
theorem e87_0 : zE 87 d Q 0 [some (.inr (.inr w9)), l1, l2, l3] st G h k ↔ zE 87 d Q 1 [some (.inr (.inr w9)), l1, l2, l3] (.inr (.inr w9) :: st) G h k := E_aload_n (by rfl) rfl
theorem e87_1 : zE 87 d Q 1 [l0, l1, l2, l3] st G h k ↔ zE 87 d Q 2 [l0, l1, l2, l3] (zI 0 :: st) G h k := E_iconst (by rfl)
theorem e87_2 : zE 87 d Q 2 [l0, l1, l2, some (zI x)] st G h k ↔ zE 87 d Q 3 [l0, l1, l2, some (zI x)] (zI x :: st) G h k := E_iload_n (by rfl) rfl
theorem e87_3 : zE 87 d Q 3 [l0, l1, l2, l3] (v1 :: v0 :: zR (some r) :: st) G h k ↔ (zsum st ≤ 8 ∧ G.2.1 r = 7 ∧ zRunD ztb zmt' d 108 [zR (some r), v0, v1] G h (fun v G' h' => zE 87 d Q 6 [l0, l1, l2, l3] (v.toList ++ st) G' h' k)) := E_invV2z (by rfl) (by decide) rfl
theorem e87_6 : zE 87 d Q 6 [some (.inr (.inr w9)), l1, l2, l3] st G h k ↔ zE 87 d Q 7 [some (.inr (.inr w9)), l1, l2, l3] (.inr (.inr w9) :: st) G h k := E_aload_n (by rfl) rfl
theorem e87_7 : zE 87 d Q 7 [l0, l1, l2, l3] (zR (some r) :: st) G h k ↔ (G.2.1 r = 7 ∧ zE 87 d Q 10 [l0, l1, l2, l3] (zR (G.2.2.2 r 9) :: st) G h k) := E_getR (by rfl) rfl
theorem e87_10 : zE 87 d Q 10 [l0, l1, l2, l3] (zR (some r) :: st) G h k ↔ (G.2.1 r = 4 ∧ zE 87 d Q 13 [l0, l1, l2, l3] (zR (G.2.2.2 r 2) :: st) G h k) := E_getR (by rfl) rfl
theorem e87_13 : zE 87 d Q 13 [l0, l1, l2, l3] (zR (some r) :: st) G h k ↔ (G.2.1 r = 5 ∧ zE 87 d Q 16 [l0, l1, l2, l3] (zR (G.2.2.2 r 1) :: st) G h k) := E_getR (by rfl) rfl
theorem e87_16 : zE 87 d Q 16 [l0, some (zI x), l2, l3] st G h k ↔ zE 87 d Q 17 [l0, some (zI x), l2, l3] (zI x :: st) G h k := E_iload_n (by rfl) rfl
theorem e87_17 : zE 87 d Q 17 [some (.inr (.inr w9)), l1, l2, l3] st G h k ↔ zE 87 d Q 18 [some (.inr (.inr w9)), l1, l2, l3] (.inr (.inr w9) :: st) G h k := E_aload_n (by rfl) rfl
theorem e87_18 : zE 87 d Q 18 [l0, l1, l2, l3] (zR (some r) :: st) G h k ↔ (G.2.1 r = 7 ∧ zE 87 d Q 21 [l0, l1, l2, l3] (zR (G.2.2.2 r 6) :: st) G h k) := E_getR (by rfl) rfl
theorem e87_21 : zE 87 d Q 21 [l0, l1, l2, l3] (zR (some r) :: st) G h k ↔ (G.2.1 r = 5 ∧ zE 87 d Q 24 [l0, l1, l2, l3] (zR (G.2.2.2 r 1) :: st) G h k) := E_getR (by rfl) rfl
theorem e87_24 : zE 87 d Q 24 [l0, l1, some (zI x), l3] st G h k ↔ zE 87 d Q 25 [l0, l1, some (zI x), l3] (zI x :: st) G h k := E_iload_n (by rfl) rfl
theorem e87_25 : zE 87 d Q 25 [l0, l1, l2, l3] (zI i :: zR (some r) :: st) G h k ↔ (G.2.1 r = 10 ∧ (0 ≤ i ∧ i < G.2.2.1 r) ∧ zE 87 d Q 26 [l0, l1, l2, l3] (zI (h r i.toNat) :: st) G h k) := E_iaload (by rfl)
theorem e87_26 : zE 87 d Q 26 [l0, l1, l2, l3] (zI x :: zI i :: zR (some r) :: st) G h k ↔ (G.2.1 r = 10 ∧ (0 ≤ i ∧ i < G.2.2.1 r) ∧ zE 87 d Q 27 [l0, l1, l2, l3] st G (zu h r i.toNat x) k) := E_iastore (by rfl)
theorem e87_27 : zE 87 d Q 27 [some (.inr (.inr w9)), l1, l2, l3] st G h k ↔ zE 87 d Q 28 [some (.inr (.inr w9)), l1, l2, l3] (.inr (.inr w9) :: st) G h k := E_aload_n (by rfl) rfl
theorem e87_28 : zE 87 d Q 28 [l0, some (zI x), l2, l3] st G h k ↔ zE 87 d Q 29 [l0, some (zI x), l2, l3] (zI x :: st) G h k := E_iload_n (by rfl) rfl
theorem e87_29 : zE 87 d Q 29 [l0, l1, l2, some (zI x)] st G h k ↔ zE 87 d Q 30 [l0, l1, l2, some (zI x)] (zI x :: st) G h k := E_iload_n (by rfl) rfl
theorem e87_30 : zE 87 d Q 30 [l0, l1, l2, l3] (v1 :: v0 :: zR (some r) :: st) G h k ↔ (zsum st ≤ 8 ∧ G.2.1 r = 7 ∧ zRunD ztb zmt' d 109 [zR (some r), v0, v1] G h (fun v G' h' => zE 87 d Q 33 [l0, l1, l2, l3] (v.toList ++ st) G' h' k)) := E_invV2z (by rfl) (by decide) rfl
theorem e87_33 : zE 87 d Q 33 [l0, l1, l2, l3] [zL x] G h k ↔ Q (some (zL x)) G h := E_lret (by rfl) rfl
theorem e88_0 : zE 88 d Q 0 [some (.inr (.inr w9)), l1, l2, l3] st G h k ↔ zE 88 d Q 1 [some (.inr (.inr w9)), l1, l2, l3] (.inr (.inr w9) :: st) G h k := E_aload_n (by rfl) rfl
theorem e88_1 : zE 88 d Q 1 [some (.inr (.inr w9)), l1, l2, l3] st G h k ↔ zE 88 d Q 2 [some (.inr (.inr w9)), l1, l2, l3] (.inr (.inr w9) :: st) G h k := E_aload_n (by rfl) rfl
theorem e88_2 : zE 88 d Q 2 [l0, some (zI x), l2, l3] st G h k ↔ zE 88 d Q 3 [l0, some (zI x), l2, l3] (zI x :: st) G h k := E_iload_n (by rfl) rfl
theorem e88_3 : zE 88 d Q 3 [l0, l1, l2, l3] (v0 :: zR (some r) :: st) G h k ↔ (zsum st ≤ 8 ∧ G.2.1 r = 7 ∧ zRunD ztb zmt' d 98 [zR (some r), v0] G h (fun v G' h' => zE 88 d Q 6 [l0, l1, l2, l3] (v.toList ++ st) G' h' k)) := E_invV2z (by rfl) (by decide) rfl
theorem e88_6 : zE 88 d Q 6 [l0, l1, l2, l3] (zI x :: st) G h k ↔ ((x = 0 → zE 88 d Q 18 [l0, l1, l2, l3] st G h k) ∧ (¬ (x = 0) → zE 88 d Q 9 [l0, l1, l2, l3] st G h k)) := E_if_eq (by rfl)
theorem e88_9 : zE 88 d Q 9 [some (.inr (.inr w9)), l1, l2, l3] st G h k ↔ zE 88 d Q 10 [some (.inr (.inr w9)), l1, l2, l3] (.inr (.inr w9) :: st) G h k := E_aload_n (by rfl) rfl
theorem e88_10 : zE 88 d Q 10 [l0, l1, some (zI x), l3] st G h k ↔ zE 88 d Q 11 [l0, l1, some (zI x), l3] (zI x :: st) G h k := E_iload_n (by rfl) rfl
theorem e88_11 : zE 88 d Q 11 [l0, l1, l2, l3] st G h k ↔ zE 88 d Q 12 [l0, l1, l2, l3] (zI 0 :: st) G h k := E_iconst (by rfl)
theorem e88_12 : zE 88 d Q 12 [l0, l1, l2, l3] (v1 :: v0 :: zR (some r) :: st) G h k ↔ (zsum st ≤ 8 ∧ G.2.1 r = 7 ∧ zRunD ztb zmt' d 104 [zR (some r), v0, v1] G h (fun v G' h' => zE 88 d Q 15 [l0, l1, l2, l3] (v.toList ++ st) G' h' k)) := E_invV2z (by rfl) (by decide) rfl
theorem e88_15 : zE 88 d Q 15 [l0, l1, l2, l3] st G h k ↔ zE 88 d Q 19 [l0, l1, l2, l3] st G h k := E_goto (by rfl)
theorem e88_18 : zE 88 d Q 18 [l0, l1, l2, l3] st G h k ↔ zE 88 d Q 19 [l0, l1, l2, l3] (zI 1 :: st) G h k := E_iconst (by rfl)
theorem e88_19 : zE 88 d Q 19 [l0, l1, l2, l3] (zI x :: zR (some r) :: st) G h k ↔ (G.2.1 r = 7 ∧ zE 88 d Q 22 [l0, l1, l2, l3] st G (zu h r 11 x) k) := E_putI (by rfl) rfl
theorem e88_22 : zE 88 d Q 22 [some (.inr (.inr w9)), l1, l2, l3] st G h k ↔ zE 88 d Q 23 [some (.inr (.inr w9)), l1, l2, l3] (.inr (.inr w9) :: st) G h k := E_aload_n (by rfl) rfl
theorem e88_23 : zE 88 d Q 23 [l0, l1, l2, l3] (zR (some r) :: st) G h k ↔ (G.2.1 r = 7 ∧ zE 88 d Q 26 [l0, l1, l2, l3] (zI (h r 11) :: st) G h k) := E_getI (by rfl) (by decide)
theorem e88_26 : zE 88 d Q 26 [l0, l1, l2, l3] (zI x :: st) G h k ↔ ((x = 0 → zE 88 d Q 31 [l0, l1, l2, l3] st G h k) ∧ (¬ (x = 0) → zE 88 d Q 29 [l0, l1, l2, l3] st G h k)) := E_if_eq (by rfl)
theorem e88_29 : zE 88 d Q 29 [l0, l1, l2, l3] st G h k ↔ zE 88 d Q 30 [l0, l1, l2, l3] (zI (-1) :: st) G h k := E_iconst (by rfl)
theorem e88_30 : zE 88 d Q 30 [l0, l1, l2, l3] [zI x] G h k ↔ Q (some (zI x)) G h := E_iret (by rfl) rfl
theorem e88_31 : zE 88 d Q 31 [some (.inr (.inr w9)), l1, l2, l3] st G h k ↔ zE 88 d Q 32 [some (.inr (.inr w9)), l1, l2, l3] (.inr (.inr w9) :: st) G h k := E_aload_n (by rfl) rfl
theorem e88_32 : zE 88 d Q 32 [l0, l1, l2, l3] st G h k ↔ zE 88 d Q 33 [l0, l1, l2, l3] (zI 0 :: st) G h k := E_iconst (by rfl)
theorem e88_33 : zE 88 d Q 33 [l0, l1, some (zI x), l3] st G h k ↔ zE 88 d Q 34 [l0, l1, some (zI x), l3] (zI x :: st) G h k := E_iload_n (by rfl) rfl
theorem e88_34 : zE 88 d Q 34 [l0, l1, l2, l3] (v1 :: v0 :: zR (some r) :: st) G h k ↔ (zsum st ≤ 8 ∧ G.2.1 r = 7 ∧ zRunD ztb zmt' d 108 [zR (some r), v0, v1] G h (fun v G' h' => zE 88 d Q 37 [l0, l1, l2, l3] (v.toList ++ st) G' h' k)) := E_invV2z (by rfl) (by decide) rfl
theorem e88_37 : zE 88 d Q 37 [l0, l1, l2, l3] st G h k ↔ zE 88 d Q 38 [l0, l1, l2, l3] (zI 0 :: st) G h k := E_iconst (by rfl)
theorem e88_38 : zE 88 d Q 38 [l0, l1, l2, l3] (zI x :: st) G h k ↔ zE 88 d Q 39 [l0, l1, (zclr l2), some (zI x)] st G h k := E_istore_n (by rfl) (by decide)
theorem e88_39 : zE 88 d Q 39 [l0, l1, l2, some (zI x)] st G h k ↔ zE 88 d Q 40 [l0, l1, l2, some (zI x)] (zI x :: st) G h k := E_iload_n (by rfl) rfl
theorem e88_40 : zE 88 d Q 40 [l0, l1, l2, l3] st G h k ↔ zE 88 d Q 41 [l0, l1, l2, l3] (zI 4 :: st) G h k := E_iconst (by rfl)
theorem e88_41 : zE 88 d Q 41 [l0, l1, l2, l3] (zI y :: zI x :: st) G h k ↔ ((y ≤ x → zE 88 d Q 66 [l0, l1, l2, l3] st G h k) ∧ (¬ (y ≤ x) → zE 88 d Q 44 [l0, l1, l2, l3] st G h k)) := E_icmp_ge (by rfl)
theorem e88_44 : zE 88 d Q 44 [some (.inr (.inr w9)), l1, l2, l3] st G h k ↔ zE 88 d Q 45 [some (.inr (.inr w9)), l1, l2, l3] (.inr (.inr w9) :: st) G h k := E_aload_n (by rfl) rfl
theorem e88_45 : zE 88 d Q 45 [l0, l1, l2, l3] (zR (some r) :: st) G h k ↔ (G.2.1 r = 7 ∧ zE 88 d Q 48 [l0, l1, l2, l3] (zR (G.2.2.2 r 9) :: st) G h k) := E_getR (by rfl) rfl
theorem e88_48 : zE 88 d Q 48 [l0, l1, l2, l3] (zR (some r) :: st) G h k ↔ (G.2.1 r = 4 ∧ zE 88 d Q 51 [l0, l1, l2, l3] (zR (G.2.2.2 r 10) :: st) G h k) := E_getR (by rfl) rfl
theorem e88_51 : zE 88 d Q 51 [l0, l1, some (zI x), l3] st G h k ↔ zE 88 d Q 52 [l0, l1, some (zI x), l3] (zI x :: st) G h k := E_iload_n (by rfl) rfl
theorem e88_52 : zE 88 d Q 52 [l0, l1, l2, l3] (zI i :: zR (some r) :: st) G h k ↔ (G.2.1 r = 14 ∧ (0 ≤ i ∧ i < G.2.2.1 r) ∧ zE 88 d Q 53 [l0, l1, l2, l3] (zR (G.2.2.2 r i.toNat) :: st) G h k) := E_aaload (by rfl) (by decide)
theorem e88_53 : zE 88 d Q 53 [l0, some (zI x), l2, l3] st G h k ↔ zE 88 d Q 54 [l0, some (zI x), l2, l3] (zI x :: st) G h k := E_iload_n (by rfl) rfl
theorem e88_54 : zE 88 d Q 54 [l0, l1, l2, l3] st G h k ↔ zE 88 d Q 55 [l0, l1, l2, l3] (zI 4 :: st) G h k := E_iconst (by rfl)
theorem e88_55 : zE 88 d Q 55 [l0, l1, l2, l3] (zI y :: zI x :: st) G h k ↔ zE 88 d Q 56 [l0, l1, l2, l3] (zI (wr (x * y)) :: st) G h k := E_imul (by rfl)
theorem e88_56 : zE 88 d Q 56 [l0, l1, l2, some (zI x)] st G h k ↔ zE 88 d Q 57 [l0, l1, l2, some (zI x)] (zI x :: st) G h k := E_iload_n (by rfl) rfl
theorem e88_57 : zE 88 d Q 57 [l0, l1, l2, l3] (zI y :: zI x :: st) G h k ↔ zE 88 d Q 58 [l0, l1, l2, l3] (zI (wr (x + y)) :: st) G h k := E_iadd (by rfl)
theorem e88_58 : zE 88 d Q 58 [l0, l1, l2, l3] st G h k ↔ zE 88 d Q 59 [l0, l1, l2, l3] (zI 0 :: st) G h k := E_iconst (by rfl)
theorem e88_59 : zE 88 d Q 59 [l0, l1, l2, l3] (zI x :: zI i :: zR (some r) :: st) G h k ↔ (G.2.1 r = 10 ∧ (0 ≤ i ∧ i < G.2.2.1 r) ∧ zE 88 d Q 60 [l0, l1, l2, l3] st G (zu h r i.toNat x) k) := E_iastore (by rfl)
theorem e88_60 : zE 88 d Q 60 [l0, l1, l2, some (zI x)] st G h k ↔ zE 88 d Q 63 [l0, l1, (zclr l2), some (zI (wr (x + 1)))] st G h k := E_iinc (by rfl) rfl
theorem e88_63 : zE 88 d Q 63 [l0, l1, l2, l3] st G h k ↔ zE 88 d Q 39 [l0, l1, l2, l3] st G h k := E_goto (by rfl)
theorem e88_66 : zE 88 d Q 66 [some (.inr (.inr w9)), l1, l2, l3] st G h k ↔ zE 88 d Q 67 [some (.inr (.inr w9)), l1, l2, l3] (.inr (.inr w9) :: st) G h k := E_aload_n (by rfl) rfl
theorem e88_67 : zE 88 d Q 67 [l0, some (zI x), l2, l3] st G h k ↔ zE 88 d Q 68 [l0, some (zI x), l2, l3] (zI x :: st) G h k := E_iload_n (by rfl) rfl
theorem e88_68 : zE 88 d Q 68 [l0, l1, some (zI x), l3] st G h k ↔ zE 88 d Q 69 [l0, l1, some (zI x), l3] (zI x :: st) G h k := E_iload_n (by rfl) rfl
theorem e88_69 : zE 88 d Q 69 [l0, l1, l2, l3] (v1 :: v0 :: zR (some r) :: st) G h k ↔ (zsum st ≤ 8 ∧ G.2.1 r = 7 ∧ zRunD ztb zmt' d 109 [zR (some r), v0, v1] G h (fun v G' h' => zE 88 d Q 72 [l0, l1, l2, l3] (v.toList ++ st) G' h' k)) := E_invV2z (by rfl) (by decide) rfl
theorem e88_72 : zE 88 d Q 72 [some (.inr (.inr w9)), l1, l2, l3] st G h k ↔ zE 88 d Q 73 [some (.inr (.inr w9)), l1, l2, l3] (.inr (.inr w9) :: st) G h k := E_aload_n (by rfl) rfl
theorem e88_73 : zE 88 d Q 73 [l0, l1, l2, l3] (zR (some r) :: st) G h k ↔ (G.2.1 r = 7 ∧ zE 88 d Q 76 [l0, l1, l2, l3] (zR (G.2.2.2 r 6) :: st) G h k) := E_getR (by rfl) rfl
theorem e88_76 : zE 88 d Q 76 [l0, l1, l2, l3] (zR (some r) :: st) G h k ↔ (G.2.1 r = 5 ∧ zE 88 d Q 79 [l0, l1, l2, l3] (zR (G.2.2.2 r 2) :: st) G h k) := E_getR (by rfl) rfl
theorem e88_79 : zE 88 d Q 79 [l0, some (zI x), l2, l3] st G h k ↔ zE 88 d Q 80 [l0, some (zI x), l2, l3] (zI x :: st) G h k := E_iload_n (by rfl) rfl
theorem e88_80 : zE 88 d Q 80 [l0, l1, l2, l3] (zI i :: zR (some r) :: st) G h k ↔ (G.2.1 r = 10 ∧ (0 ≤ i ∧ i < G.2.2.1 r) ∧ zE 88 d Q 81 [l0, l1, l2, l3] (zI (h r i.toNat) :: st) G h k) := E_iaload (by rfl)
theorem e88_81 : zE 88 d Q 81 [l0, l1, l2, l3] (zI x :: st) G h k ↔ zE 88 d Q 82 [l0, l1, l2, l3] (zL x :: st) G h k := E_i2l (by rfl)
theorem e88_82 : zE 88 d Q 82 [l0, l1, l2, l3] (zL y :: zL x :: st) G h k ↔ zE 88 d Q 83 [l0, l1, l2, l3] (zI (zlc x y) :: st) G h k := E_lcmp (by rfl)
theorem e88_83 : zE 88 d Q 83 [l0, l1, l2, l3] (zI x :: st) G h k ↔ ((x < 0 → zE 88 d Q 90 [l0, l1, l2, l3] st G h k) ∧ (¬ (x < 0) → zE 88 d Q 86 [l0, l1, l2, l3] st G h k)) := E_if_lt (by rfl)
theorem e88_86 : zE 88 d Q 86 [l0, l1, l2, l3] st G h k ↔ zE 88 d Q 87 [l0, l1, l2, l3] (zI 1 :: st) G h k := E_iconst (by rfl)
theorem e88_87 : zE 88 d Q 87 [l0, l1, l2, l3] st G h k ↔ zE 88 d Q 91 [l0, l1, l2, l3] st G h k := E_goto (by rfl)
theorem e88_90 : zE 88 d Q 90 [l0, l1, l2, l3] st G h k ↔ zE 88 d Q 91 [l0, l1, l2, l3] (zI 0 :: st) G h k := E_iconst (by rfl)
theorem e88_91 : zE 88 d Q 91 [l0, l1, l2, l3] [zI x] G h k ↔ Q (some (zI x)) G h := E_iret (by rfl) rfl
theorem e89_0 : zE 89 d Q 0 [some (.inr (.inr w9)), l1, l2] st G h k ↔ zE 89 d Q 1 [some (.inr (.inr w9)), l1, l2] (.inr (.inr w9) :: st) G h k := E_aload_n (by rfl) rfl
theorem e89_1 : zE 89 d Q 1 [some (.inr (.inr w9)), l1, l2] st G h k ↔ zE 89 d Q 2 [some (.inr (.inr w9)), l1, l2] (.inr (.inr w9) :: st) G h k := E_aload_n (by rfl) rfl
theorem e89_2 : zE 89 d Q 2 [l0, some (zI x), l2] st G h k ↔ zE 89 d Q 3 [l0, some (zI x), l2] (zI x :: st) G h k := E_iload_n (by rfl) rfl
theorem e89_3 : zE 89 d Q 3 [l0, l1, some (zI x)] st G h k ↔ zE 89 d Q 4 [l0, l1, some (zI x)] (zI x :: st) G h k := E_iload_n (by rfl) rfl
theorem e89_4 : zE 89 d Q 4 [l0, l1, l2] (v1 :: v0 :: zR (some r) :: st) G h k ↔ (zsum st ≤ 8 ∧ G.2.1 r = 7 ∧ zRunD ztb zmt' d 105 [zR (some r), v0, v1] G h (fun v G' h' => zE 89 d Q 7 [l0, l1, l2] (v.toList ++ st) G' h' k)) := E_invV2z (by rfl) (by decide) rfl
theorem e89_7 : zE 89 d Q 7 [l0, l1, l2] (zI x :: zR (some r) :: st) G h k ↔ (G.2.1 r = 7 ∧ zE 89 d Q 10 [l0, l1, l2] st G (zu h r 11 x) k) := E_putI (by rfl) rfl
theorem e89_10 : zE 89 d Q 10 [some (.inr (.inr w9)), l1, l2] st G h k ↔ zE 89 d Q 11 [some (.inr (.inr w9)), l1, l2] (.inr (.inr w9) :: st) G h k := E_aload_n (by rfl) rfl
theorem e89_11 : zE 89 d Q 11 [l0, l1, l2] (zR (some r) :: st) G h k ↔ (G.2.1 r = 7 ∧ zE 89 d Q 14 [l0, l1, l2] (zI (h r 11) :: st) G h k) := E_getI (by rfl) (by decide)
theorem e89_14 : zE 89 d Q 14 [l0, l1, l2] (zI x :: st) G h k ↔ ((x = 0 → zE 89 d Q 19 [l0, l1, l2] st G h k) ∧ (¬ (x = 0) → zE 89 d Q 17 [l0, l1, l2] st G h k)) := E_if_eq (by rfl)
theorem e89_17 : zE 89 d Q 17 [l0, l1, l2] st G h k ↔ zE 89 d Q 18 [l0, l1, l2] (zI (-1) :: st) G h k := E_iconst (by rfl)
theorem e89_18 : zE 89 d Q 18 [l0, l1, l2] [zI x] G h k ↔ Q (some (zI x)) G h := E_iret (by rfl) rfl
theorem e89_19 : zE 89 d Q 19 [l0, l1, some (zI x)] st G h k ↔ zE 89 d Q 20 [l0, l1, some (zI x)] (zI x :: st) G h k := E_iload_n (by rfl) rfl
theorem e89_20 : zE 89 d Q 20 [l0, l1, l2] (zI x :: st) G h k ↔ ((¬ x = 0 → zE 89 d Q 50 [l0, l1, l2] st G h k) ∧ (¬ (¬ x = 0) → zE 89 d Q 23 [l0, l1, l2] st G h k)) := E_if_ne (by rfl)
theorem e89_23 : zE 89 d Q 23 [some (.inr (.inr w9)), l1, l2] st G h k ↔ zE 89 d Q 24 [some (.inr (.inr w9)), l1, l2] (.inr (.inr w9) :: st) G h k := E_aload_n (by rfl) rfl
theorem e89_24 : zE 89 d Q 24 [l0, l1, l2] (zR (some r) :: st) G h k ↔ (G.2.1 r = 7 ∧ zE 89 d Q 27 [l0, l1, l2] (zR (G.2.2.2 r 10) :: st) G h k) := E_getR (by rfl) rfl
theorem e89_27 : zE 89 d Q 27 [l0, l1, l2] (zR (some r) :: st) G h k ↔ (G.2.1 r = 2 ∧ zE 89 d Q 30 [l0, l1, l2] (zR (G.2.2.2 r 2) :: st) G h k) := E_getR (by rfl) rfl
theorem e89_30 : zE 89 d Q 30 [l0, some (zI x), l2] st G h k ↔ zE 89 d Q 31 [l0, some (zI x), l2] (zI x :: st) G h k := E_iload_n (by rfl) rfl
theorem e89_31 : zE 89 d Q 31 [l0, l1, l2] (zI i :: zR (some r) :: st) G h k ↔ (G.2.1 r = 10 ∧ (0 ≤ i ∧ i < G.2.2.1 r) ∧ zE 89 d Q 32 [l0, l1, l2] (zI (h r i.toNat) :: st) G h k) := E_iaload (by rfl)
theorem e89_32 : zE 89 d Q 32 [some (.inr (.inr w9)), l1, l2] st G h k ↔ zE 89 d Q 33 [some (.inr (.inr w9)), l1, l2] (.inr (.inr w9) :: st) G h k := E_aload_n (by rfl) rfl
theorem e89_33 : zE 89 d Q 33 [l0, l1, l2] (zR (some r) :: st) G h k ↔ (G.2.1 r = 7 ∧ zE 89 d Q 36 [l0, l1, l2] (zR (G.2.2.2 r 10) :: st) G h k) := E_getR (by rfl) rfl
theorem e89_36 : zE 89 d Q 36 [l0, l1, l2] (zR (some r) :: st) G h k ↔ (G.2.1 r = 2 ∧ zE 89 d Q 39 [l0, l1, l2] (zR (G.2.2.2 r 1) :: st) G h k) := E_getR (by rfl) rfl
theorem e89_39 : zE 89 d Q 39 [l0, some (zI x), l2] st G h k ↔ zE 89 d Q 40 [l0, some (zI x), l2] (zI x :: st) G h k := E_iload_n (by rfl) rfl
theorem e89_40 : zE 89 d Q 40 [l0, l1, l2] (zI i :: zR (some r) :: st) G h k ↔ (G.2.1 r = 10 ∧ (0 ≤ i ∧ i < G.2.2.1 r) ∧ zE 89 d Q 41 [l0, l1, l2] (zI (h r i.toNat) :: st) G h k) := E_iaload (by rfl)
theorem e89_41 : zE 89 d Q 41 [l0, l1, l2] (zI y :: zI x :: st) G h k ↔ ((y ≤ x → zE 89 d Q 48 [l0, l1, l2] st G h k) ∧ (¬ (y ≤ x) → zE 89 d Q 44 [l0, l1, l2] st G h k)) := E_icmp_ge (by rfl)
theorem e89_44 : zE 89 d Q 44 [l0, l1, l2] st G h k ↔ zE 89 d Q 45 [l0, l1, l2] (zI 1 :: st) G h k := E_iconst (by rfl)
theorem e89_45 : zE 89 d Q 45 [l0, l1, l2] st G h k ↔ zE 89 d Q 49 [l0, l1, l2] st G h k := E_goto (by rfl)
theorem e89_48 : zE 89 d Q 48 [l0, l1, l2] st G h k ↔ zE 89 d Q 49 [l0, l1, l2] (zI 0 :: st) G h k := E_iconst (by rfl)
theorem e89_49 : zE 89 d Q 49 [l0, l1, l2] [zI x] G h k ↔ Q (some (zI x)) G h := E_iret (by rfl) rfl
theorem e89_50 : zE 89 d Q 50 [some (.inr (.inr w9)), l1, l2] st G h k ↔ zE 89 d Q 51 [some (.inr (.inr w9)), l1, l2] (.inr (.inr w9) :: st) G h k := E_aload_n (by rfl) rfl
theorem e89_51 : zE 89 d Q 51 [l0, l1, l2] (zR (some r) :: st) G h k ↔ (G.2.1 r = 7 ∧ zE 89 d Q 54 [l0, l1, l2] (zR (G.2.2.2 r 6) :: st) G h k) := E_getR (by rfl) rfl
theorem e89_54 : zE 89 d Q 54 [l0, l1, l2] (zR (some r) :: st) G h k ↔ (G.2.1 r = 5 ∧ zE 89 d Q 57 [l0, l1, l2] (zR (G.2.2.2 r 8) :: st) G h k) := E_getR (by rfl) rfl
theorem e89_57 : zE 89 d Q 57 [some (.inr (.inr w9)), l1, l2] st G h k ↔ zE 89 d Q 58 [some (.inr (.inr w9)), l1, l2] (.inr (.inr w9) :: st) G h k := E_aload_n (by rfl) rfl
theorem e89_58 : zE 89 d Q 58 [l0, l1, l2] (zR (some r) :: st) G h k ↔ (G.2.1 r = 7 ∧ zE 89 d Q 61 [l0, l1, l2] (zR (G.2.2.2 r 10) :: st) G h k) := E_getR (by rfl) rfl
theorem e89_61 : zE 89 d Q 61 [l0, l1, l2] (zR (some r) :: st) G h k ↔ (G.2.1 r = 2 ∧ zE 89 d Q 64 [l0, l1, l2] (zR (G.2.2.2 r 2) :: st) G h k) := E_getR (by rfl) rfl
theorem e89_64 : zE 89 d Q 64 [l0, some (zI x), l2] st G h k ↔ zE 89 d Q 65 [l0, some (zI x), l2] (zI x :: st) G h k := E_iload_n (by rfl) rfl
theorem e89_65 : zE 89 d Q 65 [l0, l1, l2] (zI i :: zR (some r) :: st) G h k ↔ (G.2.1 r = 10 ∧ (0 ≤ i ∧ i < G.2.2.1 r) ∧ zE 89 d Q 66 [l0, l1, l2] (zI (h r i.toNat) :: st) G h k) := E_iaload (by rfl)
theorem e89_66 : zE 89 d Q 66 [l0, l1, l2] (zI i :: zR (some r) :: st) G h k ↔ (G.2.1 r = 10 ∧ (0 ≤ i ∧ i < G.2.2.1 r) ∧ zE 89 d Q 67 [l0, l1, l2] (zI (h r i.toNat) :: st) G h k) := E_iaload (by rfl)
theorem e89_67 : zE 89 d Q 67 [some (.inr (.inr w9)), l1, l2] st G h k ↔ zE 89 d Q 68 [some (.inr (.inr w9)), l1, l2] (.inr (.inr w9) :: st) G h k := E_aload_n (by rfl) rfl
theorem e89_68 : zE 89 d Q 68 [l0, l1, l2] (zR (some r) :: st) G h k ↔ (G.2.1 r = 7 ∧ zE 89 d Q 71 [l0, l1, l2] (zR (G.2.2.2 r 6) :: st) G h k) := E_getR (by rfl) rfl
theorem e89_71 : zE 89 d Q 71 [l0, l1, l2] (zR (some r) :: st) G h k ↔ (G.2.1 r = 5 ∧ zE 89 d Q 74 [l0, l1, l2] (zR (G.2.2.2 r 0) :: st) G h k) := E_getR (by rfl) rfl
theorem e89_74 : zE 89 d Q 74 [l0, some (zI x), l2] st G h k ↔ zE 89 d Q 75 [l0, some (zI x), l2] (zI x :: st) G h k := E_iload_n (by rfl) rfl
theorem e89_75 : zE 89 d Q 75 [l0, l1, l2] (zI i :: zR (some r) :: st) G h k ↔ (G.2.1 r = 10 ∧ (0 ≤ i ∧ i < G.2.2.1 r) ∧ zE 89 d Q 76 [l0, l1, l2] (zI (h r i.toNat) :: st) G h k) := E_iaload (by rfl)
theorem e89_76 : zE 89 d Q 76 [l0, l1, l2] (zI y :: zI x :: st) G h k ↔ ((y ≤ x → zE 89 d Q 83 [l0, l1, l2] st G h k) ∧ (¬ (y ≤ x) → zE 89 d Q 79 [l0, l1, l2] st G h k)) := E_icmp_ge (by rfl)
theorem e89_79 : zE 89 d Q 79 [l0, l1, l2] st G h k ↔ zE 89 d Q 80 [l0, l1, l2] (zI 1 :: st) G h k := E_iconst (by rfl)
theorem e89_80 : zE 89 d Q 80 [l0, l1, l2] st G h k ↔ zE 89 d Q 84 [l0, l1, l2] st G h k := E_goto (by rfl)
theorem e89_83 : zE 89 d Q 83 [l0, l1, l2] st G h k ↔ zE 89 d Q 84 [l0, l1, l2] (zI 0 :: st) G h k := E_iconst (by rfl)
theorem e89_84 : zE 89 d Q 84 [l0, l1, l2] [zI x] G h k ↔ Q (some (zI x)) G h := E_iret (by rfl) rfl
theorem e90_0 : zE 90 d Q 0 [some (.inr (.inr w9)), l1, l2] st G h k ↔ zE 90 d Q 1 [some (.inr (.inr w9)), l1, l2] (.inr (.inr w9) :: st) G h k := E_aload_n (by rfl) rfl
theorem e90_1 : zE 90 d Q 1 [some (.inr (.inr w9)), l1, l2] st G h k ↔ zE 90 d Q 2 [some (.inr (.inr w9)), l1, l2] (.inr (.inr w9) :: st) G h k := E_aload_n (by rfl) rfl
theorem e90_2 : zE 90 d Q 2 [l0, l1, l2] (zR (some r) :: st) G h k ↔ (zsum st ≤ 8 ∧ G.2.1 r = 7 ∧ zRunD ztb zmt' d 97 [zR (some r)] G h (fun v G' h' => zE 90 d Q 5 [l0, l1, l2] (v.toList ++ st) G' h' k)) := E_invV2z (by rfl) (by decide) rfl
theorem e90_5 : zE 90 d Q 5 [l0, l1, l2] (zI x :: st) G h k ↔ ((x = 0 → zE 90 d Q 12 [l0, l1, l2] st G h k) ∧ (¬ (x = 0) → zE 90 d Q 8 [l0, l1, l2] st G h k)) := E_if_eq (by rfl)
theorem e90_8 : zE 90 d Q 8 [l0, l1, l2] st G h k ↔ zE 90 d Q 9 [l0, l1, l2] (zI 0 :: st) G h k := E_iconst (by rfl)
theorem e90_9 : zE 90 d Q 9 [l0, l1, l2] st G h k ↔ zE 90 d Q 13 [l0, l1, l2] st G h k := E_goto (by rfl)
theorem e90_12 : zE 90 d Q 12 [l0, l1, l2] st G h k ↔ zE 90 d Q 13 [l0, l1, l2] (zI 1 :: st) G h k := E_iconst (by rfl)
theorem e90_13 : zE 90 d Q 13 [l0, l1, l2] (zI x :: zR (some r) :: st) G h k ↔ (G.2.1 r = 7 ∧ zE 90 d Q 16 [l0, l1, l2] st G (zu h r 11 x) k) := E_putI (by rfl) rfl
theorem e90_16 : zE 90 d Q 16 [some (.inr (.inr w9)), l1, l2] st G h k ↔ zE 90 d Q 17 [some (.inr (.inr w9)), l1, l2] (.inr (.inr w9) :: st) G h k := E_aload_n (by rfl) rfl
theorem e90_17 : zE 90 d Q 17 [l0, l1, l2] (zR (some r) :: st) G h k ↔ (G.2.1 r = 7 ∧ zE 90 d Q 20 [l0, l1, l2] (zI (h r 11) :: st) G h k) := E_getI (by rfl) (by decide)
theorem e90_20 : zE 90 d Q 20 [l0, l1, l2] (zI x :: st) G h k ↔ ((x = 0 → zE 90 d Q 25 [l0, l1, l2] st G h k) ∧ (¬ (x = 0) → zE 90 d Q 23 [l0, l1, l2] st G h k)) := E_if_eq (by rfl)
theorem e90_23 : zE 90 d Q 23 [l0, l1, l2] st G h k ↔ zE 90 d Q 24 [l0, l1, l2] (zI (-1) :: st) G h k := E_iconst (by rfl)
theorem e90_24 : zE 90 d Q 24 [l0, l1, l2] [zI x] G h k ↔ Q (some (zI x)) G h := E_iret (by rfl) rfl
theorem e90_25 : zE 90 d Q 25 [some (.inr (.inr w9)), l1, l2] st G h k ↔ zE 90 d Q 26 [some (.inr (.inr w9)), l1, l2] (.inr (.inr w9) :: st) G h k := E_aload_n (by rfl) rfl
theorem e90_26 : zE 90 d Q 26 [l0, l1, l2] st G h k ↔ zE 90 d Q 27 [l0, l1, l2] (zI 5 :: st) G h k := E_iconst (by rfl)
theorem e90_27 : zE 90 d Q 27 [l0, l1, l2] st G h k ↔ zE 90 d Q 28 [l0, l1, l2] (zI 1 :: st) G h k := E_iconst (by rfl)
theorem e90_28 : zE 90 d Q 28 [l0, l1, l2] (v1 :: v0 :: zR (some r) :: st) G h k ↔ (zsum st ≤ 8 ∧ G.2.1 r = 7 ∧ zRunD ztb zmt' d 108 [zR (some r), v0, v1] G h (fun v G' h' => zE 90 d Q 31 [l0, l1, l2] (v.toList ++ st) G' h' k)) := E_invV2z (by rfl) (by decide) rfl
theorem e90_31 : zE 90 d Q 31 [some (.inr (.inr w9)), l1, l2] st G h k ↔ zE 90 d Q 32 [some (.inr (.inr w9)), l1, l2] (.inr (.inr w9) :: st) G h k := E_aload_n (by rfl) rfl
theorem e90_32 : zE 90 d Q 32 [l0, l1, l2] (zR (some r) :: st) G h k ↔ (G.2.1 r = 7 ∧ zE 90 d Q 35 [l0, l1, l2] (zR (G.2.2.2 r 9) :: st) G h k) := E_getR (by rfl) rfl
theorem e90_35 : zE 90 d Q 35 [l0, l1, l2] st G h k ↔ zE 90 d Q 36 [l0, l1, l2] (zI 1 :: st) G h k := E_iconst (by rfl)
theorem e90_36 : zE 90 d Q 36 [l0, l1, l2] (v0 :: zR (some r) :: st) G h k ↔ (zsum st ≤ 8 ∧ G.2.1 r = 4 ∧ zRunD ztb zmt' d 35 [zR (some r), v0] G h (fun v G' h' => zE 90 d Q 39 [l0, l1, l2] (v.toList ++ st) G' h' k)) := E_invV2z (by rfl) (by decide) rfl
theorem e90_39 : zE 90 d Q 39 [l0, l1, l2] st G h k ↔ zE 90 d Q 40 [l0, l1, l2] (zI 0 :: st) G h k := E_iconst (by rfl)
theorem e90_40 : zE 90 d Q 40 [l0, l1, l2] (zI x :: st) G h k ↔ zE 90 d Q 41 [(zclr l0), some (zI x), l2] st G h k := E_istore_n (by rfl) (by decide)
theorem e90_41 : zE 90 d Q 41 [l0, some (zI x), l2] st G h k ↔ zE 90 d Q 42 [l0, some (zI x), l2] (zI x :: st) G h k := E_iload_n (by rfl) rfl
theorem e90_42 : zE 90 d Q 42 [l0, l1, l2] st G h k ↔ zE 90 d Q 44 [l0, l1, l2] (zI 100 :: st) G h k := E_bipush (by rfl)
theorem e90_44 : zE 90 d Q 44 [l0, l1, l2] (zI y :: zI x :: st) G h k ↔ ((y < x → zE 90 d Q 82 [l0, l1, l2] st G h k) ∧ (¬ (y < x) → zE 90 d Q 47 [l0, l1, l2] st G h k)) := E_icmp_gt (by rfl)
theorem e90_47 : zE 90 d Q 47 [some (.inr (.inr w9)), l1, l2] st G h k ↔ zE 90 d Q 48 [some (.inr (.inr w9)), l1, l2] (.inr (.inr w9) :: st) G h k := E_aload_n (by rfl) rfl
theorem e90_48 : zE 90 d Q 48 [l0, l1, l2] (zR (some r) :: st) G h k ↔ (G.2.1 r = 7 ∧ zE 90 d Q 51 [l0, l1, l2] (zR (G.2.2.2 r 9) :: st) G h k) := E_getR (by rfl) rfl
theorem e90_51 : zE 90 d Q 51 [l0, some (zI x), l2] st G h k ↔ zE 90 d Q 52 [l0, some (zI x), l2] (zI x :: st) G h k := E_iload_n (by rfl) rfl
theorem e90_52 : zE 90 d Q 52 [l0, l1, l2] (v0 :: zR (some r) :: st) G h k ↔ (zsum st ≤ 8 ∧ G.2.1 r = 4 ∧ zRunD ztb zmt' d 34 [zR (some r), v0] G h (fun v G' h' => zE 90 d Q 55 [l0, l1, l2] (v.toList ++ st) G' h' k)) := E_invV2z (by rfl) (by decide) rfl
theorem e90_55 : zE 90 d Q 55 [l0, l1, l2] (zI x :: st) G h k ↔ zE 90 d Q 56 [l0, (zclr l1), some (zI x)] st G h k := E_istore_n (by rfl) (by decide)
theorem e90_56 : zE 90 d Q 56 [l0, some (zI x), l2] st G h k ↔ zE 90 d Q 57 [l0, some (zI x), l2] (zI x :: st) G h k := E_iload_n (by rfl) rfl
theorem e90_57 : zE 90 d Q 57 [l0, l1, l2] (zI x :: st) G h k ↔ ((x = 0 → zE 90 d Q 64 [l0, l1, l2] st G h k) ∧ (¬ (x = 0) → zE 90 d Q 60 [l0, l1, l2] st G h k)) := E_if_eq (by rfl)
theorem e90_60 : zE 90 d Q 60 [l0, l1, some (zI x)] st G h k ↔ zE 90 d Q 61 [l0, l1, some (zI x)] (zI x :: st) G h k := E_iload_n (by rfl) rfl
theorem e90_61 : zE 90 d Q 61 [l0, l1, l2] (zI x :: st) G h k ↔ ((x = 0 → zE 90 d Q 76 [l0, l1, l2] st G h k) ∧ (¬ (x = 0) → zE 90 d Q 64 [l0, l1, l2] st G h k)) := E_if_eq (by rfl)
theorem e90_64 : zE 90 d Q 64 [some (.inr (.inr w9)), l1, l2] st G h k ↔ zE 90 d Q 65 [some (.inr (.inr w9)), l1, l2] (.inr (.inr w9) :: st) G h k := E_aload_n (by rfl) rfl
theorem e90_65 : zE 90 d Q 65 [l0, l1, l2] (zR (some r) :: st) G h k ↔ (G.2.1 r = 7 ∧ zE 90 d Q 68 [l0, l1, l2] (zR (G.2.2.2 r 9) :: st) G h k) := E_getR (by rfl) rfl
theorem e90_68 : zE 90 d Q 68 [l0, l1, l2] (zR (some r) :: st) G h k ↔ (zsum st ≤ 8 ∧ G.2.1 r = 4 ∧ zRunD ztb zmt' d 44 [zR (some r)] G h (fun v G' h' => zE 90 d Q 71 [l0, l1, l2] (v.toList ++ st) G' h' k)) := E_invV2z (by rfl) (by decide) rfl
theorem e90_71 : zE 90 d Q 71 [l0, l1, l2] (zI x :: st) G h k ↔ ((¬ x = 0 → zE 90 d Q 76 [l0, l1, l2] st G h k) ∧ (¬ (¬ x = 0) → zE 90 d Q 74 [l0, l1, l2] st G h k)) := E_if_ne (by rfl)
theorem e90_74 : zE 90 d Q 74 [l0, some (zI x), l2] st G h k ↔ zE 90 d Q 75 [l0, some (zI x), l2] (zI x :: st) G h k := E_iload_n (by rfl) rfl
theorem e90_75 : zE 90 d Q 75 [l0, l1, l2] [zI x] G h k ↔ Q (some (zI x)) G h := E_iret (by rfl) rfl
theorem e90_76 : zE 90 d Q 76 [l0, some (zI x), l2] st G h k ↔ zE 90 d Q 79 [(zclr l0), some (zI (wr (x + 1))), l2] st G h k := E_iinc (by rfl) rfl
theorem e90_79 : zE 90 d Q 79 [l0, l1, l2] st G h k ↔ zE 90 d Q 41 [l0, l1, l2] st G h k := E_goto (by rfl)
theorem e90_82 : zE 90 d Q 82 [l0, l1, l2] st G h k ↔ zE 90 d Q 84 [l0, l1, l2] (zI (-2) :: st) G h k := E_bipush (by rfl)
theorem e90_84 : zE 90 d Q 84 [l0, l1, l2] [zI x] G h k ↔ Q (some (zI x)) G h := E_iret (by rfl) rfl
end SITES
