section SITES
variable {d : Nat} {Q : zQ} {st : List zV} {G : zG} {h : zM} {k : zK} {x y i : Int} {r r1 r2 q : Nat} {w9 : Option Nat ⊕ Nat} {q9 : Option Nat} {v0 v1 v2 v3 v4 : zV} {l0 l1 l2 l3 l4 l5 l6 l7 l8 l9 l10 l11 l12 l13 l14 l15 : Option zV}
theorem e23_0 : zE 23 d Q 0 [some (.inr (.inr w9)), l1] st G h k ↔ zE 23 d Q 1 [some (.inr (.inr w9)), l1] (.inr (.inr w9) :: st) G h k := E_aload_n (by rfl) rfl
theorem e23_1 : zE 23 d Q 1 [l0, l1] (zR (some r) :: st) G h k ↔ (G.2.1 r = 3 ∧ zE 23 d Q 4 [l0, l1] (zI (h r 1) :: st) G h k) := E_getI (by rfl) (by decide)
theorem e23_4 : zE 23 d Q 4 [l0, l1] (zI x :: st) G h k ↔ ((x = 0 → zE 23 d Q 8 [l0, l1] st G h k) ∧ (¬ (x = 0) → zE 23 d Q 7 [l0, l1] st G h k)) := E_if_eq (by rfl)
theorem e23_7 : zE 23 d Q 7 [l0, l1] [] G h k ↔ Q none G h := E_vret (by rfl) rfl
theorem e23_8 : zE 23 d Q 8 [some (.inr (.inr w9)), l1] st G h k ↔ zE 23 d Q 9 [some (.inr (.inr w9)), l1] (.inr (.inr w9) :: st) G h k := E_aload_n (by rfl) rfl
theorem e23_9 : zE 23 d Q 9 [l0, l1] (zR (some r) :: st) G h k ↔ (G.2.1 r = 3 ∧ zE 23 d Q 12 [l0, l1] (zI (h r 5) :: st) G h k) := E_getI (by rfl) (by decide)
theorem e23_12 : zE 23 d Q 12 [l0, l1] st G h k ↔ zE 23 d Q 13 [l0, l1] (zI 2 :: st) G h k := E_iconst (by rfl)
theorem e23_13 : zE 23 d Q 13 [l0, l1] (zI y :: zI x :: st) G h k ↔ ((x = y → zE 23 d Q 28 [l0, l1] st G h k) ∧ (¬ (x = y) → zE 23 d Q 16 [l0, l1] st G h k)) := E_icmp_eq (by rfl)
theorem e23_16 : zE 23 d Q 16 [some (.inr (.inr w9)), l1] st G h k ↔ zE 23 d Q 17 [some (.inr (.inr w9)), l1] (.inr (.inr w9) :: st) G h k := E_aload_n (by rfl) rfl
theorem e23_17 : zE 23 d Q 17 [l0, l1] st G h k ↔ zE 23 d Q 18 [l0, l1] (zI 1 :: st) G h k := E_iconst (by rfl)
theorem e23_18 : zE 23 d Q 18 [some (.inr (.inr w9)), l1] st G h k ↔ zE 23 d Q 19 [some (.inr (.inr w9)), l1] (.inr (.inr w9) :: st) G h k := E_aload_n (by rfl) rfl
theorem e23_19 : zE 23 d Q 19 [l0, l1] (zR (some r) :: st) G h k ↔ (G.2.1 r = 3 ∧ zE 23 d Q 22 [l0, l1] (zI (h r 6) :: st) G h k) := E_getI (by rfl) (by decide)
theorem e23_22 : zE 23 d Q 22 [l0, l1] (v1 :: v0 :: zR (some r) :: st) G h k ↔ (zsum st ≤ 8 ∧ G.2.1 r = 3 ∧ zRunD ztb zmt' d 16 [zR (some r), v0, v1] G h (fun v G' h' => zE 23 d Q 25 [l0, l1] (v.toList ++ st) G' h' k)) := E_invV2z (by rfl) (by decide) rfl
theorem e23_25 : zE 23 d Q 25 [l0, l1] st G h k ↔ zE 23 d Q 122 [l0, l1] st G h k := E_goto (by rfl)
theorem e23_28 : zE 23 d Q 28 [some (.inr (.inr w9)), l1] st G h k ↔ zE 23 d Q 29 [some (.inr (.inr w9)), l1] (.inr (.inr w9) :: st) G h k := E_aload_n (by rfl) rfl
theorem e23_29 : zE 23 d Q 29 [l0, l1] (zR (some r) :: st) G h k ↔ (G.2.1 r = 3 ∧ zE 23 d Q 32 [l0, l1] (zI (h r 8) :: st) G h k) := E_getI (by rfl) (by decide)
theorem e23_32 : zE 23 d Q 32 [l0, l1] st G h k ↔ zE 23 d Q 35 [l0, l1] (zI 199 :: st) G h k := E_sipush (by rfl)
theorem e23_35 : zE 23 d Q 35 [l0, l1] (zI y :: zI x :: st) G h k ↔ ((y < x → zE 23 d Q 63 [l0, l1] st G h k) ∧ (¬ (y < x) → zE 23 d Q 38 [l0, l1] st G h k)) := E_icmp_gt (by rfl)
theorem e23_38 : zE 23 d Q 38 [l0, some (.inr (.inr w9))] st G h k ↔ zE 23 d Q 39 [l0, some (.inr (.inr w9))] (.inr (.inr w9) :: st) G h k := E_aload_n (by rfl) rfl
theorem e23_39 : zE 23 d Q 39 [l0, l1] (zR (some r) :: st) G h k ↔ (G.2.1 r = 5 ∧ zE 23 d Q 42 [l0, l1] (zI (h r 11) :: st) G h k) := E_getI (by rfl) (by decide)
theorem e23_42 : zE 23 d Q 42 [l0, l1] (zI x :: st) G h k ↔ ((x ≤ 0 → zE 23 d Q 75 [l0, l1] st G h k) ∧ (¬ (x ≤ 0) → zE 23 d Q 45 [l0, l1] st G h k)) := E_if_le (by rfl)
theorem e23_45 : zE 23 d Q 45 [some (.inr (.inr w9)), l1] st G h k ↔ zE 23 d Q 46 [some (.inr (.inr w9)), l1] (.inr (.inr w9) :: st) G h k := E_aload_n (by rfl) rfl
theorem e23_46 : zE 23 d Q 46 [l0, l1] (zR (some r) :: st) G h k ↔ (G.2.1 r = 3 ∧ zE 23 d Q 49 [l0, l1] (zI (h r 8) :: st) G h k) := E_getI (by rfl) (by decide)
theorem e23_49 : zE 23 d Q 49 [l0, some (.inr (.inr w9))] st G h k ↔ zE 23 d Q 50 [l0, some (.inr (.inr w9))] (.inr (.inr w9) :: st) G h k := E_aload_n (by rfl) rfl
theorem e23_50 : zE 23 d Q 50 [l0, l1] (zR (some r) :: st) G h k ↔ (G.2.1 r = 5 ∧ zE 23 d Q 53 [l0, l1] (zR (G.2.2.2 r 8) :: st) G h k) := E_getR (by rfl) rfl
theorem e23_53 : zE 23 d Q 53 [l0, some (.inr (.inr w9))] st G h k ↔ zE 23 d Q 54 [l0, some (.inr (.inr w9))] (.inr (.inr w9) :: st) G h k := E_aload_n (by rfl) rfl
theorem e23_54 : zE 23 d Q 54 [l0, l1] (zR (some r) :: st) G h k ↔ (G.2.1 r = 5 ∧ zE 23 d Q 57 [l0, l1] (zI (h r 11) :: st) G h k) := E_getI (by rfl) (by decide)
theorem e23_57 : zE 23 d Q 57 [l0, l1] st G h k ↔ zE 23 d Q 58 [l0, l1] (zI 1 :: st) G h k := E_iconst (by rfl)
theorem e23_58 : zE 23 d Q 58 [l0, l1] (zI y :: zI x :: st) G h k ↔ zE 23 d Q 59 [l0, l1] (zI (wr (x - y)) :: st) G h k := E_isub (by rfl)
theorem e23_59 : zE 23 d Q 59 [l0, l1] (zI i :: zR (some r) :: st) G h k ↔ (G.2.1 r = 10 ∧ (0 ≤ i ∧ i < G.2.2.1 r) ∧ zE 23 d Q 60 [l0, l1] (zI (h r i.toNat) :: st) G h k) := E_iaload (by rfl)
theorem e23_60 : zE 23 d Q 60 [l0, l1] (zI y :: zI x :: st) G h k ↔ ((y < x → zE 23 d Q 75 [l0, l1] st G h k) ∧ (¬ (y < x) → zE 23 d Q 63 [l0, l1] st G h k)) := E_icmp_gt (by rfl)
theorem e23_63 : zE 23 d Q 63 [some (.inr (.inr w9)), l1] st G h k ↔ zE 23 d Q 64 [some (.inr (.inr w9)), l1] (.inr (.inr w9) :: st) G h k := E_aload_n (by rfl) rfl
theorem e23_64 : zE 23 d Q 64 [l0, l1] st G h k ↔ zE 23 d Q 65 [l0, l1] (zI 4 :: st) G h k := E_iconst (by rfl)
theorem e23_65 : zE 23 d Q 65 [some (.inr (.inr w9)), l1] st G h k ↔ zE 23 d Q 66 [some (.inr (.inr w9)), l1] (.inr (.inr w9) :: st) G h k := E_aload_n (by rfl) rfl
theorem e23_66 : zE 23 d Q 66 [l0, l1] (zR (some r) :: st) G h k ↔ (G.2.1 r = 3 ∧ zE 23 d Q 69 [l0, l1] (zI (h r 6) :: st) G h k) := E_getI (by rfl) (by decide)
theorem e23_69 : zE 23 d Q 69 [l0, l1] (v1 :: v0 :: zR (some r) :: st) G h k ↔ (zsum st ≤ 8 ∧ G.2.1 r = 3 ∧ zRunD ztb zmt' d 16 [zR (some r), v0, v1] G h (fun v G' h' => zE 23 d Q 72 [l0, l1] (v.toList ++ st) G' h' k)) := E_invV2z (by rfl) (by decide) rfl
theorem e23_72 : zE 23 d Q 72 [l0, l1] st G h k ↔ zE 23 d Q 122 [l0, l1] st G h k := E_goto (by rfl)
theorem e23_75 : zE 23 d Q 75 [l0, some (.inr (.inr w9))] st G h k ↔ zE 23 d Q 76 [l0, some (.inr (.inr w9))] (.inr (.inr w9) :: st) G h k := E_aload_n (by rfl) rfl
theorem e23_76 : zE 23 d Q 76 [l0, l1] (zR (some r) :: st) G h k ↔ (G.2.1 r = 5 ∧ zE 23 d Q 79 [l0, l1] (zI (h r 11) :: st) G h k) := E_getI (by rfl) (by decide)
theorem e23_79 : zE 23 d Q 79 [l0, l1] st G h k ↔ zE 23 d Q 80 [l0, l1] (zI 3 :: st) G h k := E_iconst (by rfl)
theorem e23_80 : zE 23 d Q 80 [l0, l1] (zI y :: zI x :: st) G h k ↔ ((x < y → zE 23 d Q 95 [l0, l1] st G h k) ∧ (¬ (x < y) → zE 23 d Q 83 [l0, l1] st G h k)) := E_icmp_lt (by rfl)
theorem e23_83 : zE 23 d Q 83 [some (.inr (.inr w9)), l1] st G h k ↔ zE 23 d Q 84 [some (.inr (.inr w9)), l1] (.inr (.inr w9) :: st) G h k := E_aload_n (by rfl) rfl
theorem e23_84 : zE 23 d Q 84 [l0, l1] st G h k ↔ zE 23 d Q 85 [l0, l1] (zI 5 :: st) G h k := E_iconst (by rfl)
theorem e23_85 : zE 23 d Q 85 [some (.inr (.inr w9)), l1] st G h k ↔ zE 23 d Q 86 [some (.inr (.inr w9)), l1] (.inr (.inr w9) :: st) G h k := E_aload_n (by rfl) rfl
theorem e23_86 : zE 23 d Q 86 [l0, l1] (zR (some r) :: st) G h k ↔ (G.2.1 r = 3 ∧ zE 23 d Q 89 [l0, l1] (zI (h r 6) :: st) G h k) := E_getI (by rfl) (by decide)
theorem e23_89 : zE 23 d Q 89 [l0, l1] (v1 :: v0 :: zR (some r) :: st) G h k ↔ (zsum st ≤ 8 ∧ G.2.1 r = 3 ∧ zRunD ztb zmt' d 16 [zR (some r), v0, v1] G h (fun v G' h' => zE 23 d Q 92 [l0, l1] (v.toList ++ st) G' h' k)) := E_invV2z (by rfl) (by decide) rfl
theorem e23_92 : zE 23 d Q 92 [l0, l1] st G h k ↔ zE 23 d Q 122 [l0, l1] st G h k := E_goto (by rfl)
theorem e23_95 : zE 23 d Q 95 [l0, some (.inr (.inr w9))] st G h k ↔ zE 23 d Q 96 [l0, some (.inr (.inr w9))] (.inr (.inr w9) :: st) G h k := E_aload_n (by rfl) rfl
theorem e23_96 : zE 23 d Q 96 [l0, l1] (zR (some r) :: st) G h k ↔ (G.2.1 r = 5 ∧ zE 23 d Q 99 [l0, l1] (zR (G.2.2.2 r 8) :: st) G h k) := E_getR (by rfl) rfl
theorem e23_99 : zE 23 d Q 99 [l0, some (.inr (.inr w9))] st G h k ↔ zE 23 d Q 100 [l0, some (.inr (.inr w9))] (.inr (.inr w9) :: st) G h k := E_aload_n (by rfl) rfl
theorem e23_100 : zE 23 d Q 100 [l0, l1] (zR (some r) :: st) G h k ↔ (G.2.1 r = 5 ∧ zE 23 d Q 103 [l0, l1] (zI (h r 11) :: st) G h k) := E_getI (by rfl) (by decide)
theorem e23_103 : zE 23 d Q 103 [some (.inr (.inr w9)), l1] st G h k ↔ zE 23 d Q 104 [some (.inr (.inr w9)), l1] (.inr (.inr w9) :: st) G h k := E_aload_n (by rfl) rfl
theorem e23_104 : zE 23 d Q 104 [l0, l1] (zR (some r) :: st) G h k ↔ (G.2.1 r = 3 ∧ zE 23 d Q 107 [l0, l1] (zI (h r 8) :: st) G h k) := E_getI (by rfl) (by decide)
theorem e23_107 : zE 23 d Q 107 [l0, l1] (zI x :: zI i :: zR (some r) :: st) G h k ↔ (G.2.1 r = 10 ∧ (0 ≤ i ∧ i < G.2.2.1 r) ∧ zE 23 d Q 108 [l0, l1] st G (zu h r i.toNat x) k) := E_iastore (by rfl)
theorem e23_108 : zE 23 d Q 108 [l0, some (.inr (.inr w9))] st G h k ↔ zE 23 d Q 109 [l0, some (.inr (.inr w9))] (.inr (.inr w9) :: st) G h k := E_aload_n (by rfl) rfl
theorem e23_109 : zE 23 d Q 109 [l0, l1] (.inr (.inr w9) :: st) G h k ↔ zE 23 d Q 110 [l0, l1] (.inr (.inr w9) :: .inr (.inr w9) :: st) G h k := E_dup (by rfl) rfl
theorem e23_110 : zE 23 d Q 110 [l0, l1] (zR (some r) :: st) G h k ↔ (G.2.1 r = 5 ∧ zE 23 d Q 113 [l0, l1] (zI (h r 11) :: st) G h k) := E_getI (by rfl) (by decide)
theorem e23_113 : zE 23 d Q 113 [l0, l1] st G h k ↔ zE 23 d Q 114 [l0, l1] (zI 1 :: st) G h k := E_iconst (by rfl)
theorem e23_114 : zE 23 d Q 114 [l0, l1] (zI y :: zI x :: st) G h k ↔ zE 23 d Q 115 [l0, l1] (zI (wr (x + y)) :: st) G h k := E_iadd (by rfl)
theorem e23_115 : zE 23 d Q 115 [l0, l1] (zI x :: zR (some r) :: st) G h k ↔ (G.2.1 r = 5 ∧ zE 23 d Q 118 [l0, l1] st G (zu h r 11 x) k) := E_putI (by rfl) rfl
theorem e23_118 : zE 23 d Q 118 [some (.inr (.inr w9)), l1] st G h k ↔ zE 23 d Q 119 [some (.inr (.inr w9)), l1] (.inr (.inr w9) :: st) G h k := E_aload_n (by rfl) rfl
theorem e23_119 : zE 23 d Q 119 [l0, l1] (zR (some r) :: st) G h k ↔ (zsum st ≤ 8 ∧ G.2.1 r = 3 ∧ zRunD ztb zmt' d 17 [zR (some r)] G h (fun v G' h' => zE 23 d Q 122 [l0, l1] (v.toList ++ st) G' h' k)) := E_invV2z (by rfl) (by decide) rfl
theorem e23_122 : zE 23 d Q 122 [l0, l1] [] G h k ↔ Q none G h := E_vret (by rfl) rfl
theorem e24_0 : zE 24 d Q 0 [some (.inr (.inr w9)), l1] st G h k ↔ zE 24 d Q 1 [some (.inr (.inr w9)), l1] (.inr (.inr w9) :: st) G h k := E_aload_n (by rfl) rfl
theorem e24_1 : zE 24 d Q 1 [l0, l1] (zR (some r) :: st) G h k ↔ (G.2.1 r = 3 ∧ zE 24 d Q 4 [l0, l1] (zI (h r 13) :: st) G h k) := E_getI (by rfl) (by decide)
theorem e24_4 : zE 24 d Q 4 [l0, l1] (zI x :: st) G h k ↔ ((x = 0 → zE 24 d Q 17 [l0, l1] st G h k) ∧ (¬ (x = 0) → zE 24 d Q 7 [l0, l1] st G h k)) := E_if_eq (by rfl)
theorem e24_7 : zE 24 d Q 7 [some (.inr (.inr w9)), l1] st G h k ↔ zE 24 d Q 8 [some (.inr (.inr w9)), l1] (.inr (.inr w9) :: st) G h k := E_aload_n (by rfl) rfl
theorem e24_8 : zE 24 d Q 8 [l0, l1] st G h k ↔ zE 24 d Q 9 [l0, l1] (zI 3 :: st) G h k := E_iconst (by rfl)
theorem e24_9 : zE 24 d Q 9 [some (.inr (.inr w9)), l1] st G h k ↔ zE 24 d Q 10 [some (.inr (.inr w9)), l1] (.inr (.inr w9) :: st) G h k := E_aload_n (by rfl) rfl
theorem e24_10 : zE 24 d Q 10 [l0, l1] (zR (some r) :: st) G h k ↔ (G.2.1 r = 3 ∧ zE 24 d Q 13 [l0, l1] (zI (h r 6) :: st) G h k) := E_getI (by rfl) (by decide)
theorem e24_13 : zE 24 d Q 13 [l0, l1] (v1 :: v0 :: zR (some r) :: st) G h k ↔ (zsum st ≤ 8 ∧ G.2.1 r = 3 ∧ zRunD ztb zmt' d 16 [zR (some r), v0, v1] G h (fun v G' h' => zE 24 d Q 16 [l0, l1] (v.toList ++ st) G' h' k)) := E_invV2z (by rfl) (by decide) rfl
theorem e24_16 : zE 24 d Q 16 [l0, l1] [] G h k ↔ Q none G h := E_vret (by rfl) rfl
theorem e24_17 : zE 24 d Q 17 [some (.inr (.inr w9)), l1] st G h k ↔ zE 24 d Q 18 [some (.inr (.inr w9)), l1] (.inr (.inr w9) :: st) G h k := E_aload_n (by rfl) rfl
theorem e24_18 : zE 24 d Q 18 [l0, l1] st G h k ↔ zE 24 d Q 19 [l0, l1] (zI 1 :: st) G h k := E_iconst (by rfl)
theorem e24_19 : zE 24 d Q 19 [l0, l1] (zI x :: zR (some r) :: st) G h k ↔ (G.2.1 r = 3 ∧ (x = 0 ∨ x = 1) ∧ zE 24 d Q 22 [l0, l1] st G (zu h r 13 x) k) := E_putZ (by rfl) rfl
theorem e24_22 : zE 24 d Q 22 [l0, some (.inr (.inr w9))] st G h k ↔ zE 24 d Q 23 [l0, some (.inr (.inr w9))] (.inr (.inr w9) :: st) G h k := E_aload_n (by rfl) rfl
theorem e24_23 : zE 24 d Q 23 [some (.inr (.inr w9)), l1] st G h k ↔ zE 24 d Q 24 [some (.inr (.inr w9)), l1] (.inr (.inr w9) :: st) G h k := E_aload_n (by rfl) rfl
theorem e24_24 : zE 24 d Q 24 [l0, l1] st G h k ↔ zE 24 d Q 26 [l0, l1] (zT 3 :: st) G h k := E_ldcS (by rfl) (by decide)
theorem e24_26 : zE 24 d Q 26 [l0, l1] st G h k ↔ zE 24 d Q 28 [l0, l1] (zI 100 :: st) G h k := E_bipush (by rfl)
theorem e24_28 : zE 24 d Q 28 [l0, l1] (v1 :: v0 :: zR (some r) :: st) G h k ↔ (zsum st ≤ 8 ∧ G.2.1 r = 3 ∧ zRunD ztb zmt' d 28 [zR (some r), v0, v1] G h (fun v G' h' => zE 24 d Q 31 [l0, l1] (v.toList ++ st) G' h' k)) := E_invV2z (by rfl) (by decide) rfl
theorem e24_31 : zE 24 d Q 31 [l0, l1] (zI x :: zR (some r) :: st) G h k ↔ (G.2.1 r = 5 ∧ zE 24 d Q 34 [l0, l1] st G (zu h r 13 x) k) := E_putI (by rfl) rfl
theorem e24_34 : zE 24 d Q 34 [l0, l1] [] G h k ↔ Q none G h := E_vret (by rfl) rfl
theorem e25_0 : zE 25 d Q 0 [some (.inr (.inr w9))] st G h k ↔ zE 25 d Q 1 [some (.inr (.inr w9))] (.inr (.inr w9) :: st) G h k := E_aload_n (by rfl) rfl
theorem e25_1 : zE 25 d Q 1 [l0] (zR (some r) :: st) G h k ↔ (G.2.1 r = 3 ∧ zE 25 d Q 4 [l0] (zI (h r 1) :: st) G h k) := E_getI (by rfl) (by decide)
theorem e25_4 : zE 25 d Q 4 [l0] (zI x :: st) G h k ↔ ((x = 0 → zE 25 d Q 8 [l0] st G h k) ∧ (¬ (x = 0) → zE 25 d Q 7 [l0] st G h k)) := E_if_eq (by rfl)
theorem e25_7 : zE 25 d Q 7 [l0] [] G h k ↔ Q none G h := E_vret (by rfl) rfl
theorem e25_8 : zE 25 d Q 8 [some (.inr (.inr w9))] st G h k ↔ zE 25 d Q 9 [some (.inr (.inr w9))] (.inr (.inr w9) :: st) G h k := E_aload_n (by rfl) rfl
theorem e25_9 : zE 25 d Q 9 [l0] (zR (some r) :: st) G h k ↔ (G.2.1 r = 3 ∧ zE 25 d Q 12 [l0] (zI (h r 5) :: st) G h k) := E_getI (by rfl) (by decide)
theorem e25_12 : zE 25 d Q 12 [l0] st G h k ↔ zE 25 d Q 13 [l0] (zI 1 :: st) G h k := E_iconst (by rfl)
theorem e25_13 : zE 25 d Q 13 [l0] (zI y :: zI x :: st) G h k ↔ ((¬ x = y → zE 25 d Q 52 [l0] st G h k) ∧ (¬ (¬ x = y) → zE 25 d Q 16 [l0] st G h k)) := E_icmp_ne (by rfl)
theorem e25_16 : zE 25 d Q 16 [some (.inr (.inr w9))] st G h k ↔ zE 25 d Q 17 [some (.inr (.inr w9))] (.inr (.inr w9) :: st) G h k := E_aload_n (by rfl) rfl
theorem e25_17 : zE 25 d Q 17 [l0] st G h k ↔ zE 25 d Q 19 [l0] (zT 0 :: st) G h k := E_ldcS (by rfl) (by decide)
theorem e25_19 : zE 25 d Q 19 [l0] (v0 :: zR (some r) :: st) G h k ↔ (zsum st ≤ 8 ∧ G.2.1 r = 3 ∧ zRunD ztb zmt' d 19 [zR (some r), v0] G h (fun v G' h' => zE 25 d Q 22 [l0] (v.toList ++ st) G' h' k)) := E_invV2z (by rfl) (by decide) rfl
theorem e25_22 : zE 25 d Q 22 [l0] (zI x :: st) G h k ↔ ((¬ x = 0 → zE 25 d Q 52 [l0] st G h k) ∧ (¬ (¬ x = 0) → zE 25 d Q 25 [l0] st G h k)) := E_if_ne (by rfl)
theorem e25_25 : zE 25 d Q 25 [some (.inr (.inr w9))] st G h k ↔ zE 25 d Q 26 [some (.inr (.inr w9))] (.inr (.inr w9) :: st) G h k := E_aload_n (by rfl) rfl
theorem e25_26 : zE 25 d Q 26 [l0] st G h k ↔ zE 25 d Q 28 [l0] (zT 1 :: st) G h k := E_ldcS (by rfl) (by decide)
theorem e25_28 : zE 25 d Q 28 [l0] (v0 :: zR (some r) :: st) G h k ↔ (zsum st ≤ 8 ∧ G.2.1 r = 3 ∧ zRunD ztb zmt' d 19 [zR (some r), v0] G h (fun v G' h' => zE 25 d Q 31 [l0] (v.toList ++ st) G' h' k)) := E_invV2z (by rfl) (by decide) rfl
theorem e25_31 : zE 25 d Q 31 [l0] (zI x :: st) G h k ↔ ((¬ x = 0 → zE 25 d Q 52 [l0] st G h k) ∧ (¬ (¬ x = 0) → zE 25 d Q 34 [l0] st G h k)) := E_if_ne (by rfl)
theorem e25_34 : zE 25 d Q 34 [some (.inr (.inr w9))] st G h k ↔ zE 25 d Q 35 [some (.inr (.inr w9))] (.inr (.inr w9) :: st) G h k := E_aload_n (by rfl) rfl
theorem e25_35 : zE 25 d Q 35 [l0] st G h k ↔ zE 25 d Q 37 [l0] (zT 2 :: st) G h k := E_ldcS (by rfl) (by decide)
theorem e25_37 : zE 25 d Q 37 [l0] (v0 :: zR (some r) :: st) G h k ↔ (zsum st ≤ 8 ∧ G.2.1 r = 3 ∧ zRunD ztb zmt' d 19 [zR (some r), v0] G h (fun v G' h' => zE 25 d Q 40 [l0] (v.toList ++ st) G' h' k)) := E_invV2z (by rfl) (by decide) rfl
theorem e25_40 : zE 25 d Q 40 [l0] (zI x :: st) G h k ↔ ((¬ x = 0 → zE 25 d Q 52 [l0] st G h k) ∧ (¬ (¬ x = 0) → zE 25 d Q 43 [l0] st G h k)) := E_if_ne (by rfl)
theorem e25_43 : zE 25 d Q 43 [some (.inr (.inr w9))] st G h k ↔ zE 25 d Q 44 [some (.inr (.inr w9))] (.inr (.inr w9) :: st) G h k := E_aload_n (by rfl) rfl
theorem e25_44 : zE 25 d Q 44 [l0] st G h k ↔ zE 25 d Q 46 [l0] (zT 3 :: st) G h k := E_ldcS (by rfl) (by decide)
theorem e25_46 : zE 25 d Q 46 [l0] (v0 :: zR (some r) :: st) G h k ↔ (zsum st ≤ 8 ∧ G.2.1 r = 3 ∧ zRunD ztb zmt' d 19 [zR (some r), v0] G h (fun v G' h' => zE 25 d Q 49 [l0] (v.toList ++ st) G' h' k)) := E_invV2z (by rfl) (by decide) rfl
theorem e25_49 : zE 25 d Q 49 [l0] (zI x :: st) G h k ↔ ((x = 0 → zE 25 d Q 64 [l0] st G h k) ∧ (¬ (x = 0) → zE 25 d Q 52 [l0] st G h k)) := E_if_eq (by rfl)
theorem e25_52 : zE 25 d Q 52 [some (.inr (.inr w9))] st G h k ↔ zE 25 d Q 53 [some (.inr (.inr w9))] (.inr (.inr w9) :: st) G h k := E_aload_n (by rfl) rfl
theorem e25_53 : zE 25 d Q 53 [l0] st G h k ↔ zE 25 d Q 54 [l0] (zI 1 :: st) G h k := E_iconst (by rfl)
theorem e25_54 : zE 25 d Q 54 [some (.inr (.inr w9))] st G h k ↔ zE 25 d Q 55 [some (.inr (.inr w9))] (.inr (.inr w9) :: st) G h k := E_aload_n (by rfl) rfl
theorem e25_55 : zE 25 d Q 55 [l0] (zR (some r) :: st) G h k ↔ (G.2.1 r = 3 ∧ zE 25 d Q 58 [l0] (zI (h r 6) :: st) G h k) := E_getI (by rfl) (by decide)
theorem e25_58 : zE 25 d Q 58 [l0] (v1 :: v0 :: zR (some r) :: st) G h k ↔ (zsum st ≤ 8 ∧ G.2.1 r = 3 ∧ zRunD ztb zmt' d 16 [zR (some r), v0, v1] G h (fun v G' h' => zE 25 d Q 61 [l0] (v.toList ++ st) G' h' k)) := E_invV2z (by rfl) (by decide) rfl
theorem e25_61 : zE 25 d Q 61 [l0] st G h k ↔ zE 25 d Q 135 [l0] st G h k := E_goto (by rfl)
theorem e25_64 : zE 25 d Q 64 [some (.inr (.inr w9))] st G h k ↔ zE 25 d Q 65 [some (.inr (.inr w9))] (.inr (.inr w9) :: st) G h k := E_aload_n (by rfl) rfl
theorem e25_65 : zE 25 d Q 65 [l0] (zR (some r) :: st) G h k ↔ (zsum st ≤ 8 ∧ G.2.1 r = 3 ∧ zRunD ztb zmt' d 26 [zR (some r)] G h (fun v G' h' => zE 25 d Q 68 [l0] (v.toList ++ st) G' h' k)) := E_invV2z (by rfl) (by decide) rfl
theorem e25_68 : zE 25 d Q 68 [l0] (zI x :: st) G h k ↔ ((x = 0 → zE 25 d Q 83 [l0] st G h k) ∧ (¬ (x = 0) → zE 25 d Q 71 [l0] st G h k)) := E_if_eq (by rfl)
theorem e25_71 : zE 25 d Q 71 [some (.inr (.inr w9))] st G h k ↔ zE 25 d Q 72 [some (.inr (.inr w9))] (.inr (.inr w9) :: st) G h k := E_aload_n (by rfl) rfl
theorem e25_72 : zE 25 d Q 72 [l0] st G h k ↔ zE 25 d Q 73 [l0] (zI 3 :: st) G h k := E_iconst (by rfl)
theorem e25_73 : zE 25 d Q 73 [some (.inr (.inr w9))] st G h k ↔ zE 25 d Q 74 [some (.inr (.inr w9))] (.inr (.inr w9) :: st) G h k := E_aload_n (by rfl) rfl
theorem e25_74 : zE 25 d Q 74 [l0] (zR (some r) :: st) G h k ↔ (G.2.1 r = 3 ∧ zE 25 d Q 77 [l0] (zI (h r 6) :: st) G h k) := E_getI (by rfl) (by decide)
theorem e25_77 : zE 25 d Q 77 [l0] (v1 :: v0 :: zR (some r) :: st) G h k ↔ (zsum st ≤ 8 ∧ G.2.1 r = 3 ∧ zRunD ztb zmt' d 16 [zR (some r), v0, v1] G h (fun v G' h' => zE 25 d Q 80 [l0] (v.toList ++ st) G' h' k)) := E_invV2z (by rfl) (by decide) rfl
theorem e25_80 : zE 25 d Q 80 [l0] st G h k ↔ zE 25 d Q 135 [l0] st G h k := E_goto (by rfl)
theorem e25_83 : zE 25 d Q 83 [some (.inr (.inr w9))] st G h k ↔ zE 25 d Q 84 [some (.inr (.inr w9))] (.inr (.inr w9) :: st) G h k := E_aload_n (by rfl) rfl
theorem e25_84 : zE 25 d Q 84 [l0] (zR (some r) :: st) G h k ↔ (G.2.1 r = 3 ∧ zE 25 d Q 87 [l0] (zI (h r 11) :: st) G h k) := E_getI (by rfl) (by decide)
theorem e25_87 : zE 25 d Q 87 [some (.inr (.inr w9))] st G h k ↔ zE 25 d Q 88 [some (.inr (.inr w9))] (.inr (.inr w9) :: st) G h k := E_aload_n (by rfl) rfl
theorem e25_88 : zE 25 d Q 88 [l0] (zR (some r) :: st) G h k ↔ (G.2.1 r = 3 ∧ zE 25 d Q 91 [l0] (zR (G.2.2.2 r 9) :: st) G h k) := E_getR (by rfl) rfl
theorem e25_91 : zE 25 d Q 91 [l0] (zR (some r) :: st) G h k ↔ (10 ≤ G.2.1 r ∧ G.2.1 r ≤ 13 ∧ G.2.2.1 r < 2147483648 ∧ zE 25 d Q 92 [l0] (zI (G.2.2.1 r) :: st) G h k) := E_arraylength (by rfl)
theorem e25_92 : zE 25 d Q 92 [l0] (zI y :: zI x :: st) G h k ↔ ((y ≤ x → zE 25 d Q 135 [l0] st G h k) ∧ (¬ (y ≤ x) → zE 25 d Q 95 [l0] st G h k)) := E_icmp_ge (by rfl)
theorem e25_95 : zE 25 d Q 95 [some (.inr (.inr w9))] st G h k ↔ zE 25 d Q 96 [some (.inr (.inr w9))] (.inr (.inr w9) :: st) G h k := E_aload_n (by rfl) rfl
theorem e25_96 : zE 25 d Q 96 [l0] (zR (some r) :: st) G h k ↔ (G.2.1 r = 3 ∧ zE 25 d Q 99 [l0] (zR (G.2.2.2 r 9) :: st) G h k) := E_getR (by rfl) rfl
theorem e25_99 : zE 25 d Q 99 [some (.inr (.inr w9))] st G h k ↔ zE 25 d Q 100 [some (.inr (.inr w9))] (.inr (.inr w9) :: st) G h k := E_aload_n (by rfl) rfl
theorem e25_100 : zE 25 d Q 100 [l0] (zR (some r) :: st) G h k ↔ (G.2.1 r = 3 ∧ zE 25 d Q 103 [l0] (zI (h r 11) :: st) G h k) := E_getI (by rfl) (by decide)
theorem e25_103 : zE 25 d Q 103 [some (.inr (.inr w9))] st G h k ↔ zE 25 d Q 104 [some (.inr (.inr w9))] (.inr (.inr w9) :: st) G h k := E_aload_n (by rfl) rfl
theorem e25_104 : zE 25 d Q 104 [l0] (zR (some r) :: st) G h k ↔ (G.2.1 r = 3 ∧ zE 25 d Q 107 [l0] (zI (h r 6) :: st) G h k) := E_getI (by rfl) (by decide)
theorem e25_107 : zE 25 d Q 107 [l0] (zI x :: zI i :: zR (some r) :: st) G h k ↔ (G.2.1 r = 10 ∧ (0 ≤ i ∧ i < G.2.2.1 r) ∧ zE 25 d Q 108 [l0] st G (zu h r i.toNat x) k) := E_iastore (by rfl)
theorem e25_108 : zE 25 d Q 108 [some (.inr (.inr w9))] st G h k ↔ zE 25 d Q 109 [some (.inr (.inr w9))] (.inr (.inr w9) :: st) G h k := E_aload_n (by rfl) rfl
theorem e25_109 : zE 25 d Q 109 [l0] (zR (some r) :: st) G h k ↔ (G.2.1 r = 3 ∧ zE 25 d Q 112 [l0] (zR (G.2.2.2 r 10) :: st) G h k) := E_getR (by rfl) rfl
theorem e25_112 : zE 25 d Q 112 [some (.inr (.inr w9))] st G h k ↔ zE 25 d Q 113 [some (.inr (.inr w9))] (.inr (.inr w9) :: st) G h k := E_aload_n (by rfl) rfl
theorem e25_113 : zE 25 d Q 113 [l0] (zR (some r) :: st) G h k ↔ (G.2.1 r = 3 ∧ zE 25 d Q 116 [l0] (zI (h r 11) :: st) G h k) := E_getI (by rfl) (by decide)
theorem e25_116 : zE 25 d Q 116 [some (.inr (.inr w9))] st G h k ↔ zE 25 d Q 117 [some (.inr (.inr w9))] (.inr (.inr w9) :: st) G h k := E_aload_n (by rfl) rfl
theorem e25_117 : zE 25 d Q 117 [l0] (zR (some r) :: st) G h k ↔ (G.2.1 r = 3 ∧ zE 25 d Q 120 [l0] (zI (h r 7) :: st) G h k) := E_getI (by rfl) (by decide)
theorem e25_120 : zE 25 d Q 120 [l0] (zI x :: zI i :: zR (some r) :: st) G h k ↔ (G.2.1 r = 10 ∧ (0 ≤ i ∧ i < G.2.2.1 r) ∧ zE 25 d Q 121 [l0] st G (zu h r i.toNat x) k) := E_iastore (by rfl)
theorem e25_121 : zE 25 d Q 121 [some (.inr (.inr w9))] st G h k ↔ zE 25 d Q 122 [some (.inr (.inr w9))] (.inr (.inr w9) :: st) G h k := E_aload_n (by rfl) rfl
theorem e25_122 : zE 25 d Q 122 [l0] (.inr (.inr w9) :: st) G h k ↔ zE 25 d Q 123 [l0] (.inr (.inr w9) :: .inr (.inr w9) :: st) G h k := E_dup (by rfl) rfl
theorem e25_123 : zE 25 d Q 123 [l0] (zR (some r) :: st) G h k ↔ (G.2.1 r = 3 ∧ zE 25 d Q 126 [l0] (zI (h r 11) :: st) G h k) := E_getI (by rfl) (by decide)
theorem e25_126 : zE 25 d Q 126 [l0] st G h k ↔ zE 25 d Q 127 [l0] (zI 1 :: st) G h k := E_iconst (by rfl)
theorem e25_127 : zE 25 d Q 127 [l0] (zI y :: zI x :: st) G h k ↔ zE 25 d Q 128 [l0] (zI (wr (x + y)) :: st) G h k := E_iadd (by rfl)
theorem e25_128 : zE 25 d Q 128 [l0] (zI x :: zR (some r) :: st) G h k ↔ (G.2.1 r = 3 ∧ zE 25 d Q 131 [l0] st G (zu h r 11 x) k) := E_putI (by rfl) rfl
theorem e25_131 : zE 25 d Q 131 [some (.inr (.inr w9))] st G h k ↔ zE 25 d Q 132 [some (.inr (.inr w9))] (.inr (.inr w9) :: st) G h k := E_aload_n (by rfl) rfl
theorem e25_132 : zE 25 d Q 132 [l0] (zR (some r) :: st) G h k ↔ (zsum st ≤ 8 ∧ G.2.1 r = 3 ∧ zRunD ztb zmt' d 17 [zR (some r)] G h (fun v G' h' => zE 25 d Q 135 [l0] (v.toList ++ st) G' h' k)) := E_invV2z (by rfl) (by decide) rfl
theorem e25_135 : zE 25 d Q 135 [l0] [] G h k ↔ Q none G h := E_vret (by rfl) rfl
theorem e26_0 : zE 26 d Q 0 [l0, l1] st G h k ↔ zE 26 d Q 1 [l0, l1] (zI 0 :: st) G h k := E_iconst (by rfl)
theorem e26_1 : zE 26 d Q 1 [l0, l1] (zI x :: st) G h k ↔ zE 26 d Q 2 [(zclr l0), some (zI x)] st G h k := E_istore_n (by rfl) (by decide)
theorem e26_2 : zE 26 d Q 2 [l0, some (zI x)] st G h k ↔ zE 26 d Q 3 [l0, some (zI x)] (zI x :: st) G h k := E_iload_n (by rfl) rfl
theorem e26_3 : zE 26 d Q 3 [some (.inr (.inr w9)), l1] st G h k ↔ zE 26 d Q 4 [some (.inr (.inr w9)), l1] (.inr (.inr w9) :: st) G h k := E_aload_n (by rfl) rfl
theorem e26_4 : zE 26 d Q 4 [l0, l1] (zR (some r) :: st) G h k ↔ (G.2.1 r = 3 ∧ zE 26 d Q 7 [l0, l1] (zI (h r 11) :: st) G h k) := E_getI (by rfl) (by decide)
theorem e26_7 : zE 26 d Q 7 [l0, l1] (zI y :: zI x :: st) G h k ↔ ((y ≤ x → zE 26 d Q 52 [l0, l1] st G h k) ∧ (¬ (y ≤ x) → zE 26 d Q 10 [l0, l1] st G h k)) := E_icmp_ge (by rfl)
theorem e26_10 : zE 26 d Q 10 [some (.inr (.inr w9)), l1] st G h k ↔ zE 26 d Q 11 [some (.inr (.inr w9)), l1] (.inr (.inr w9) :: st) G h k := E_aload_n (by rfl) rfl
theorem e26_11 : zE 26 d Q 11 [l0, l1] (zR (some r) :: st) G h k ↔ (G.2.1 r = 3 ∧ zE 26 d Q 14 [l0, l1] (zR (G.2.2.2 r 10) :: st) G h k) := E_getR (by rfl) rfl
theorem e26_14 : zE 26 d Q 14 [l0, some (zI x)] st G h k ↔ zE 26 d Q 15 [l0, some (zI x)] (zI x :: st) G h k := E_iload_n (by rfl) rfl
theorem e26_15 : zE 26 d Q 15 [l0, l1] (zI i :: zR (some r) :: st) G h k ↔ (G.2.1 r = 10 ∧ (0 ≤ i ∧ i < G.2.2.1 r) ∧ zE 26 d Q 16 [l0, l1] (zI (h r i.toNat) :: st) G h k) := E_iaload (by rfl)
theorem e26_16 : zE 26 d Q 16 [some (.inr (.inr w9)), l1] st G h k ↔ zE 26 d Q 17 [some (.inr (.inr w9)), l1] (.inr (.inr w9) :: st) G h k := E_aload_n (by rfl) rfl
theorem e26_17 : zE 26 d Q 17 [l0, l1] (zR (some r) :: st) G h k ↔ (G.2.1 r = 3 ∧ zE 26 d Q 20 [l0, l1] (zI (h r 7) :: st) G h k) := E_getI (by rfl) (by decide)
theorem e26_20 : zE 26 d Q 20 [l0, l1] (zI y :: zI x :: st) G h k ↔ ((¬ x = y → zE 26 d Q 46 [l0, l1] st G h k) ∧ (¬ (¬ x = y) → zE 26 d Q 23 [l0, l1] st G h k)) := E_icmp_ne (by rfl)
theorem e26_23 : zE 26 d Q 23 [some (.inr (.inr w9)), l1] st G h k ↔ zE 26 d Q 24 [some (.inr (.inr w9)), l1] (.inr (.inr w9) :: st) G h k := E_aload_n (by rfl) rfl
theorem e26_24 : zE 26 d Q 24 [some (.inr (.inr w9)), l1] st G h k ↔ zE 26 d Q 25 [some (.inr (.inr w9)), l1] (.inr (.inr w9) :: st) G h k := E_aload_n (by rfl) rfl
theorem e26_25 : zE 26 d Q 25 [l0, l1] (zR (some r) :: st) G h k ↔ (G.2.1 r = 3 ∧ zE 26 d Q 28 [l0, l1] (zR (G.2.2.2 r 9) :: st) G h k) := E_getR (by rfl) rfl
theorem e26_28 : zE 26 d Q 28 [l0, some (zI x)] st G h k ↔ zE 26 d Q 29 [l0, some (zI x)] (zI x :: st) G h k := E_iload_n (by rfl) rfl
theorem e26_29 : zE 26 d Q 29 [l0, l1] (zI i :: zR (some r) :: st) G h k ↔ (G.2.1 r = 10 ∧ (0 ≤ i ∧ i < G.2.2.1 r) ∧ zE 26 d Q 30 [l0, l1] (zI (h r i.toNat) :: st) G h k) := E_iaload (by rfl)
theorem e26_30 : zE 26 d Q 30 [some (.inr (.inr w9)), l1] st G h k ↔ zE 26 d Q 31 [some (.inr (.inr w9)), l1] (.inr (.inr w9) :: st) G h k := E_aload_n (by rfl) rfl
theorem e26_31 : zE 26 d Q 31 [l0, l1] (zR (some r) :: st) G h k ↔ (G.2.1 r = 3 ∧ zE 26 d Q 34 [l0, l1] (zI (h r 6) :: st) G h k) := E_getI (by rfl) (by decide)
theorem e26_34 : zE 26 d Q 34 [some (.inr (.inr w9)), l1] st G h k ↔ zE 26 d Q 35 [some (.inr (.inr w9)), l1] (.inr (.inr w9) :: st) G h k := E_aload_n (by rfl) rfl
theorem e26_35 : zE 26 d Q 35 [l0, l1] (zR (some r) :: st) G h k ↔ (G.2.1 r = 3 ∧ zE 26 d Q 38 [l0, l1] (zI (h r 7) :: st) G h k) := E_getI (by rfl) (by decide)
theorem e26_38 : zE 26 d Q 38 [l0, l1] (v2 :: v1 :: v0 :: zR (some r) :: st) G h k ↔ (zsum st ≤ 8 ∧ G.2.1 r = 3 ∧ zRunD ztb zmt' d 27 [zR (some r), v0, v1, v2] G h (fun v G' h' => zE 26 d Q 41 [l0, l1] (v.toList ++ st) G' h' k)) := E_invV2z (by rfl) (by decide) rfl
theorem e26_41 : zE 26 d Q 41 [l0, l1] (zI x :: st) G h k ↔ ((x = 0 → zE 26 d Q 46 [l0, l1] st G h k) ∧ (¬ (x = 0) → zE 26 d Q 44 [l0, l1] st G h k)) := E_if_eq (by rfl)
theorem e26_44 : zE 26 d Q 44 [l0, l1] st G h k ↔ zE 26 d Q 45 [l0, l1] (zI 1 :: st) G h k := E_iconst (by rfl)
theorem e26_45 : zE 26 d Q 45 [l0, l1] [zI x] G h k ↔ ((x = 0 ∨ x = 1) ∧ Q (some (zI x)) G h) := E_zret (by rfl) rfl
theorem e26_46 : zE 26 d Q 46 [l0, some (zI x)] st G h k ↔ zE 26 d Q 49 [(zclr l0), some (zI (wr (x + 1)))] st G h k := E_iinc (by rfl) rfl
theorem e26_49 : zE 26 d Q 49 [l0, l1] st G h k ↔ zE 26 d Q 2 [l0, l1] st G h k := E_goto (by rfl)
theorem e26_52 : zE 26 d Q 52 [l0, l1] st G h k ↔ zE 26 d Q 53 [l0, l1] (zI 0 :: st) G h k := E_iconst (by rfl)
theorem e26_53 : zE 26 d Q 53 [l0, l1] [zI x] G h k ↔ ((x = 0 ∨ x = 1) ∧ Q (some (zI x)) G h) := E_zret (by rfl) rfl
theorem e27_0 : zE 27 d Q 0 [l0, l1, l2, l3, l4] st G h k ↔ zE 27 d Q 1 [l0, l1, l2, l3, l4] (zI 0 :: st) G h k := E_iconst (by rfl)
theorem e27_1 : zE 27 d Q 1 [l0, l1, l2, l3, l4] (zI x :: st) G h k ↔ zE 27 d Q 3 [l0, l1, l2, (zclr l3), some (zI x)] st G h k := E_istore (by rfl) (by decide)
theorem e27_3 : zE 27 d Q 3 [l0, l1, l2, l3, some (zI x)] st G h k ↔ zE 27 d Q 5 [l0, l1, l2, l3, some (zI x)] (zI x :: st) G h k := E_iload (by rfl) rfl
theorem e27_5 : zE 27 d Q 5 [l0, l1, l2, some (zI x), l4] st G h k ↔ zE 27 d Q 6 [l0, l1, l2, some (zI x), l4] (zI x :: st) G h k := E_iload_n (by rfl) rfl
theorem e27_6 : zE 27 d Q 6 [l0, l1, l2, l3, l4] (zI y :: zI x :: st) G h k ↔ ((y ≤ x → zE 27 d Q 38 [l0, l1, l2, l3, l4] st G h k) ∧ (¬ (y ≤ x) → zE 27 d Q 9 [l0, l1, l2, l3, l4] st G h k)) := E_icmp_ge (by rfl)
theorem e27_9 : zE 27 d Q 9 [some (.inr (.inr w9)), l1, l2, l3, l4] st G h k ↔ zE 27 d Q 10 [some (.inr (.inr w9)), l1, l2, l3, l4] (.inr (.inr w9) :: st) G h k := E_aload_n (by rfl) rfl
theorem e27_10 : zE 27 d Q 10 [l0, l1, l2, l3, l4] (zR (some r) :: st) G h k ↔ (G.2.1 r = 3 ∧ zE 27 d Q 13 [l0, l1, l2, l3, l4] (zR (G.2.2.2 r 2) :: st) G h k) := E_getR (by rfl) rfl
theorem e27_13 : zE 27 d Q 13 [l0, some (zI x), l2, l3, l4] st G h k ↔ zE 27 d Q 14 [l0, some (zI x), l2, l3, l4] (zI x :: st) G h k := E_iload_n (by rfl) rfl
theorem e27_14 : zE 27 d Q 14 [l0, l1, l2, l3, some (zI x)] st G h k ↔ zE 27 d Q 16 [l0, l1, l2, l3, some (zI x)] (zI x :: st) G h k := E_iload (by rfl) rfl
theorem e27_16 : zE 27 d Q 16 [l0, l1, l2, l3, l4] (zI y :: zI x :: st) G h k ↔ zE 27 d Q 17 [l0, l1, l2, l3, l4] (zI (wr (x + y)) :: st) G h k := E_iadd (by rfl)
theorem e27_17 : zE 27 d Q 17 [l0, l1, l2, l3, l4] (zI i :: zR (some r) :: st) G h k ↔ (G.2.1 r = 12 ∧ (0 ≤ i ∧ i < G.2.2.1 r) ∧ zE 27 d Q 18 [l0, l1, l2, l3, l4] (zI (h r i.toNat) :: st) G h k) := E_baload (by rfl) (by decide)
theorem e27_18 : zE 27 d Q 18 [some (.inr (.inr w9)), l1, l2, l3, l4] st G h k ↔ zE 27 d Q 19 [some (.inr (.inr w9)), l1, l2, l3, l4] (.inr (.inr w9) :: st) G h k := E_aload_n (by rfl) rfl
theorem e27_19 : zE 27 d Q 19 [l0, l1, l2, l3, l4] (zR (some r) :: st) G h k ↔ (G.2.1 r = 3 ∧ zE 27 d Q 22 [l0, l1, l2, l3, l4] (zR (G.2.2.2 r 2) :: st) G h k) := E_getR (by rfl) rfl
theorem e27_22 : zE 27 d Q 22 [l0, l1, some (zI x), l3, l4] st G h k ↔ zE 27 d Q 23 [l0, l1, some (zI x), l3, l4] (zI x :: st) G h k := E_iload_n (by rfl) rfl
theorem e27_23 : zE 27 d Q 23 [l0, l1, l2, l3, some (zI x)] st G h k ↔ zE 27 d Q 25 [l0, l1, l2, l3, some (zI x)] (zI x :: st) G h k := E_iload (by rfl) rfl
theorem e27_25 : zE 27 d Q 25 [l0, l1, l2, l3, l4] (zI y :: zI x :: st) G h k ↔ zE 27 d Q 26 [l0, l1, l2, l3, l4] (zI (wr (x + y)) :: st) G h k := E_iadd (by rfl)
theorem e27_26 : zE 27 d Q 26 [l0, l1, l2, l3, l4] (zI i :: zR (some r) :: st) G h k ↔ (G.2.1 r = 12 ∧ (0 ≤ i ∧ i < G.2.2.1 r) ∧ zE 27 d Q 27 [l0, l1, l2, l3, l4] (zI (h r i.toNat) :: st) G h k) := E_baload (by rfl) (by decide)
theorem e27_27 : zE 27 d Q 27 [l0, l1, l2, l3, l4] (zI y :: zI x :: st) G h k ↔ ((x = y → zE 27 d Q 32 [l0, l1, l2, l3, l4] st G h k) ∧ (¬ (x = y) → zE 27 d Q 30 [l0, l1, l2, l3, l4] st G h k)) := E_icmp_eq (by rfl)
theorem e27_30 : zE 27 d Q 30 [l0, l1, l2, l3, l4] st G h k ↔ zE 27 d Q 31 [l0, l1, l2, l3, l4] (zI 0 :: st) G h k := E_iconst (by rfl)
theorem e27_31 : zE 27 d Q 31 [l0, l1, l2, l3, l4] [zI x] G h k ↔ ((x = 0 ∨ x = 1) ∧ Q (some (zI x)) G h) := E_zret (by rfl) rfl
theorem e27_32 : zE 27 d Q 32 [l0, l1, l2, l3, some (zI x)] st G h k ↔ zE 27 d Q 35 [l0, l1, l2, (zclr l3), some (zI (wr (x + 1)))] st G h k := E_iinc (by rfl) rfl
theorem e27_35 : zE 27 d Q 35 [l0, l1, l2, l3, l4] st G h k ↔ zE 27 d Q 3 [l0, l1, l2, l3, l4] st G h k := E_goto (by rfl)
theorem e27_38 : zE 27 d Q 38 [l0, l1, l2, l3, l4] st G h k ↔ zE 27 d Q 39 [l0, l1, l2, l3, l4] (zI 1 :: st) G h k := E_iconst (by rfl)
theorem e27_39 : zE 27 d Q 39 [l0, l1, l2, l3, l4] [zI x] G h k ↔ ((x = 0 ∨ x = 1) ∧ Q (some (zI x)) G h) := E_zret (by rfl) rfl
theorem e28_0 : zE 28 d Q 0 [some (.inr (.inr w9)), l1, l2, l3] st G h k ↔ zE 28 d Q 1 [some (.inr (.inr w9)), l1, l2, l3] (.inr (.inr w9) :: st) G h k := E_aload_n (by rfl) rfl
theorem e28_1 : zE 28 d Q 1 [l0, l1, l2, l3] (zR (some r) :: st) G h k ↔ (G.2.1 r = 3 ∧ zE 28 d Q 4 [l0, l1, l2, l3] (zI (h r 1) :: st) G h k) := E_getI (by rfl) (by decide)
theorem e28_4 : zE 28 d Q 4 [l0, l1, l2, l3] (zI x :: st) G h k ↔ ((¬ x = 0 → zE 28 d Q 24 [l0, l1, l2, l3] st G h k) ∧ (¬ (¬ x = 0) → zE 28 d Q 7 [l0, l1, l2, l3] st G h k)) := E_if_ne (by rfl)
theorem e28_7 : zE 28 d Q 7 [some (.inr (.inr w9)), l1, l2, l3] st G h k ↔ zE 28 d Q 8 [some (.inr (.inr w9)), l1, l2, l3] (.inr (.inr w9) :: st) G h k := E_aload_n (by rfl) rfl
theorem e28_8 : zE 28 d Q 8 [l0, some (.inr (.inr w9)), l2, l3] st G h k ↔ zE 28 d Q 9 [l0, some (.inr (.inr w9)), l2, l3] (.inr (.inr w9) :: st) G h k := E_aload_n (by rfl) rfl
theorem e28_9 : zE 28 d Q 9 [l0, l1, l2, l3] (v0 :: zR (some r) :: st) G h k ↔ (zsum st ≤ 8 ∧ G.2.1 r = 3 ∧ zRunD ztb zmt' d 19 [zR (some r), v0] G h (fun v G' h' => zE 28 d Q 12 [l0, l1, l2, l3] (v.toList ++ st) G' h' k)) := E_invV2z (by rfl) (by decide) rfl
theorem e28_12 : zE 28 d Q 12 [l0, l1, l2, l3] (zI x :: st) G h k ↔ ((¬ x = 0 → zE 28 d Q 24 [l0, l1, l2, l3] st G h k) ∧ (¬ (¬ x = 0) → zE 28 d Q 15 [l0, l1, l2, l3] st G h k)) := E_if_ne (by rfl)
theorem e28_15 : zE 28 d Q 15 [some (.inr (.inr w9)), l1, l2, l3] st G h k ↔ zE 28 d Q 16 [some (.inr (.inr w9)), l1, l2, l3] (.inr (.inr w9) :: st) G h k := E_aload_n (by rfl) rfl
theorem e28_16 : zE 28 d Q 16 [l0, l1, l2, l3] st G h k ↔ zE 28 d Q 17 [l0, l1, l2, l3] (zI 1 :: st) G h k := E_iconst (by rfl)
theorem e28_17 : zE 28 d Q 17 [some (.inr (.inr w9)), l1, l2, l3] st G h k ↔ zE 28 d Q 18 [some (.inr (.inr w9)), l1, l2, l3] (.inr (.inr w9) :: st) G h k := E_aload_n (by rfl) rfl
theorem e28_18 : zE 28 d Q 18 [l0, l1, l2, l3] (zR (some r) :: st) G h k ↔ (G.2.1 r = 3 ∧ zE 28 d Q 21 [l0, l1, l2, l3] (zI (h r 6) :: st) G h k) := E_getI (by rfl) (by decide)
theorem e28_21 : zE 28 d Q 21 [l0, l1, l2, l3] (v1 :: v0 :: zR (some r) :: st) G h k ↔ (zsum st ≤ 8 ∧ G.2.1 r = 3 ∧ zRunD ztb zmt' d 16 [zR (some r), v0, v1] G h (fun v G' h' => zE 28 d Q 24 [l0, l1, l2, l3] (v.toList ++ st) G' h' k)) := E_invV2z (by rfl) (by decide) rfl
theorem e28_24 : zE 28 d Q 24 [some (.inr (.inr w9)), l1, l2, l3] st G h k ↔ zE 28 d Q 25 [some (.inr (.inr w9)), l1, l2, l3] (.inr (.inr w9) :: st) G h k := E_aload_n (by rfl) rfl
theorem e28_25 : zE 28 d Q 25 [l0, l1, l2, l3] st G h k ↔ zE 28 d Q 26 [l0, l1, l2, l3] (zI 1 :: st) G h k := E_iconst (by rfl)
theorem e28_26 : zE 28 d Q 26 [l0, l1, l2, l3] (v0 :: zR (some r) :: st) G h k ↔ (zsum st ≤ 8 ∧ G.2.1 r = 3 ∧ zRunD ztb zmt' d 30 [zR (some r), v0] G h (fun v G' h' => zE 28 d Q 29 [l0, l1, l2, l3] (v.toList ++ st) G' h' k)) := E_invV2z (by rfl) (by decide) rfl
theorem e28_29 : zE 28 d Q 29 [some (.inr (.inr w9)), l1, l2, l3] st G h k ↔ zE 28 d Q 30 [some (.inr (.inr w9)), l1, l2, l3] (.inr (.inr w9) :: st) G h k := E_aload_n (by rfl) rfl
theorem e28_30 : zE 28 d Q 30 [l0, l1, l2, l3] (zR (some r) :: st) G h k ↔ (G.2.1 r = 3 ∧ zE 28 d Q 33 [l0, l1, l2, l3] (zI (h r 1) :: st) G h k) := E_getI (by rfl) (by decide)
theorem e28_33 : zE 28 d Q 33 [l0, l1, l2, l3] (zI x :: st) G h k ↔ ((¬ x = 0 → zE 28 d Q 61 [l0, l1, l2, l3] st G h k) ∧ (¬ (¬ x = 0) → zE 28 d Q 36 [l0, l1, l2, l3] st G h k)) := E_if_ne (by rfl)
theorem e28_36 : zE 28 d Q 36 [some (.inr (.inr w9)), l1, l2, l3] st G h k ↔ zE 28 d Q 37 [some (.inr (.inr w9)), l1, l2, l3] (.inr (.inr w9) :: st) G h k := E_aload_n (by rfl) rfl
theorem e28_37 : zE 28 d Q 37 [l0, l1, l2, l3] (zR (some r) :: st) G h k ↔ (G.2.1 r = 3 ∧ zE 28 d Q 40 [l0, l1, l2, l3] (zI (h r 5) :: st) G h k) := E_getI (by rfl) (by decide)
theorem e28_40 : zE 28 d Q 40 [l0, l1, l2, l3] st G h k ↔ zE 28 d Q 41 [l0, l1, l2, l3] (zI 2 :: st) G h k := E_iconst (by rfl)
theorem e28_41 : zE 28 d Q 41 [l0, l1, l2, l3] (zI y :: zI x :: st) G h k ↔ ((¬ x = y → zE 28 d Q 61 [l0, l1, l2, l3] st G h k) ∧ (¬ (¬ x = y) → zE 28 d Q 44 [l0, l1, l2, l3] st G h k)) := E_icmp_ne (by rfl)
theorem e28_44 : zE 28 d Q 44 [some (.inr (.inr w9)), l1, l2, l3] st G h k ↔ zE 28 d Q 45 [some (.inr (.inr w9)), l1, l2, l3] (.inr (.inr w9) :: st) G h k := E_aload_n (by rfl) rfl
theorem e28_45 : zE 28 d Q 45 [l0, l1, l2, l3] (zR (some r) :: st) G h k ↔ (G.2.1 r = 3 ∧ zE 28 d Q 48 [l0, l1, l2, l3] (zI (h r 8) :: st) G h k) := E_getI (by rfl) (by decide)
theorem e28_48 : zE 28 d Q 48 [l0, l1, some (zI x), l3] st G h k ↔ zE 28 d Q 49 [l0, l1, some (zI x), l3] (zI x :: st) G h k := E_iload_n (by rfl) rfl
theorem e28_49 : zE 28 d Q 49 [l0, l1, l2, l3] (zI y :: zI x :: st) G h k ↔ ((x ≤ y → zE 28 d Q 61 [l0, l1, l2, l3] st G h k) ∧ (¬ (x ≤ y) → zE 28 d Q 52 [l0, l1, l2, l3] st G h k)) := E_icmp_le (by rfl)
theorem e28_52 : zE 28 d Q 52 [some (.inr (.inr w9)), l1, l2, l3] st G h k ↔ zE 28 d Q 53 [some (.inr (.inr w9)), l1, l2, l3] (.inr (.inr w9) :: st) G h k := E_aload_n (by rfl) rfl
theorem e28_53 : zE 28 d Q 53 [l0, l1, l2, l3] st G h k ↔ zE 28 d Q 54 [l0, l1, l2, l3] (zI 4 :: st) G h k := E_iconst (by rfl)
theorem e28_54 : zE 28 d Q 54 [some (.inr (.inr w9)), l1, l2, l3] st G h k ↔ zE 28 d Q 55 [some (.inr (.inr w9)), l1, l2, l3] (.inr (.inr w9) :: st) G h k := E_aload_n (by rfl) rfl
theorem e28_55 : zE 28 d Q 55 [l0, l1, l2, l3] (zR (some r) :: st) G h k ↔ (G.2.1 r = 3 ∧ zE 28 d Q 58 [l0, l1, l2, l3] (zI (h r 6) :: st) G h k) := E_getI (by rfl) (by decide)
theorem e28_58 : zE 28 d Q 58 [l0, l1, l2, l3] (v1 :: v0 :: zR (some r) :: st) G h k ↔ (zsum st ≤ 8 ∧ G.2.1 r = 3 ∧ zRunD ztb zmt' d 16 [zR (some r), v0, v1] G h (fun v G' h' => zE 28 d Q 61 [l0, l1, l2, l3] (v.toList ++ st) G' h' k)) := E_invV2z (by rfl) (by decide) rfl
theorem e28_61 : zE 28 d Q 61 [some (.inr (.inr w9)), l1, l2, l3] st G h k ↔ zE 28 d Q 62 [some (.inr (.inr w9)), l1, l2, l3] (.inr (.inr w9) :: st) G h k := E_aload_n (by rfl) rfl
theorem e28_62 : zE 28 d Q 62 [l0, l1, l2, l3] (zR (some r) :: st) G h k ↔ (G.2.1 r = 3 ∧ zE 28 d Q 65 [l0, l1, l2, l3] (zI (h r 8) :: st) G h k) := E_getI (by rfl) (by decide)
theorem e28_65 : zE 28 d Q 65 [l0, l1, l2, l3] (zI x :: st) G h k ↔ zE 28 d Q 66 [l0, l1, (zclr l2), some (zI x)] st G h k := E_istore_n (by rfl) (by decide)
theorem e28_66 : zE 28 d Q 66 [some (.inr (.inr w9)), l1, l2, l3] st G h k ↔ zE 28 d Q 67 [some (.inr (.inr w9)), l1, l2, l3] (.inr (.inr w9) :: st) G h k := E_aload_n (by rfl) rfl
theorem e28_67 : zE 28 d Q 67 [l0, l1, l2, l3] st G h k ↔ zE 28 d Q 68 [l0, l1, l2, l3] (zI 2 :: st) G h k := E_iconst (by rfl)
theorem e28_68 : zE 28 d Q 68 [l0, l1, l2, l3] (v0 :: zR (some r) :: st) G h k ↔ (zsum st ≤ 8 ∧ G.2.1 r = 3 ∧ zRunD ztb zmt' d 30 [zR (some r), v0] G h (fun v G' h' => zE 28 d Q 71 [l0, l1, l2, l3] (v.toList ++ st) G' h' k)) := E_invV2z (by rfl) (by decide) rfl
theorem e28_71 : zE 28 d Q 71 [l0, l1, l2, some (zI x)] st G h k ↔ zE 28 d Q 72 [l0, l1, l2, some (zI x)] (zI x :: st) G h k := E_iload_n (by rfl) rfl
theorem e28_72 : zE 28 d Q 72 [l0, l1, l2, l3] [zI x] G h k ↔ Q (some (zI x)) G h := E_iret (by rfl) rfl
theorem e29_0 : zE 29 d Q 0 [some (.inr (.inr w9)), l1, l2, l3] st G h k ↔ zE 29 d Q 1 [some (.inr (.inr w9)), l1, l2, l3] (.inr (.inr w9) :: st) G h k := E_aload_n (by rfl) rfl
theorem e29_1 : zE 29 d Q 1 [l0, l1, some (.inr (.inr w9)), l3] st G h k ↔ zE 29 d Q 2 [l0, l1, some (.inr (.inr w9)), l3] (.inr (.inr w9) :: st) G h k := E_aload_n (by rfl) rfl
theorem e29_2 : zE 29 d Q 2 [l0, l1, l2, l3] (v0 :: zR (some r) :: st) G h k ↔ (zsum st ≤ 8 ∧ G.2.1 r = 3 ∧ zRunD ztb zmt' d 19 [zR (some r), v0] G h (fun v G' h' => zE 29 d Q 5 [l0, l1, l2, l3] (v.toList ++ st) G' h' k)) := E_invV2z (by rfl) (by decide) rfl
theorem e29_5 : zE 29 d Q 5 [l0, l1, l2, l3] (zI x :: st) G h k ↔ ((x = 0 → zE 29 d Q 12 [l0, l1, l2, l3] st G h k) ∧ (¬ (x = 0) → zE 29 d Q 8 [l0, l1, l2, l3] st G h k)) := E_if_eq (by rfl)
theorem e29_8 : zE 29 d Q 8 [l0, l1, l2, l3] st G h k ↔ zE 29 d Q 9 [l0, l1, l2, l3] (zI 1 :: st) G h k := E_iconst (by rfl)
theorem e29_9 : zE 29 d Q 9 [l0, l1, l2, l3] st G h k ↔ zE 29 d Q 13 [l0, l1, l2, l3] st G h k := E_goto (by rfl)
theorem e29_12 : zE 29 d Q 12 [l0, l1, l2, l3] st G h k ↔ zE 29 d Q 13 [l0, l1, l2, l3] (zI 0 :: st) G h k := E_iconst (by rfl)
theorem e29_13 : zE 29 d Q 13 [l0, l1, l2, l3] (zI x :: st) G h k ↔ zE 29 d Q 14 [l0, l1, (zclr l2), some (zI x)] st G h k := E_istore_n (by rfl) (by decide)
theorem e29_14 : zE 29 d Q 14 [some (.inr (.inr w9)), l1, l2, l3] st G h k ↔ zE 29 d Q 15 [some (.inr (.inr w9)), l1, l2, l3] (.inr (.inr w9) :: st) G h k := E_aload_n (by rfl) rfl
theorem e29_15 : zE 29 d Q 15 [l0, l1, l2, l3] (zR (some r) :: st) G h k ↔ (G.2.1 r = 3 ∧ zE 29 d Q 18 [l0, l1, l2, l3] (zI (h r 1) :: st) G h k) := E_getI (by rfl) (by decide)
theorem e29_18 : zE 29 d Q 18 [l0, l1, l2, l3] (zI x :: st) G h k ↔ ((¬ x = 0 → zE 29 d Q 42 [l0, l1, l2, l3] st G h k) ∧ (¬ (¬ x = 0) → zE 29 d Q 21 [l0, l1, l2, l3] st G h k)) := E_if_ne (by rfl)
theorem e29_21 : zE 29 d Q 21 [l0, l1, l2, some (zI x)] st G h k ↔ zE 29 d Q 22 [l0, l1, l2, some (zI x)] (zI x :: st) G h k := E_iload_n (by rfl) rfl
theorem e29_22 : zE 29 d Q 22 [l0, l1, l2, l3] (zI x :: st) G h k ↔ ((¬ x = 0 → zE 29 d Q 42 [l0, l1, l2, l3] st G h k) ∧ (¬ (¬ x = 0) → zE 29 d Q 25 [l0, l1, l2, l3] st G h k)) := E_if_ne (by rfl)
theorem e29_25 : zE 29 d Q 25 [some (.inr (.inr w9)), l1, l2, l3] st G h k ↔ zE 29 d Q 26 [some (.inr (.inr w9)), l1, l2, l3] (.inr (.inr w9) :: st) G h k := E_aload_n (by rfl) rfl
theorem e29_26 : zE 29 d Q 26 [l0, some (.inr (.inr w9)), l2, l3] st G h k ↔ zE 29 d Q 27 [l0, some (.inr (.inr w9)), l2, l3] (.inr (.inr w9) :: st) G h k := E_aload_n (by rfl) rfl
theorem e29_27 : zE 29 d Q 27 [l0, l1, l2, l3] (v0 :: zR (some r) :: st) G h k ↔ (zsum st ≤ 8 ∧ G.2.1 r = 3 ∧ zRunD ztb zmt' d 19 [zR (some r), v0] G h (fun v G' h' => zE 29 d Q 30 [l0, l1, l2, l3] (v.toList ++ st) G' h' k)) := E_invV2z (by rfl) (by decide) rfl
theorem e29_30 : zE 29 d Q 30 [l0, l1, l2, l3] (zI x :: st) G h k ↔ ((¬ x = 0 → zE 29 d Q 42 [l0, l1, l2, l3] st G h k) ∧ (¬ (¬ x = 0) → zE 29 d Q 33 [l0, l1, l2, l3] st G h k)) := E_if_ne (by rfl)
theorem e29_33 : zE 29 d Q 33 [some (.inr (.inr w9)), l1, l2, l3] st G h k ↔ zE 29 d Q 34 [some (.inr (.inr w9)), l1, l2, l3] (.inr (.inr w9) :: st) G h k := E_aload_n (by rfl) rfl
theorem e29_34 : zE 29 d Q 34 [l0, l1, l2, l3] st G h k ↔ zE 29 d Q 35 [l0, l1, l2, l3] (zI 1 :: st) G h k := E_iconst (by rfl)
theorem e29_35 : zE 29 d Q 35 [some (.inr (.inr w9)), l1, l2, l3] st G h k ↔ zE 29 d Q 36 [some (.inr (.inr w9)), l1, l2, l3] (.inr (.inr w9) :: st) G h k := E_aload_n (by rfl) rfl
theorem e29_36 : zE 29 d Q 36 [l0, l1, l2, l3] (zR (some r) :: st) G h k ↔ (G.2.1 r = 3 ∧ zE 29 d Q 39 [l0, l1, l2, l3] (zI (h r 6) :: st) G h k) := E_getI (by rfl) (by decide)
theorem e29_39 : zE 29 d Q 39 [l0, l1, l2, l3] (v1 :: v0 :: zR (some r) :: st) G h k ↔ (zsum st ≤ 8 ∧ G.2.1 r = 3 ∧ zRunD ztb zmt' d 16 [zR (some r), v0, v1] G h (fun v G' h' => zE 29 d Q 42 [l0, l1, l2, l3] (v.toList ++ st) G' h' k)) := E_invV2z (by rfl) (by decide) rfl
theorem e29_42 : zE 29 d Q 42 [some (.inr (.inr w9)), l1, l2, l3] st G h k ↔ zE 29 d Q 43 [some (.inr (.inr w9)), l1, l2, l3] (.inr (.inr w9) :: st) G h k := E_aload_n (by rfl) rfl
theorem e29_43 : zE 29 d Q 43 [l0, l1, l2, l3] st G h k ↔ zE 29 d Q 44 [l0, l1, l2, l3] (zI 1 :: st) G h k := E_iconst (by rfl)
theorem e29_44 : zE 29 d Q 44 [l0, l1, l2, l3] (v0 :: zR (some r) :: st) G h k ↔ (zsum st ≤ 8 ∧ G.2.1 r = 3 ∧ zRunD ztb zmt' d 30 [zR (some r), v0] G h (fun v G' h' => zE 29 d Q 47 [l0, l1, l2, l3] (v.toList ++ st) G' h' k)) := E_invV2z (by rfl) (by decide) rfl
theorem e29_47 : zE 29 d Q 47 [l0, l1, l2, some (zI x)] st G h k ↔ zE 29 d Q 48 [l0, l1, l2, some (zI x)] (zI x :: st) G h k := E_iload_n (by rfl) rfl
theorem e29_48 : zE 29 d Q 48 [l0, l1, l2, l3] [zI x] G h k ↔ Q (some (zI x)) G h := E_iret (by rfl) rfl
theorem e30_0 : zE 30 d Q 0 [some (.inr (.inr w9)), l1] st G h k ↔ zE 30 d Q 1 [some (.inr (.inr w9)), l1] (.inr (.inr w9) :: st) G h k := E_aload_n (by rfl) rfl
theorem e30_1 : zE 30 d Q 1 [l0, l1] (zR (some r) :: st) G h k ↔ (G.2.1 r = 3 ∧ zE 30 d Q 4 [l0, l1] (zI (h r 1) :: st) G h k) := E_getI (by rfl) (by decide)
theorem e30_4 : zE 30 d Q 4 [l0, l1] (zI x :: st) G h k ↔ ((x = 0 → zE 30 d Q 8 [l0, l1] st G h k) ∧ (¬ (x = 0) → zE 30 d Q 7 [l0, l1] st G h k)) := E_if_eq (by rfl)
theorem e30_7 : zE 30 d Q 7 [l0, l1] [] G h k ↔ Q none G h := E_vret (by rfl) rfl
theorem e30_8 : zE 30 d Q 8 [some (.inr (.inr w9)), l1] st G h k ↔ zE 30 d Q 9 [some (.inr (.inr w9)), l1] (.inr (.inr w9) :: st) G h k := E_aload_n (by rfl) rfl
theorem e30_9 : zE 30 d Q 9 [l0, l1] (zR (some r) :: st) G h k ↔ (G.2.1 r = 3 ∧ zE 30 d Q 12 [l0, l1] (zI (h r 5) :: st) G h k) := E_getI (by rfl) (by decide)
theorem e30_12 : zE 30 d Q 12 [l0, some (zI x)] st G h k ↔ zE 30 d Q 13 [l0, some (zI x)] (zI x :: st) G h k := E_iload_n (by rfl) rfl
theorem e30_13 : zE 30 d Q 13 [l0, l1] (zI y :: zI x :: st) G h k ↔ ((x = y → zE 30 d Q 28 [l0, l1] st G h k) ∧ (¬ (x = y) → zE 30 d Q 16 [l0, l1] st G h k)) := E_icmp_eq (by rfl)
theorem e30_16 : zE 30 d Q 16 [some (.inr (.inr w9)), l1] st G h k ↔ zE 30 d Q 17 [some (.inr (.inr w9)), l1] (.inr (.inr w9) :: st) G h k := E_aload_n (by rfl) rfl
theorem e30_17 : zE 30 d Q 17 [l0, l1] st G h k ↔ zE 30 d Q 18 [l0, l1] (zI 1 :: st) G h k := E_iconst (by rfl)
theorem e30_18 : zE 30 d Q 18 [some (.inr (.inr w9)), l1] st G h k ↔ zE 30 d Q 19 [some (.inr (.inr w9)), l1] (.inr (.inr w9) :: st) G h k := E_aload_n (by rfl) rfl
theorem e30_19 : zE 30 d Q 19 [l0, l1] (zR (some r) :: st) G h k ↔ (G.2.1 r = 3 ∧ zE 30 d Q 22 [l0, l1] (zI (h r 6) :: st) G h k) := E_getI (by rfl) (by decide)
theorem e30_22 : zE 30 d Q 22 [l0, l1] (v1 :: v0 :: zR (some r) :: st) G h k ↔ (zsum st ≤ 8 ∧ G.2.1 r = 3 ∧ zRunD ztb zmt' d 16 [zR (some r), v0, v1] G h (fun v G' h' => zE 30 d Q 25 [l0, l1] (v.toList ++ st) G' h' k)) := E_invV2z (by rfl) (by decide) rfl
theorem e30_25 : zE 30 d Q 25 [l0, l1] st G h k ↔ zE 30 d Q 32 [l0, l1] st G h k := E_goto (by rfl)
theorem e30_28 : zE 30 d Q 28 [some (.inr (.inr w9)), l1] st G h k ↔ zE 30 d Q 29 [some (.inr (.inr w9)), l1] (.inr (.inr w9) :: st) G h k := E_aload_n (by rfl) rfl
theorem e30_29 : zE 30 d Q 29 [l0, l1] (zR (some r) :: st) G h k ↔ (zsum st ≤ 8 ∧ G.2.1 r = 3 ∧ zRunD ztb zmt' d 17 [zR (some r)] G h (fun v G' h' => zE 30 d Q 32 [l0, l1] (v.toList ++ st) G' h' k)) := E_invV2z (by rfl) (by decide) rfl
theorem e30_32 : zE 30 d Q 32 [l0, l1] [] G h k ↔ Q none G h := E_vret (by rfl) rfl
theorem e31_0 : zE 31 d Q 0 [some (.inr (.inr w9))] st G h k ↔ zE 31 d Q 1 [some (.inr (.inr w9))] (.inr (.inr w9) :: st) G h k := E_aload_n (by rfl) rfl
theorem e31_1 : zE 31 d Q 1 [l0] (zR (some r) :: []) G h k ↔ zE 31 d Q 4 [l0] [] G h k := E_objInit (by rfl) rfl (by decide)
theorem e31_4 : zE 31 d Q 4 [some (.inr (.inr w9))] st G h k ↔ zE 31 d Q 5 [some (.inr (.inr w9))] (.inr (.inr w9) :: st) G h k := E_aload_n (by rfl) rfl
theorem e31_5 : zE 31 d Q 5 [l0] st G h k ↔ (k.1 + 1 ≤ 40 ∧ k.2 + 9 ≤ 8300 ∧ zE 31 d Q 8 [l0] (zR (some G.1) :: st) (zgn G 6 9) (zhn h G.1) (k.1 + 1, k.2 + 9)) := E_new (by rfl) (by decide)
theorem e31_8 : zE 31 d Q 8 [l0] (.inr (.inr w9) :: st) G h k ↔ zE 31 d Q 9 [l0] (.inr (.inr w9) :: .inr (.inr w9) :: st) G h k := E_dup (by rfl) rfl
theorem e31_9 : zE 31 d Q 9 [l0] (zR (some r) :: st) G h k ↔ (zsum st ≤ 8 ∧ G.2.1 r = 6 ∧ k.1 + 21 ≤ 40 ∧ k.2 + 95 ≤ 8300 ∧ zRunD ztb zmt' d 52 [zR (some r)] G h (fun v G' h' => v = none ∧ zE 31 d Q 12 [l0] st G' h' (k.1 + 21, k.2 + 95))) := E_invI2b (by rfl) (by decide) rfl
theorem e31_12 : zE 31 d Q 12 [l0] (zR q9 :: zR (some r) :: st) G h k ↔ (G.2.1 r = 4 ∧ zE 31 d Q 15 [l0] st (zgu G r 0 q9) h k) := E_putR (by rfl) rfl
theorem e31_15 : zE 31 d Q 15 [some (.inr (.inr w9))] st G h k ↔ zE 31 d Q 16 [some (.inr (.inr w9))] (.inr (.inr w9) :: st) G h k := E_aload_n (by rfl) rfl
theorem e31_16 : zE 31 d Q 16 [some (.inr (.inr w9))] st G h k ↔ zE 31 d Q 17 [some (.inr (.inr w9))] (.inr (.inr w9) :: st) G h k := E_aload_n (by rfl) rfl
theorem e31_17 : zE 31 d Q 17 [l0] (zR (some r) :: st) G h k ↔ (G.2.1 r = 4 ∧ zE 31 d Q 20 [l0] (zR (G.2.2.2 r 0) :: st) G h k) := E_getR (by rfl) rfl
theorem e31_20 : zE 31 d Q 20 [l0] (zR (some r) :: st) G h k ↔ (G.2.1 r = 6 ∧ zE 31 d Q 23 [l0] (zR (G.2.2.2 r 0) :: st) G h k) := E_getR (by rfl) rfl
theorem e31_23 : zE 31 d Q 23 [l0] (zR q9 :: zR (some r) :: st) G h k ↔ (G.2.1 r = 4 ∧ zE 31 d Q 26 [l0] st (zgu G r 1 q9) h k) := E_putR (by rfl) rfl
theorem e31_26 : zE 31 d Q 26 [some (.inr (.inr w9))] st G h k ↔ zE 31 d Q 27 [some (.inr (.inr w9))] (.inr (.inr w9) :: st) G h k := E_aload_n (by rfl) rfl
theorem e31_27 : zE 31 d Q 27 [some (.inr (.inr w9))] st G h k ↔ zE 31 d Q 28 [some (.inr (.inr w9))] (.inr (.inr w9) :: st) G h k := E_aload_n (by rfl) rfl
theorem e31_28 : zE 31 d Q 28 [l0] (zR (some r) :: st) G h k ↔ (G.2.1 r = 4 ∧ zE 31 d Q 31 [l0] (zR (G.2.2.2 r 1) :: st) G h k) := E_getR (by rfl) rfl
theorem e31_31 : zE 31 d Q 31 [l0] (zR (some r) :: st) G h k ↔ (G.2.1 r = 1 ∧ zE 31 d Q 34 [l0] (zR (G.2.2.2 r 0) :: st) G h k) := E_getR (by rfl) rfl
theorem e31_34 : zE 31 d Q 34 [l0] (zR q9 :: zR (some r) :: st) G h k ↔ (G.2.1 r = 4 ∧ zE 31 d Q 37 [l0] st (zgu G r 2 q9) h k) := E_putR (by rfl) rfl
theorem e31_37 : zE 31 d Q 37 [some (.inr (.inr w9))] st G h k ↔ zE 31 d Q 38 [some (.inr (.inr w9))] (.inr (.inr w9) :: st) G h k := E_aload_n (by rfl) rfl
theorem e31_38 : zE 31 d Q 38 [l0] st G h k ↔ zE 31 d Q 39 [l0] (zI 3 :: st) G h k := E_iconst (by rfl)
theorem e31_39 : zE 31 d Q 39 [l0] (zI i :: st) G h k ↔ (0 ≤ i ∧ i ≤ 1000000 ∧ k.1 + 1 ≤ 40 ∧ k.2 + i.toNat ≤ 8300 ∧ zE 31 d Q 41 [l0] (zR (some G.1) :: st) (zgn G 10 i.toNat) (zhn h G.1) (k.1 + 1, k.2 + i.toNat)) := E_newarray (by rfl)
theorem e31_41 : zE 31 d Q 41 [l0] (zR q9 :: zR (some r) :: st) G h k ↔ (G.2.1 r = 4 ∧ zE 31 d Q 44 [l0] st (zgu G r 3 q9) h k) := E_putR (by rfl) rfl
theorem e31_44 : zE 31 d Q 44 [some (.inr (.inr w9))] st G h k ↔ zE 31 d Q 45 [some (.inr (.inr w9))] (.inr (.inr w9) :: st) G h k := E_aload_n (by rfl) rfl
theorem e31_45 : zE 31 d Q 45 [l0] st G h k ↔ zE 31 d Q 46 [l0] (zI 3 :: st) G h k := E_iconst (by rfl)
theorem e31_46 : zE 31 d Q 46 [l0] (zI i :: st) G h k ↔ (0 ≤ i ∧ i ≤ 1000000 ∧ k.1 + 1 ≤ 40 ∧ k.2 + i.toNat ≤ 8300 ∧ zE 31 d Q 48 [l0] (zR (some G.1) :: st) (zgn G 10 i.toNat) (zhn h G.1) (k.1 + 1, k.2 + i.toNat)) := E_newarray (by rfl)
theorem e31_48 : zE 31 d Q 48 [l0] (zR q9 :: zR (some r) :: st) G h k ↔ (G.2.1 r = 4 ∧ zE 31 d Q 51 [l0] st (zgu G r 4 q9) h k) := E_putR (by rfl) rfl
theorem e31_51 : zE 31 d Q 51 [some (.inr (.inr w9))] st G h k ↔ zE 31 d Q 52 [some (.inr (.inr w9))] (.inr (.inr w9) :: st) G h k := E_aload_n (by rfl) rfl
theorem e31_52 : zE 31 d Q 52 [l0] st G h k ↔ zE 31 d Q 53 [l0] (zI 0 :: st) G h k := E_iconst (by rfl)
theorem e31_53 : zE 31 d Q 53 [l0] (zI x :: zR (some r) :: st) G h k ↔ (G.2.1 r = 4 ∧ zE 31 d Q 56 [l0] st G (zu h r 5 x) k) := E_putI (by rfl) rfl
theorem e31_56 : zE 31 d Q 56 [some (.inr (.inr w9))] st G h k ↔ zE 31 d Q 57 [some (.inr (.inr w9))] (.inr (.inr w9) :: st) G h k := E_aload_n (by rfl) rfl
theorem e31_57 : zE 31 d Q 57 [l0] st G h k ↔ zE 31 d Q 60 [l0] (zI 2916 :: st) G h k := E_sipush (by rfl)
theorem e31_60 : zE 31 d Q 60 [l0] (zI i :: st) G h k ↔ (0 ≤ i ∧ i ≤ 1000000 ∧ k.1 + 1 ≤ 40 ∧ k.2 + i.toNat ≤ 8300 ∧ zE 31 d Q 62 [l0] (zR (some G.1) :: st) (zgn G 10 i.toNat) (zhn h G.1) (k.1 + 1, k.2 + i.toNat)) := E_newarray (by rfl)
theorem e31_62 : zE 31 d Q 62 [l0] (zR q9 :: zR (some r) :: st) G h k ↔ (G.2.1 r = 4 ∧ zE 31 d Q 65 [l0] st (zgu G r 6 q9) h k) := E_putR (by rfl) rfl
theorem e31_65 : zE 31 d Q 65 [some (.inr (.inr w9))] st G h k ↔ zE 31 d Q 66 [some (.inr (.inr w9))] (.inr (.inr w9) :: st) G h k := E_aload_n (by rfl) rfl
theorem e31_66 : zE 31 d Q 66 [l0] st G h k ↔ zE 31 d Q 69 [l0] (zI 729 :: st) G h k := E_sipush (by rfl)
theorem e31_69 : zE 31 d Q 69 [l0] (zI i :: st) G h k ↔ (0 ≤ i ∧ i ≤ 1000000 ∧ k.1 + 1 ≤ 40 ∧ k.2 + i.toNat ≤ 8300 ∧ zE 31 d Q 71 [l0] (zR (some G.1) :: st) (zgn G 10 i.toNat) (zhn h G.1) (k.1 + 1, k.2 + i.toNat)) := E_newarray (by rfl)
theorem e31_71 : zE 31 d Q 71 [l0] (zR q9 :: zR (some r) :: st) G h k ↔ (G.2.1 r = 4 ∧ zE 31 d Q 74 [l0] st (zgu G r 7 q9) h k) := E_putR (by rfl) rfl
theorem e31_74 : zE 31 d Q 74 [some (.inr (.inr w9))] st G h k ↔ zE 31 d Q 75 [some (.inr (.inr w9))] (.inr (.inr w9) :: st) G h k := E_aload_n (by rfl) rfl
theorem e31_75 : zE 31 d Q 75 [l0] st G h k ↔ zE 31 d Q 78 [l0] (zI 2187 :: st) G h k := E_sipush (by rfl)
theorem e31_78 : zE 31 d Q 78 [l0] (zI i :: st) G h k ↔ (0 ≤ i ∧ i ≤ 1000000 ∧ k.1 + 1 ≤ 40 ∧ k.2 + i.toNat ≤ 8300 ∧ zE 31 d Q 80 [l0] (zR (some G.1) :: st) (zgn G 11 i.toNat) (zhn h G.1) (k.1 + 1, k.2 + i.toNat)) := E_newarray (by rfl)
theorem e31_80 : zE 31 d Q 80 [l0] (zR q9 :: zR (some r) :: st) G h k ↔ (G.2.1 r = 4 ∧ zE 31 d Q 83 [l0] st (zgu G r 8 q9) h k) := E_putR (by rfl) rfl
theorem e31_83 : zE 31 d Q 83 [some (.inr (.inr w9))] st G h k ↔ zE 31 d Q 84 [some (.inr (.inr w9))] (.inr (.inr w9) :: st) G h k := E_aload_n (by rfl) rfl
theorem e31_84 : zE 31 d Q 84 [l0] st G h k ↔ zE 31 d Q 87 [l0] (zI 2187 :: st) G h k := E_sipush (by rfl)
theorem e31_87 : zE 31 d Q 87 [l0] (zI i :: st) G h k ↔ (0 ≤ i ∧ i ≤ 1000000 ∧ k.1 + 1 ≤ 40 ∧ k.2 + i.toNat ≤ 8300 ∧ zE 31 d Q 89 [l0] (zR (some G.1) :: st) (zgn G 11 i.toNat) (zhn h G.1) (k.1 + 1, k.2 + i.toNat)) := E_newarray (by rfl)
theorem e31_89 : zE 31 d Q 89 [l0] (zR q9 :: zR (some r) :: st) G h k ↔ (G.2.1 r = 4 ∧ zE 31 d Q 92 [l0] st (zgu G r 9 q9) h k) := E_putR (by rfl) rfl
theorem e31_92 : zE 31 d Q 92 [some (.inr (.inr w9))] st G h k ↔ zE 31 d Q 93 [some (.inr (.inr w9))] (.inr (.inr w9) :: st) G h k := E_aload_n (by rfl) rfl
theorem e31_93 : zE 31 d Q 93 [l0] st G h k ↔ zE 31 d Q 94 [l0] (zI 4 :: st) G h k := E_iconst (by rfl)
theorem e31_94 : zE 31 d Q 94 [l0] st G h k ↔ zE 31 d Q 96 [l0] (zI 12 :: st) G h k := E_bipush (by rfl)
theorem e31_96 : zE 31 d Q 96 [l0] (zI x :: zI i :: st) G h k ↔ (0 ≤ i ∧ i ≤ 1000000 ∧ 0 ≤ x ∧ x ≤ 1000000 ∧ k.1 + (1 + i.toNat) ≤ 40 ∧ k.2 + (i.toNat + i.toNat * x.toNat) ≤ 8300 ∧ zE 31 d Q 100 [l0] (zR (some G.1) :: st) (zgm G 14 10 i.toNat x.toNat) (zhm h G.1 i.toNat) (k.1 + 1 + i.toNat, k.2 + i.toNat + i.toNat * x.toNat)) := E_multi (by rfl)
theorem e31_100 : zE 31 d Q 100 [l0] (zR q9 :: zR (some r) :: st) G h k ↔ (G.2.1 r = 4 ∧ zE 31 d Q 103 [l0] st (zgu G r 10 q9) h k) := E_putR (by rfl) rfl
theorem e31_103 : zE 31 d Q 103 [some (.inr (.inr w9))] st G h k ↔ zE 31 d Q 104 [some (.inr (.inr w9))] (.inr (.inr w9) :: st) G h k := E_aload_n (by rfl) rfl
theorem e31_104 : zE 31 d Q 104 [l0] st G h k ↔ zE 31 d Q 105 [l0] (zI 4 :: st) G h k := E_iconst (by rfl)
theorem e31_105 : zE 31 d Q 105 [l0] st G h k ↔ zE 31 d Q 106 [l0] (zI 3 :: st) G h k := E_iconst (by rfl)
theorem e31_106 : zE 31 d Q 106 [l0] (zI x :: zI i :: st) G h k ↔ (0 ≤ i ∧ i ≤ 1000000 ∧ 0 ≤ x ∧ x ≤ 1000000 ∧ k.1 + (1 + i.toNat) ≤ 40 ∧ k.2 + (i.toNat + i.toNat * x.toNat) ≤ 8300 ∧ zE 31 d Q 110 [l0] (zR (some G.1) :: st) (zgm G 15 11 i.toNat x.toNat) (zhm h G.1 i.toNat) (k.1 + 1 + i.toNat, k.2 + i.toNat + i.toNat * x.toNat)) := E_multi (by rfl)
theorem e31_110 : zE 31 d Q 110 [l0] (zR q9 :: zR (some r) :: st) G h k ↔ (G.2.1 r = 4 ∧ zE 31 d Q 113 [l0] st (zgu G r 11 q9) h k) := E_putR (by rfl) rfl
theorem e31_113 : zE 31 d Q 113 [some (.inr (.inr w9))] st G h k ↔ zE 31 d Q 114 [some (.inr (.inr w9))] (.inr (.inr w9) :: st) G h k := E_aload_n (by rfl) rfl
theorem e31_114 : zE 31 d Q 114 [l0] st G h k ↔ zE 31 d Q 115 [l0] (zI 4 :: st) G h k := E_iconst (by rfl)
theorem e31_115 : zE 31 d Q 115 [l0] (zI i :: st) G h k ↔ (0 ≤ i ∧ i ≤ 1000000 ∧ k.1 + 1 ≤ 40 ∧ k.2 + i.toNat ≤ 8300 ∧ zE 31 d Q 117 [l0] (zR (some G.1) :: st) (zgn G 11 i.toNat) (zhn h G.1) (k.1 + 1, k.2 + i.toNat)) := E_newarray (by rfl)
theorem e31_117 : zE 31 d Q 117 [l0] (zR q9 :: zR (some r) :: st) G h k ↔ (G.2.1 r = 4 ∧ zE 31 d Q 120 [l0] st (zgu G r 12 q9) h k) := E_putR (by rfl) rfl
theorem e31_120 : zE 31 d Q 120 [some (.inr (.inr w9))] st G h k ↔ zE 31 d Q 121 [some (.inr (.inr w9))] (.inr (.inr w9) :: st) G h k := E_aload_n (by rfl) rfl
theorem e31_121 : zE 31 d Q 121 [l0] st G h k ↔ zE 31 d Q 122 [l0] (zI 4 :: st) G h k := E_iconst (by rfl)
theorem e31_122 : zE 31 d Q 122 [l0] (zI i :: st) G h k ↔ (0 ≤ i ∧ i ≤ 1000000 ∧ k.1 + 1 ≤ 40 ∧ k.2 + i.toNat ≤ 8300 ∧ zE 31 d Q 124 [l0] (zR (some G.1) :: st) (zgn G 11 i.toNat) (zhn h G.1) (k.1 + 1, k.2 + i.toNat)) := E_newarray (by rfl)
theorem e31_124 : zE 31 d Q 124 [l0] (zR q9 :: zR (some r) :: st) G h k ↔ (G.2.1 r = 4 ∧ zE 31 d Q 127 [l0] st (zgu G r 13 q9) h k) := E_putR (by rfl) rfl
theorem e31_127 : zE 31 d Q 127 [some (.inr (.inr w9))] st G h k ↔ zE 31 d Q 128 [some (.inr (.inr w9))] (.inr (.inr w9) :: st) G h k := E_aload_n (by rfl) rfl
theorem e31_128 : zE 31 d Q 128 [l0] st G h k ↔ zE 31 d Q 129 [l0] (zI 0 :: st) G h k := E_iconst (by rfl)
theorem e31_129 : zE 31 d Q 129 [l0] (zI x :: zR (some r) :: st) G h k ↔ (G.2.1 r = 4 ∧ (x = 0 ∨ x = 1) ∧ zE 31 d Q 132 [l0] st G (zu h r 14 x) k) := E_putZ (by rfl) rfl
theorem e31_132 : zE 31 d Q 132 [l0] [] G h k ↔ Q none G h := E_vret (by rfl) rfl
theorem e32_0 : zE 32 d Q 0 [some (.inr (.inr w9)), l1, l2] st G h k ↔ zE 32 d Q 1 [some (.inr (.inr w9)), l1, l2] (.inr (.inr w9) :: st) G h k := E_aload_n (by rfl) rfl
theorem e32_1 : zE 32 d Q 1 [l0, l1, l2] (zR (some r) :: st) G h k ↔ (G.2.1 r = 4 ∧ zE 32 d Q 4 [l0, l1, l2] (zR (G.2.2.2 r 2) :: st) G h k) := E_getR (by rfl) rfl
theorem e32_4 : zE 32 d Q 4 [l0, some (.inr (.inr w9)), l2] st G h k ↔ zE 32 d Q 5 [l0, some (.inr (.inr w9)), l2] (.inr (.inr w9) :: st) G h k := E_aload_n (by rfl) rfl
theorem e32_5 : zE 32 d Q 5 [l0, l1, l2] (v0 :: zR (some r) :: st) G h k ↔ (zsum st ≤ 8 ∧ G.2.1 r = 5 ∧ zRunD ztb zmt' d 46 [zR (some r), v0] G h (fun v G' h' => zE 32 d Q 8 [l0, l1, l2] (v.toList ++ st) G' h' k)) := E_invV2z (by rfl) (by decide) rfl
theorem e32_8 : zE 32 d Q 8 [some (.inr (.inr w9)), l1, l2] st G h k ↔ zE 32 d Q 9 [some (.inr (.inr w9)), l1, l2] (.inr (.inr w9) :: st) G h k := E_aload_n (by rfl) rfl
theorem e32_9 : zE 32 d Q 9 [l0, l1, l2] (zR (some r) :: st) G h k ↔ (G.2.1 r = 4 ∧ zE 32 d Q 12 [l0, l1, l2] (zR (G.2.2.2 r 2) :: st) G h k) := E_getR (by rfl) rfl
theorem e32_12 : zE 32 d Q 12 [l0, l1, some (zI x)] st G h k ↔ zE 32 d Q 13 [l0, l1, some (zI x)] (zI x :: st) G h k := E_iload_n (by rfl) rfl
theorem e32_13 : zE 32 d Q 13 [l0, l1, l2] (v0 :: zR (some r) :: st) G h k ↔ (zsum st ≤ 8 ∧ G.2.1 r = 5 ∧ zRunD ztb zmt' d 47 [zR (some r), v0] G h (fun v G' h' => zE 32 d Q 16 [l0, l1, l2] (v.toList ++ st) G' h' k)) := E_invV2z (by rfl) (by decide) rfl
theorem e32_16 : zE 32 d Q 16 [some (.inr (.inr w9)), l1, l2] st G h k ↔ zE 32 d Q 17 [some (.inr (.inr w9)), l1, l2] (.inr (.inr w9) :: st) G h k := E_aload_n (by rfl) rfl
theorem e32_17 : zE 32 d Q 17 [l0, l1, l2] (zR (some r) :: st) G h k ↔ (G.2.1 r = 4 ∧ zE 32 d Q 20 [l0, l1, l2] (zR (G.2.2.2 r 3) :: st) G h k) := E_getR (by rfl) rfl
theorem e32_20 : zE 32 d Q 20 [some (.inr (.inr w9)), l1, l2] st G h k ↔ zE 32 d Q 21 [some (.inr (.inr w9)), l1, l2] (.inr (.inr w9) :: st) G h k := E_aload_n (by rfl) rfl
theorem e32_21 : zE 32 d Q 21 [l0, l1, l2] (zR (some r) :: st) G h k ↔ (G.2.1 r = 4 ∧ zE 32 d Q 24 [l0, l1, l2] (zR (G.2.2.2 r 2) :: st) G h k) := E_getR (by rfl) rfl
theorem e32_24 : zE 32 d Q 24 [l0, l1, l2] (zR (some r) :: st) G h k ↔ (zsum st ≤ 8 ∧ G.2.1 r = 5 ∧ zRunD ztb zmt' d 48 [zR (some r)] G h (fun v G' h' => zE 32 d Q 27 [l0, l1, l2] (v.toList ++ st) G' h' k)) := E_invV2z (by rfl) (by decide) rfl
theorem e32_27 : zE 32 d Q 27 [l0, l1, l2] (v1 :: v0 :: st) G h k ↔ (zsum st ≤ 8 ∧ zRunD ztb zmt' d 219 [v0, v1] G h (fun v G' h' => zE 32 d Q 30 [l0, l1, l2] (v.toList ++ st) G' h' k)) := E_invS2z (by rfl) (by decide) rfl
theorem e32_30 : zE 32 d Q 30 [some (.inr (.inr w9)), l1, l2] st G h k ↔ zE 32 d Q 31 [some (.inr (.inr w9)), l1, l2] (.inr (.inr w9) :: st) G h k := E_aload_n (by rfl) rfl
theorem e32_31 : zE 32 d Q 31 [l0, l1, l2] (zR (some r) :: st) G h k ↔ (G.2.1 r = 4 ∧ zE 32 d Q 34 [l0, l1, l2] (zR (G.2.2.2 r 0) :: st) G h k) := E_getR (by rfl) rfl
theorem e32_34 : zE 32 d Q 34 [l0, l1, l2] (zR (some r) :: st) G h k ↔ (zsum st ≤ 8 ∧ G.2.1 r = 6 ∧ zRunD ztb zmt' d 53 [zR (some r)] G h (fun v G' h' => zE 32 d Q 37 [l0, l1, l2] (v.toList ++ st) G' h' k)) := E_invV2z (by rfl) (by decide) rfl
theorem e32_37 : zE 32 d Q 37 [some (.inr (.inr w9)), l1, l2] st G h k ↔ zE 32 d Q 38 [some (.inr (.inr w9)), l1, l2] (.inr (.inr w9) :: st) G h k := E_aload_n (by rfl) rfl
theorem e32_38 : zE 32 d Q 38 [l0, l1, l2] st G h k ↔ zE 32 d Q 39 [l0, l1, l2] (zI 0 :: st) G h k := E_iconst (by rfl)
theorem e32_39 : zE 32 d Q 39 [l0, l1, l2] (zI x :: zR (some r) :: st) G h k ↔ (G.2.1 r = 4 ∧ (x = 0 ∨ x = 1) ∧ zE 32 d Q 42 [l0, l1, l2] st G (zu h r 14 x) k) := E_putZ (by rfl) rfl
theorem e32_42 : zE 32 d Q 42 [l0, l1, l2] [] G h k ↔ Q none G h := E_vret (by rfl) rfl
theorem e33_0 : zE 33 d Q 0 [some (.inr (.inr w9)), l1, l2] st G h k ↔ zE 33 d Q 1 [some (.inr (.inr w9)), l1, l2] (.inr (.inr w9) :: st) G h k := E_aload_n (by rfl) rfl
theorem e33_1 : zE 33 d Q 1 [l0, l1, l2] (zR (some r) :: st) G h k ↔ (G.2.1 r = 4 ∧ zE 33 d Q 4 [l0, l1, l2] (zR (G.2.2.2 r 3) :: st) G h k) := E_getR (by rfl) rfl
theorem e33_4 : zE 33 d Q 4 [l0, some (zI x), l2] st G h k ↔ zE 33 d Q 5 [l0, some (zI x), l2] (zI x :: st) G h k := E_iload_n (by rfl) rfl
theorem e33_5 : zE 33 d Q 5 [some (.inr (.inr w9)), l1, l2] st G h k ↔ zE 33 d Q 6 [some (.inr (.inr w9)), l1, l2] (.inr (.inr w9) :: st) G h k := E_aload_n (by rfl) rfl
theorem e33_6 : zE 33 d Q 6 [l0, l1, l2] (zR (some r) :: st) G h k ↔ (G.2.1 r = 4 ∧ zE 33 d Q 9 [l0, l1, l2] (zR (G.2.2.2 r 2) :: st) G h k) := E_getR (by rfl) rfl
theorem e33_9 : zE 33 d Q 9 [l0, l1, some (zI x)] st G h k ↔ zE 33 d Q 10 [l0, l1, some (zI x)] (zI x :: st) G h k := E_iload_n (by rfl) rfl
theorem e33_10 : zE 33 d Q 10 [some (.inr (.inr w9)), l1, l2] st G h k ↔ zE 33 d Q 11 [some (.inr (.inr w9)), l1, l2] (.inr (.inr w9) :: st) G h k := E_aload_n (by rfl) rfl
theorem e33_11 : zE 33 d Q 11 [l0, l1, l2] (zR (some r) :: st) G h k ↔ (G.2.1 r = 4 ∧ zE 33 d Q 14 [l0, l1, l2] (zR (G.2.2.2 r 2) :: st) G h k) := E_getR (by rfl) rfl
theorem e33_14 : zE 33 d Q 14 [l0, l1, l2] (zR (some r) :: st) G h k ↔ (G.2.1 r = 5 ∧ zE 33 d Q 17 [l0, l1, l2] (zI (h r 11) :: st) G h k) := E_getI (by rfl) (by decide)
theorem e33_17 : zE 33 d Q 17 [l0, l1, l2] st G h k ↔ zE 33 d Q 18 [l0, l1, l2] (zI 1 :: st) G h k := E_iconst (by rfl)
theorem e33_18 : zE 33 d Q 18 [l0, l1, l2] (zI y :: zI x :: st) G h k ↔ zE 33 d Q 19 [l0, l1, l2] (zI (wr (x - y)) :: st) G h k := E_isub (by rfl)
theorem e33_19 : zE 33 d Q 19 [l0, l1, l2] (v1 :: v0 :: zR (some r) :: st) G h k ↔ (zsum st ≤ 8 ∧ G.2.1 r = 5 ∧ zRunD ztb zmt' d 51 [zR (some r), v0, v1] G h (fun v G' h' => zE 33 d Q 22 [l0, l1, l2] (v.toList ++ st) G' h' k)) := E_invV2z (by rfl) (by decide) rfl
theorem e33_22 : zE 33 d Q 22 [l0, l1, l2] st G h k ↔ zE 33 d Q 23 [l0, l1, l2] (zI 1 :: st) G h k := E_iconst (by rfl)
theorem e33_23 : zE 33 d Q 23 [l0, l1, l2] (zI y :: zI x :: st) G h k ↔ zE 33 d Q 24 [l0, l1, l2] (zI (wr (x + y)) :: st) G h k := E_iadd (by rfl)
theorem e33_24 : zE 33 d Q 24 [l0, l1, l2] (zI x :: zI i :: zR (some r) :: st) G h k ↔ (G.2.1 r = 10 ∧ (0 ≤ i ∧ i < G.2.2.1 r) ∧ zE 33 d Q 25 [l0, l1, l2] st G (zu h r i.toNat x) k) := E_iastore (by rfl)
theorem e33_25 : zE 33 d Q 25 [l0, l1, l2] [] G h k ↔ Q none G h := E_vret (by rfl) rfl
theorem e34_0 : zE 34 d Q 0 [l0, l1, l2, l3] st G h k ↔ zE 34 d Q 1 [l0, l1, l2, l3] (zI 0 :: st) G h k := E_iconst (by rfl)
theorem e34_1 : zE 34 d Q 1 [l0, l1, l2, l3] (zI x :: st) G h k ↔ zE 34 d Q 2 [l0, (zclr l1), some (zI x), l3] st G h k := E_istore_n (by rfl) (by decide)
theorem e34_2 : zE 34 d Q 2 [l0, l1, l2, l3] st G h k ↔ zE 34 d Q 3 [l0, l1, l2, l3] (zI 0 :: st) G h k := E_iconst (by rfl)
theorem e34_3 : zE 34 d Q 3 [l0, l1, l2, l3] (zI x :: st) G h k ↔ zE 34 d Q 4 [l0, l1, (zclr l2), some (zI x)] st G h k := E_istore_n (by rfl) (by decide)
theorem e34_4 : zE 34 d Q 4 [l0, l1, l2, some (zI x)] st G h k ↔ zE 34 d Q 5 [l0, l1, l2, some (zI x)] (zI x :: st) G h k := E_iload_n (by rfl) rfl
theorem e34_5 : zE 34 d Q 5 [some (.inr (.inr w9)), l1, l2, l3] st G h k ↔ zE 34 d Q 6 [some (.inr (.inr w9)), l1, l2, l3] (.inr (.inr w9) :: st) G h k := E_aload_n (by rfl) rfl
theorem e34_6 : zE 34 d Q 6 [l0, l1, l2, l3] (zR (some r) :: st) G h k ↔ (G.2.1 r = 4 ∧ zE 34 d Q 9 [l0, l1, l2, l3] (zR (G.2.2.2 r 2) :: st) G h k) := E_getR (by rfl) rfl
theorem e34_9 : zE 34 d Q 9 [l0, l1, l2, l3] (zR (some r) :: st) G h k ↔ (G.2.1 r = 5 ∧ zE 34 d Q 12 [l0, l1, l2, l3] (zI (h r 10) :: st) G h k) := E_getI (by rfl) (by decide)
theorem e34_12 : zE 34 d Q 12 [l0, l1, l2, l3] (zI y :: zI x :: st) G h k ↔ ((y ≤ x → zE 34 d Q 57 [l0, l1, l2, l3] st G h k) ∧ (¬ (y ≤ x) → zE 34 d Q 15 [l0, l1, l2, l3] st G h k)) := E_icmp_ge (by rfl)
theorem e34_15 : zE 34 d Q 15 [some (.inr (.inr w9)), l1, l2, l3] st G h k ↔ zE 34 d Q 16 [some (.inr (.inr w9)), l1, l2, l3] (.inr (.inr w9) :: st) G h k := E_aload_n (by rfl) rfl
theorem e34_16 : zE 34 d Q 16 [l0, l1, l2, l3] (zR (some r) :: st) G h k ↔ (G.2.1 r = 4 ∧ zE 34 d Q 19 [l0, l1, l2, l3] (zR (G.2.2.2 r 0) :: st) G h k) := E_getR (by rfl) rfl
theorem e34_19 : zE 34 d Q 19 [l0, l1, l2, some (zI x)] st G h k ↔ zE 34 d Q 20 [l0, l1, l2, some (zI x)] (zI x :: st) G h k := E_iload_n (by rfl) rfl
theorem e34_20 : zE 34 d Q 20 [some (.inr (.inr w9)), l1, l2, l3] st G h k ↔ zE 34 d Q 21 [some (.inr (.inr w9)), l1, l2, l3] (.inr (.inr w9) :: st) G h k := E_aload_n (by rfl) rfl
theorem e34_21 : zE 34 d Q 21 [l0, l1, l2, l3] (zR (some r) :: st) G h k ↔ (G.2.1 r = 4 ∧ zE 34 d Q 24 [l0, l1, l2, l3] (zR (G.2.2.2 r 2) :: st) G h k) := E_getR (by rfl) rfl
theorem e34_24 : zE 34 d Q 24 [l0, l1, l2, l3] (zR (some r) :: st) G h k ↔ (G.2.1 r = 5 ∧ zE 34 d Q 27 [l0, l1, l2, l3] (zR (G.2.2.2 r 3) :: st) G h k) := E_getR (by rfl) rfl
theorem e34_27 : zE 34 d Q 27 [l0, l1, l2, some (zI x)] st G h k ↔ zE 34 d Q 28 [l0, l1, l2, some (zI x)] (zI x :: st) G h k := E_iload_n (by rfl) rfl
theorem e34_28 : zE 34 d Q 28 [l0, l1, l2, l3] (zI i :: zR (some r) :: st) G h k ↔ (G.2.1 r = 10 ∧ (0 ≤ i ∧ i < G.2.2.1 r) ∧ zE 34 d Q 29 [l0, l1, l2, l3] (zI (h r i.toNat) :: st) G h k) := E_iaload (by rfl)
theorem e34_29 : zE 34 d Q 29 [some (.inr (.inr w9)), l1, l2, l3] st G h k ↔ zE 34 d Q 30 [some (.inr (.inr w9)), l1, l2, l3] (.inr (.inr w9) :: st) G h k := E_aload_n (by rfl) rfl
theorem e34_30 : zE 34 d Q 30 [l0, l1, l2, l3] (zR (some r) :: st) G h k ↔ (G.2.1 r = 4 ∧ zE 34 d Q 33 [l0, l1, l2, l3] (zR (G.2.2.2 r 2) :: st) G h k) := E_getR (by rfl) rfl
theorem e34_33 : zE 34 d Q 33 [l0, l1, l2, l3] (zR (some r) :: st) G h k ↔ (G.2.1 r = 5 ∧ zE 34 d Q 36 [l0, l1, l2, l3] (zR (G.2.2.2 r 3) :: st) G h k) := E_getR (by rfl) rfl
theorem e34_36 : zE 34 d Q 36 [l0, l1, l2, some (zI x)] st G h k ↔ zE 34 d Q 37 [l0, l1, l2, some (zI x)] (zI x :: st) G h k := E_iload_n (by rfl) rfl
theorem e34_37 : zE 34 d Q 37 [l0, l1, l2, l3] (zI i :: zR (some r) :: st) G h k ↔ (G.2.1 r = 10 ∧ (0 ≤ i ∧ i < G.2.2.1 r) ∧ zE 34 d Q 38 [l0, l1, l2, l3] (zI (h r i.toNat) :: st) G h k) := E_iaload (by rfl)
theorem e34_38 : zE 34 d Q 38 [l0, some (zI x), l2, l3] st G h k ↔ zE 34 d Q 39 [l0, some (zI x), l2, l3] (zI x :: st) G h k := E_iload_n (by rfl) rfl
theorem e34_39 : zE 34 d Q 39 [l0, l1, l2, l3] (zI y :: zI x :: st) G h k ↔ zE 34 d Q 40 [l0, l1, l2, l3] (zI (wr (x * y)) :: st) G h k := E_imul (by rfl)
theorem e34_40 : zE 34 d Q 40 [l0, l1, l2, l3] st G h k ↔ zE 34 d Q 42 [l0, l1, l2, l3] (zI 100 :: st) G h k := E_bipush (by rfl)
theorem e34_42 : zE 34 d Q 42 [l0, l1, l2, l3] (zI y :: zI x :: st) G h k ↔ (y ≠ 0 ∧ zE 34 d Q 43 [l0, l1, l2, l3] (zI (wr (x.tdiv y)) :: st) G h k) := E_idiv (by rfl)
theorem e34_43 : zE 34 d Q 43 [l0, l1, l2, l3] (v2 :: v1 :: v0 :: zR (some r) :: st) G h k ↔ (zsum st ≤ 8 ∧ G.2.1 r = 6 ∧ zRunD ztb zmt' d 54 [zR (some r), v0, v1, v2] G h (fun v G' h' => zE 34 d Q 46 [l0, l1, l2, l3] (v.toList ++ st) G' h' k)) := E_invV2z (by rfl) (by decide) rfl
theorem e34_46 : zE 34 d Q 46 [l0, l1, l2, l3] (zI x :: st) G h k ↔ ((x = 0 → zE 34 d Q 51 [l0, l1, l2, l3] st G h k) ∧ (¬ (x = 0) → zE 34 d Q 49 [l0, l1, l2, l3] st G h k)) := E_if_eq (by rfl)
theorem e34_49 : zE 34 d Q 49 [l0, l1, l2, l3] st G h k ↔ zE 34 d Q 50 [l0, l1, l2, l3] (zI 1 :: st) G h k := E_iconst (by rfl)
theorem e34_50 : zE 34 d Q 50 [l0, l1, l2, l3] (zI x :: st) G h k ↔ zE 34 d Q 51 [l0, (zclr l1), some (zI x), l3] st G h k := E_istore_n (by rfl) (by decide)
theorem e34_51 : zE 34 d Q 51 [l0, l1, l2, some (zI x)] st G h k ↔ zE 34 d Q 54 [l0, l1, (zclr l2), some (zI (wr (x + 1)))] st G h k := E_iinc (by rfl) rfl
theorem e34_54 : zE 34 d Q 54 [l0, l1, l2, l3] st G h k ↔ zE 34 d Q 4 [l0, l1, l2, l3] st G h k := E_goto (by rfl)
theorem e34_57 : zE 34 d Q 57 [l0, l1, some (zI x), l3] st G h k ↔ zE 34 d Q 58 [l0, l1, some (zI x), l3] (zI x :: st) G h k := E_iload_n (by rfl) rfl
theorem e34_58 : zE 34 d Q 58 [l0, l1, l2, l3] [zI x] G h k ↔ ((x = 0 ∨ x = 1) ∧ Q (some (zI x)) G h) := E_zret (by rfl) rfl
theorem e35_0 : zE 35 d Q 0 [some (.inr (.inr w9)), l1, l2] st G h k ↔ zE 35 d Q 1 [some (.inr (.inr w9)), l1, l2] (.inr (.inr w9) :: st) G h k := E_aload_n (by rfl) rfl
theorem e35_1 : zE 35 d Q 1 [l0, l1, l2] st G h k ↔ zE 35 d Q 2 [l0, l1, l2] (zI 1 :: st) G h k := E_iconst (by rfl)
theorem e35_2 : zE 35 d Q 2 [l0, l1, l2] (zI x :: zR (some r) :: st) G h k ↔ (G.2.1 r = 4 ∧ zE 35 d Q 5 [l0, l1, l2] st G (zu h r 5 x) k) := E_putI (by rfl) rfl
theorem e35_5 : zE 35 d Q 5 [some (.inr (.inr w9)), l1, l2] st G h k ↔ zE 35 d Q 6 [some (.inr (.inr w9)), l1, l2] (.inr (.inr w9) :: st) G h k := E_aload_n (by rfl) rfl
theorem e35_6 : zE 35 d Q 6 [l0, l1, l2] (zR (some r) :: st) G h k ↔ (G.2.1 r = 4 ∧ zE 35 d Q 9 [l0, l1, l2] (zR (G.2.2.2 r 2) :: st) G h k) := E_getR (by rfl) rfl
theorem e35_9 : zE 35 d Q 9 [l0, l1, l2] (zR (some r) :: st) G h k ↔ (G.2.1 r = 5 ∧ zE 35 d Q 12 [l0, l1, l2] (zI (h r 9) :: st) G h k) := E_getI (by rfl) (by decide)
theorem e35_12 : zE 35 d Q 12 [l0, l1, l2] st G h k ↔ zE 35 d Q 13 [l0, l1, l2] (zI 1 :: st) G h k := E_iconst (by rfl)
theorem e35_13 : zE 35 d Q 13 [l0, l1, l2] (zI y :: zI x :: st) G h k ↔ zE 35 d Q 14 [l0, l1, l2] (zI (wr (x - y)) :: st) G h k := E_isub (by rfl)
theorem e35_14 : zE 35 d Q 14 [l0, l1, l2] (zI x :: st) G h k ↔ zE 35 d Q 15 [l0, (zclr l1), some (zI x)] st G h k := E_istore_n (by rfl) (by decide)
theorem e35_15 : zE 35 d Q 15 [l0, l1, some (zI x)] st G h k ↔ zE 35 d Q 16 [l0, l1, some (zI x)] (zI x :: st) G h k := E_iload_n (by rfl) rfl
theorem e35_16 : zE 35 d Q 16 [l0, l1, l2] (zI x :: st) G h k ↔ ((x < 0 → zE 35 d Q 50 [l0, l1, l2] st G h k) ∧ (¬ (x < 0) → zE 35 d Q 19 [l0, l1, l2] st G h k)) := E_if_lt (by rfl)
theorem e35_19 : zE 35 d Q 19 [some (.inr (.inr w9)), l1, l2] st G h k ↔ zE 35 d Q 20 [some (.inr (.inr w9)), l1, l2] (.inr (.inr w9) :: st) G h k := E_aload_n (by rfl) rfl
theorem e35_20 : zE 35 d Q 20 [l0, l1, l2] (zR (some r) :: st) G h k ↔ (G.2.1 r = 4 ∧ zE 35 d Q 23 [l0, l1, l2] (zR (G.2.2.2 r 4) :: st) G h k) := E_getR (by rfl) rfl
theorem e35_23 : zE 35 d Q 23 [l0, l1, some (zI x)] st G h k ↔ zE 35 d Q 24 [l0, l1, some (zI x)] (zI x :: st) G h k := E_iload_n (by rfl) rfl
theorem e35_24 : zE 35 d Q 24 [some (.inr (.inr w9)), l1, l2] st G h k ↔ zE 35 d Q 25 [some (.inr (.inr w9)), l1, l2] (.inr (.inr w9) :: st) G h k := E_aload_n (by rfl) rfl
theorem e35_25 : zE 35 d Q 25 [l0, l1, l2] (zR (some r) :: st) G h k ↔ (G.2.1 r = 4 ∧ zE 35 d Q 28 [l0, l1, l2] (zI (h r 5) :: st) G h k) := E_getI (by rfl) (by decide)
theorem e35_28 : zE 35 d Q 28 [l0, l1, l2] (zI x :: zI i :: zR (some r) :: st) G h k ↔ (G.2.1 r = 10 ∧ (0 ≤ i ∧ i < G.2.2.1 r) ∧ zE 35 d Q 29 [l0, l1, l2] st G (zu h r i.toNat x) k) := E_iastore (by rfl)
theorem e35_29 : zE 35 d Q 29 [some (.inr (.inr w9)), l1, l2] st G h k ↔ zE 35 d Q 30 [some (.inr (.inr w9)), l1, l2] (.inr (.inr w9) :: st) G h k := E_aload_n (by rfl) rfl
theorem e35_30 : zE 35 d Q 30 [l0, l1, l2] (.inr (.inr w9) :: st) G h k ↔ zE 35 d Q 31 [l0, l1, l2] (.inr (.inr w9) :: .inr (.inr w9) :: st) G h k := E_dup (by rfl) rfl
theorem e35_31 : zE 35 d Q 31 [l0, l1, l2] (zR (some r) :: st) G h k ↔ (G.2.1 r = 4 ∧ zE 35 d Q 34 [l0, l1, l2] (zI (h r 5) :: st) G h k) := E_getI (by rfl) (by decide)
theorem e35_34 : zE 35 d Q 34 [some (.inr (.inr w9)), l1, l2] st G h k ↔ zE 35 d Q 35 [some (.inr (.inr w9)), l1, l2] (.inr (.inr w9) :: st) G h k := E_aload_n (by rfl) rfl
theorem e35_35 : zE 35 d Q 35 [l0, l1, l2] (zR (some r) :: st) G h k ↔ (G.2.1 r = 4 ∧ zE 35 d Q 38 [l0, l1, l2] (zR (G.2.2.2 r 3) :: st) G h k) := E_getR (by rfl) rfl
theorem e35_38 : zE 35 d Q 38 [l0, l1, some (zI x)] st G h k ↔ zE 35 d Q 39 [l0, l1, some (zI x)] (zI x :: st) G h k := E_iload_n (by rfl) rfl
theorem e35_39 : zE 35 d Q 39 [l0, l1, l2] (zI i :: zR (some r) :: st) G h k ↔ (G.2.1 r = 10 ∧ (0 ≤ i ∧ i < G.2.2.1 r) ∧ zE 35 d Q 40 [l0, l1, l2] (zI (h r i.toNat) :: st) G h k) := E_iaload (by rfl)
theorem e35_40 : zE 35 d Q 40 [l0, l1, l2] (zI y :: zI x :: st) G h k ↔ zE 35 d Q 41 [l0, l1, l2] (zI (wr (x * y)) :: st) G h k := E_imul (by rfl)
theorem e35_41 : zE 35 d Q 41 [l0, l1, l2] (zI x :: zR (some r) :: st) G h k ↔ (G.2.1 r = 4 ∧ zE 35 d Q 44 [l0, l1, l2] st G (zu h r 5 x) k) := E_putI (by rfl) rfl
theorem e35_44 : zE 35 d Q 44 [l0, l1, some (zI x)] st G h k ↔ zE 35 d Q 47 [l0, (zclr l1), some (zI (wr (x + (-1))))] st G h k := E_iinc (by rfl) rfl
theorem e35_47 : zE 35 d Q 47 [l0, l1, l2] st G h k ↔ zE 35 d Q 15 [l0, l1, l2] st G h k := E_goto (by rfl)
theorem e35_50 : zE 35 d Q 50 [l0, l1, l2] st G h k ↔ zE 35 d Q 51 [l0, l1, l2] (zI 0 :: st) G h k := E_iconst (by rfl)
theorem e35_51 : zE 35 d Q 51 [l0, l1, l2] (zI x :: st) G h k ↔ zE 35 d Q 52 [l0, (zclr l1), some (zI x)] st G h k := E_istore_n (by rfl) (by decide)
theorem e35_52 : zE 35 d Q 52 [l0, l1, some (zI x)] st G h k ↔ zE 35 d Q 53 [l0, l1, some (zI x)] (zI x :: st) G h k := E_iload_n (by rfl) rfl
theorem e35_53 : zE 35 d Q 53 [some (.inr (.inr w9)), l1, l2] st G h k ↔ zE 35 d Q 54 [some (.inr (.inr w9)), l1, l2] (.inr (.inr w9) :: st) G h k := E_aload_n (by rfl) rfl
theorem e35_54 : zE 35 d Q 54 [l0, l1, l2] (zR (some r) :: st) G h k ↔ (G.2.1 r = 4 ∧ zE 35 d Q 57 [l0, l1, l2] (zI (h r 5) :: st) G h k) := E_getI (by rfl) (by decide)
theorem e35_57 : zE 35 d Q 57 [l0, l1, l2] (zI y :: zI x :: st) G h k ↔ ((y ≤ x → zE 35 d Q 105 [l0, l1, l2] st G h k) ∧ (¬ (y ≤ x) → zE 35 d Q 60 [l0, l1, l2] st G h k)) := E_icmp_ge (by rfl)
theorem e35_60 : zE 35 d Q 60 [some (.inr (.inr w9)), l1, l2] st G h k ↔ zE 35 d Q 61 [some (.inr (.inr w9)), l1, l2] (.inr (.inr w9) :: st) G h k := E_aload_n (by rfl) rfl
theorem e35_61 : zE 35 d Q 61 [l0, l1, some (zI x)] st G h k ↔ zE 35 d Q 62 [l0, l1, some (zI x)] (zI x :: st) G h k := E_iload_n (by rfl) rfl
theorem e35_62 : zE 35 d Q 62 [l0, l1, l2] (v0 :: zR (some r) :: st) G h k ↔ (zsum st ≤ 8 ∧ G.2.1 r = 4 ∧ zRunD ztb zmt' d 39 [zR (some r), v0] G h (fun v G' h' => zE 35 d Q 65 [l0, l1, l2] (v.toList ++ st) G' h' k)) := E_invV2z (by rfl) (by decide) rfl
theorem e35_65 : zE 35 d Q 65 [some (.inr (.inr w9)), l1, l2] st G h k ↔ zE 35 d Q 66 [some (.inr (.inr w9)), l1, l2] (.inr (.inr w9) :: st) G h k := E_aload_n (by rfl) rfl
theorem e35_66 : zE 35 d Q 66 [l0, l1, l2] (zR (some r) :: st) G h k ↔ (G.2.1 r = 4 ∧ zE 35 d Q 69 [l0, l1, l2] (zR (G.2.2.2 r 1) :: st) G h k) := E_getR (by rfl) rfl
theorem e35_69 : zE 35 d Q 69 [some (.inr (.inr w9)), l1, l2] st G h k ↔ zE 35 d Q 70 [some (.inr (.inr w9)), l1, l2] (.inr (.inr w9) :: st) G h k := E_aload_n (by rfl) rfl
theorem e35_70 : zE 35 d Q 70 [l0, l1, l2] (zR (some r) :: st) G h k ↔ (G.2.1 r = 4 ∧ zE 35 d Q 73 [l0, l1, l2] (zR (G.2.2.2 r 6) :: st) G h k) := E_getR (by rfl) rfl
theorem e35_73 : zE 35 d Q 73 [l0, l1, some (zI x)] st G h k ↔ zE 35 d Q 74 [l0, l1, some (zI x)] (zI x :: st) G h k := E_iload_n (by rfl) rfl
theorem e35_74 : zE 35 d Q 74 [l0, l1, l2] st G h k ↔ zE 35 d Q 75 [l0, l1, l2] (zI 4 :: st) G h k := E_iconst (by rfl)
theorem e35_75 : zE 35 d Q 75 [l0, l1, l2] (zI y :: zI x :: st) G h k ↔ zE 35 d Q 76 [l0, l1, l2] (zI (wr (x * y)) :: st) G h k := E_imul (by rfl)
theorem e35_76 : zE 35 d Q 76 [l0, l1, l2] (v1 :: v0 :: zR (some r) :: st) G h k ↔ (zsum st ≤ 8 ∧ G.2.1 r = 1 ∧ zRunD ztb zmt' d 11 [zR (some r), v0, v1] G h (fun v G' h' => zE 35 d Q 79 [l0, l1, l2] (v.toList ++ st) G' h' k)) := E_invV2z (by rfl) (by decide) rfl
theorem e35_79 : zE 35 d Q 79 [some (.inr (.inr w9)), l1, l2] st G h k ↔ zE 35 d Q 80 [some (.inr (.inr w9)), l1, l2] (.inr (.inr w9) :: st) G h k := E_aload_n (by rfl) rfl
theorem e35_80 : zE 35 d Q 80 [l0, l1, l2] (zR (some r) :: st) G h k ↔ (G.2.1 r = 4 ∧ zE 35 d Q 83 [l0, l1, l2] (zR (G.2.2.2 r 7) :: st) G h k) := E_getR (by rfl) rfl
theorem e35_83 : zE 35 d Q 83 [l0, l1, some (zI x)] st G h k ↔ zE 35 d Q 84 [l0, l1, some (zI x)] (zI x :: st) G h k := E_iload_n (by rfl) rfl
theorem e35_84 : zE 35 d Q 84 [l0, some (zI x), l2] st G h k ↔ zE 35 d Q 85 [l0, some (zI x), l2] (zI x :: st) G h k := E_iload_n (by rfl) rfl
theorem e35_85 : zE 35 d Q 85 [l0, l1, l2] st G h k ↔ zE 35 d Q 86 [l0, l1, l2] (zI 1 :: st) G h k := E_iconst (by rfl)
theorem e35_86 : zE 35 d Q 86 [l0, l1, l2] (zI y :: zI x :: st) G h k ↔ ((x ≤ y → zE 35 d Q 97 [l0, l1, l2] st G h k) ∧ (¬ (x ≤ y) → zE 35 d Q 89 [l0, l1, l2] st G h k)) := E_icmp_le (by rfl)
theorem e35_89 : zE 35 d Q 89 [some (.inr (.inr w9)), l1, l2] st G h k ↔ zE 35 d Q 90 [some (.inr (.inr w9)), l1, l2] (.inr (.inr w9) :: st) G h k := E_aload_n (by rfl) rfl
theorem e35_90 : zE 35 d Q 90 [l0, l1, some (zI x)] st G h k ↔ zE 35 d Q 91 [l0, l1, some (zI x)] (zI x :: st) G h k := E_iload_n (by rfl) rfl
theorem e35_91 : zE 35 d Q 91 [l0, l1, l2] (v0 :: zR (some r) :: st) G h k ↔ (zsum st ≤ 8 ∧ G.2.1 r = 4 ∧ zRunD ztb zmt' d 36 [zR (some r), v0] G h (fun v G' h' => zE 35 d Q 94 [l0, l1, l2] (v.toList ++ st) G' h' k)) := E_invV2z (by rfl) (by decide) rfl
theorem e35_94 : zE 35 d Q 94 [l0, l1, l2] st G h k ↔ zE 35 d Q 98 [l0, l1, l2] st G h k := E_goto (by rfl)
theorem e35_97 : zE 35 d Q 97 [l0, l1, some (zI x)] st G h k ↔ zE 35 d Q 98 [l0, l1, some (zI x)] (zI x :: st) G h k := E_iload_n (by rfl) rfl
theorem e35_98 : zE 35 d Q 98 [l0, l1, l2] (zI x :: zI i :: zR (some r) :: st) G h k ↔ (G.2.1 r = 10 ∧ (0 ≤ i ∧ i < G.2.2.1 r) ∧ zE 35 d Q 99 [l0, l1, l2] st G (zu h r i.toNat x) k) := E_iastore (by rfl)
theorem e35_99 : zE 35 d Q 99 [l0, l1, some (zI x)] st G h k ↔ zE 35 d Q 102 [l0, (zclr l1), some (zI (wr (x + 1)))] st G h k := E_iinc (by rfl) rfl
theorem e35_102 : zE 35 d Q 102 [l0, l1, l2] st G h k ↔ zE 35 d Q 52 [l0, l1, l2] st G h k := E_goto (by rfl)
theorem e35_105 : zE 35 d Q 105 [l0, l1, l2] [] G h k ↔ Q none G h := E_vret (by rfl) rfl
theorem e36_0 : zE 36 d Q 0 [l0, l1, l2] st G h k ↔ zE 36 d Q 1 [l0, l1, l2] (zI 0 :: st) G h k := E_iconst (by rfl)
theorem e36_1 : zE 36 d Q 1 [l0, l1, l2] (zI x :: st) G h k ↔ zE 36 d Q 2 [l0, (zclr l1), some (zI x)] st G h k := E_istore_n (by rfl) (by decide)
theorem e36_2 : zE 36 d Q 2 [l0, l1, some (zI x)] st G h k ↔ zE 36 d Q 3 [l0, l1, some (zI x)] (zI x :: st) G h k := E_iload_n (by rfl) rfl
theorem e36_3 : zE 36 d Q 3 [l0, some (zI x), l2] st G h k ↔ zE 36 d Q 4 [l0, some (zI x), l2] (zI x :: st) G h k := E_iload_n (by rfl) rfl
theorem e36_4 : zE 36 d Q 4 [l0, l1, l2] (zI y :: zI x :: st) G h k ↔ ((y ≤ x → zE 36 d Q 24 [l0, l1, l2] st G h k) ∧ (¬ (y ≤ x) → zE 36 d Q 7 [l0, l1, l2] st G h k)) := E_icmp_ge (by rfl)
theorem e36_7 : zE 36 d Q 7 [some (.inr (.inr w9)), l1, l2] st G h k ↔ zE 36 d Q 8 [some (.inr (.inr w9)), l1, l2] (.inr (.inr w9) :: st) G h k := E_aload_n (by rfl) rfl
theorem e36_8 : zE 36 d Q 8 [l0, l1, some (zI x)] st G h k ↔ zE 36 d Q 9 [l0, l1, some (zI x)] (zI x :: st) G h k := E_iload_n (by rfl) rfl
theorem e36_9 : zE 36 d Q 9 [l0, some (zI x), l2] st G h k ↔ zE 36 d Q 10 [l0, some (zI x), l2] (zI x :: st) G h k := E_iload_n (by rfl) rfl
theorem e36_10 : zE 36 d Q 10 [l0, l1, l2] (v1 :: v0 :: zR (some r) :: st) G h k ↔ (zsum st ≤ 8 ∧ G.2.1 r = 4 ∧ zRunD ztb zmt' d 37 [zR (some r), v0, v1] G h (fun v G' h' => zE 36 d Q 13 [l0, l1, l2] (v.toList ++ st) G' h' k)) := E_invV2z (by rfl) (by decide) rfl
theorem e36_13 : zE 36 d Q 13 [l0, l1, l2] (zI x :: st) G h k ↔ ((x = 0 → zE 36 d Q 18 [l0, l1, l2] st G h k) ∧ (¬ (x = 0) → zE 36 d Q 16 [l0, l1, l2] st G h k)) := E_if_eq (by rfl)
theorem e36_16 : zE 36 d Q 16 [l0, l1, some (zI x)] st G h k ↔ zE 36 d Q 17 [l0, l1, some (zI x)] (zI x :: st) G h k := E_iload_n (by rfl) rfl
theorem e36_17 : zE 36 d Q 17 [l0, l1, l2] [zI x] G h k ↔ Q (some (zI x)) G h := E_iret (by rfl) rfl
theorem e36_18 : zE 36 d Q 18 [l0, l1, some (zI x)] st G h k ↔ zE 36 d Q 21 [l0, (zclr l1), some (zI (wr (x + 1)))] st G h k := E_iinc (by rfl) rfl
theorem e36_21 : zE 36 d Q 21 [l0, l1, l2] st G h k ↔ zE 36 d Q 2 [l0, l1, l2] st G h k := E_goto (by rfl)
theorem e36_24 : zE 36 d Q 24 [l0, some (zI x), l2] st G h k ↔ zE 36 d Q 25 [l0, some (zI x), l2] (zI x :: st) G h k := E_iload_n (by rfl) rfl
theorem e36_25 : zE 36 d Q 25 [l0, l1, l2] [zI x] G h k ↔ Q (some (zI x)) G h := E_iret (by rfl) rfl
theorem e37_0 : zE 37 d Q 0 [l0, l1, l2, l3] st G h k ↔ zE 37 d Q 1 [l0, l1, l2, l3] (zI 0 :: st) G h k := E_iconst (by rfl)
theorem e37_1 : zE 37 d Q 1 [l0, l1, l2, l3] (zI x :: st) G h k ↔ zE 37 d Q 2 [l0, l1, (zclr l2), some (zI x)] st G h k := E_istore_n (by rfl) (by decide)
theorem e37_2 : zE 37 d Q 2 [l0, l1, l2, some (zI x)] st G h k ↔ zE 37 d Q 3 [l0, l1, l2, some (zI x)] (zI x :: st) G h k := E_iload_n (by rfl) rfl
theorem e37_3 : zE 37 d Q 3 [some (.inr (.inr w9)), l1, l2, l3] st G h k ↔ zE 37 d Q 4 [some (.inr (.inr w9)), l1, l2, l3] (.inr (.inr w9) :: st) G h k := E_aload_n (by rfl) rfl
theorem e37_4 : zE 37 d Q 4 [l0, l1, l2, l3] (zR (some r) :: st) G h k ↔ (G.2.1 r = 4 ∧ zE 37 d Q 7 [l0, l1, l2, l3] (zR (G.2.2.2 r 2) :: st) G h k) := E_getR (by rfl) rfl
theorem e37_7 : zE 37 d Q 7 [l0, l1, l2, l3] (zR (some r) :: st) G h k ↔ (G.2.1 r = 5 ∧ zE 37 d Q 10 [l0, l1, l2, l3] (zI (h r 10) :: st) G h k) := E_getI (by rfl) (by decide)
theorem e37_10 : zE 37 d Q 10 [l0, l1, l2, l3] (zI y :: zI x :: st) G h k ↔ ((y ≤ x → zE 37 d Q 44 [l0, l1, l2, l3] st G h k) ∧ (¬ (y ≤ x) → zE 37 d Q 13 [l0, l1, l2, l3] st G h k)) := E_icmp_ge (by rfl)
theorem e37_13 : zE 37 d Q 13 [some (.inr (.inr w9)), l1, l2, l3] st G h k ↔ zE 37 d Q 14 [some (.inr (.inr w9)), l1, l2, l3] (.inr (.inr w9) :: st) G h k := E_aload_n (by rfl) rfl
theorem e37_14 : zE 37 d Q 14 [l0, l1, l2, l3] (zR (some r) :: st) G h k ↔ (G.2.1 r = 4 ∧ zE 37 d Q 17 [l0, l1, l2, l3] (zR (G.2.2.2 r 6) :: st) G h k) := E_getR (by rfl) rfl
theorem e37_17 : zE 37 d Q 17 [l0, some (zI x), l2, l3] st G h k ↔ zE 37 d Q 18 [l0, some (zI x), l2, l3] (zI x :: st) G h k := E_iload_n (by rfl) rfl
theorem e37_18 : zE 37 d Q 18 [l0, l1, l2, l3] st G h k ↔ zE 37 d Q 19 [l0, l1, l2, l3] (zI 4 :: st) G h k := E_iconst (by rfl)
theorem e37_19 : zE 37 d Q 19 [l0, l1, l2, l3] (zI y :: zI x :: st) G h k ↔ zE 37 d Q 20 [l0, l1, l2, l3] (zI (wr (x * y)) :: st) G h k := E_imul (by rfl)
theorem e37_20 : zE 37 d Q 20 [l0, l1, l2, some (zI x)] st G h k ↔ zE 37 d Q 21 [l0, l1, l2, some (zI x)] (zI x :: st) G h k := E_iload_n (by rfl) rfl
theorem e37_21 : zE 37 d Q 21 [l0, l1, l2, l3] (zI y :: zI x :: st) G h k ↔ zE 37 d Q 22 [l0, l1, l2, l3] (zI (wr (x + y)) :: st) G h k := E_iadd (by rfl)
theorem e37_22 : zE 37 d Q 22 [l0, l1, l2, l3] (zI i :: zR (some r) :: st) G h k ↔ (G.2.1 r = 10 ∧ (0 ≤ i ∧ i < G.2.2.1 r) ∧ zE 37 d Q 23 [l0, l1, l2, l3] (zI (h r i.toNat) :: st) G h k) := E_iaload (by rfl)
theorem e37_23 : zE 37 d Q 23 [some (.inr (.inr w9)), l1, l2, l3] st G h k ↔ zE 37 d Q 24 [some (.inr (.inr w9)), l1, l2, l3] (.inr (.inr w9) :: st) G h k := E_aload_n (by rfl) rfl
theorem e37_24 : zE 37 d Q 24 [l0, l1, l2, l3] (zR (some r) :: st) G h k ↔ (G.2.1 r = 4 ∧ zE 37 d Q 27 [l0, l1, l2, l3] (zR (G.2.2.2 r 6) :: st) G h k) := E_getR (by rfl) rfl
theorem e37_27 : zE 37 d Q 27 [l0, l1, some (zI x), l3] st G h k ↔ zE 37 d Q 28 [l0, l1, some (zI x), l3] (zI x :: st) G h k := E_iload_n (by rfl) rfl
theorem e37_28 : zE 37 d Q 28 [l0, l1, l2, l3] st G h k ↔ zE 37 d Q 29 [l0, l1, l2, l3] (zI 4 :: st) G h k := E_iconst (by rfl)
theorem e37_29 : zE 37 d Q 29 [l0, l1, l2, l3] (zI y :: zI x :: st) G h k ↔ zE 37 d Q 30 [l0, l1, l2, l3] (zI (wr (x * y)) :: st) G h k := E_imul (by rfl)
theorem e37_30 : zE 37 d Q 30 [l0, l1, l2, some (zI x)] st G h k ↔ zE 37 d Q 31 [l0, l1, l2, some (zI x)] (zI x :: st) G h k := E_iload_n (by rfl) rfl
theorem e37_31 : zE 37 d Q 31 [l0, l1, l2, l3] (zI y :: zI x :: st) G h k ↔ zE 37 d Q 32 [l0, l1, l2, l3] (zI (wr (x + y)) :: st) G h k := E_iadd (by rfl)
theorem e37_32 : zE 37 d Q 32 [l0, l1, l2, l3] (zI i :: zR (some r) :: st) G h k ↔ (G.2.1 r = 10 ∧ (0 ≤ i ∧ i < G.2.2.1 r) ∧ zE 37 d Q 33 [l0, l1, l2, l3] (zI (h r i.toNat) :: st) G h k) := E_iaload (by rfl)
theorem e37_33 : zE 37 d Q 33 [l0, l1, l2, l3] (zI y :: zI x :: st) G h k ↔ ((x = y → zE 37 d Q 38 [l0, l1, l2, l3] st G h k) ∧ (¬ (x = y) → zE 37 d Q 36 [l0, l1, l2, l3] st G h k)) := E_icmp_eq (by rfl)
theorem e37_36 : zE 37 d Q 36 [l0, l1, l2, l3] st G h k ↔ zE 37 d Q 37 [l0, l1, l2, l3] (zI 0 :: st) G h k := E_iconst (by rfl)
theorem e37_37 : zE 37 d Q 37 [l0, l1, l2, l3] [zI x] G h k ↔ ((x = 0 ∨ x = 1) ∧ Q (some (zI x)) G h) := E_zret (by rfl) rfl
theorem e37_38 : zE 37 d Q 38 [l0, l1, l2, some (zI x)] st G h k ↔ zE 37 d Q 41 [l0, l1, (zclr l2), some (zI (wr (x + 1)))] st G h k := E_iinc (by rfl) rfl
theorem e37_41 : zE 37 d Q 41 [l0, l1, l2, l3] st G h k ↔ zE 37 d Q 2 [l0, l1, l2, l3] st G h k := E_goto (by rfl)
theorem e37_44 : zE 37 d Q 44 [l0, l1, l2, l3] st G h k ↔ zE 37 d Q 45 [l0, l1, l2, l3] (zI 1 :: st) G h k := E_iconst (by rfl)
theorem e37_45 : zE 37 d Q 45 [l0, l1, l2, l3] [zI x] G h k ↔ ((x = 0 ∨ x = 1) ∧ Q (some (zI x)) G h) := E_zret (by rfl) rfl
theorem e38_0 : zE 38 d Q 0 [some (.inr (.inr w9)), l1, l2] st G h k ↔ zE 38 d Q 1 [some (.inr (.inr w9)), l1, l2] (.inr (.inr w9) :: st) G h k := E_aload_n (by rfl) rfl
theorem e38_1 : zE 38 d Q 1 [l0, l1, l2] (zR (some r) :: st) G h k ↔ (G.2.1 r = 4 ∧ zE 38 d Q 4 [l0, l1, l2] (zR (G.2.2.2 r 4) :: st) G h k) := E_getR (by rfl) rfl
theorem e38_4 : zE 38 d Q 4 [l0, l1, some (zI x)] st G h k ↔ zE 38 d Q 5 [l0, l1, some (zI x)] (zI x :: st) G h k := E_iload_n (by rfl) rfl
theorem e38_5 : zE 38 d Q 5 [l0, l1, l2] (zI i :: zR (some r) :: st) G h k ↔ (G.2.1 r = 10 ∧ (0 ≤ i ∧ i < G.2.2.1 r) ∧ zE 38 d Q 6 [l0, l1, l2] (zI (h r i.toNat) :: st) G h k) := E_iaload (by rfl)
theorem e38_6 : zE 38 d Q 6 [l0, l1, l2] st G h k ↔ zE 38 d Q 7 [l0, l1, l2] (zI 1 :: st) G h k := E_iconst (by rfl)
theorem e38_7 : zE 38 d Q 7 [l0, l1, l2] (zI y :: zI x :: st) G h k ↔ ((x < y → zE 38 d Q 20 [l0, l1, l2] st G h k) ∧ (¬ (x < y) → zE 38 d Q 10 [l0, l1, l2] st G h k)) := E_icmp_lt (by rfl)
theorem e38_10 : zE 38 d Q 10 [some (.inr (.inr w9)), l1, l2] st G h k ↔ zE 38 d Q 11 [some (.inr (.inr w9)), l1, l2] (.inr (.inr w9) :: st) G h k := E_aload_n (by rfl) rfl
theorem e38_11 : zE 38 d Q 11 [l0, l1, l2] (zR (some r) :: st) G h k ↔ (G.2.1 r = 4 ∧ zE 38 d Q 14 [l0, l1, l2] (zR (G.2.2.2 r 3) :: st) G h k) := E_getR (by rfl) rfl
theorem e38_14 : zE 38 d Q 14 [l0, l1, some (zI x)] st G h k ↔ zE 38 d Q 15 [l0, l1, some (zI x)] (zI x :: st) G h k := E_iload_n (by rfl) rfl
theorem e38_15 : zE 38 d Q 15 [l0, l1, l2] (zI i :: zR (some r) :: st) G h k ↔ (G.2.1 r = 10 ∧ (0 ≤ i ∧ i < G.2.2.1 r) ∧ zE 38 d Q 16 [l0, l1, l2] (zI (h r i.toNat) :: st) G h k) := E_iaload (by rfl)
theorem e38_16 : zE 38 d Q 16 [l0, l1, l2] st G h k ↔ zE 38 d Q 17 [l0, l1, l2] (zI 1 :: st) G h k := E_iconst (by rfl)
theorem e38_17 : zE 38 d Q 17 [l0, l1, l2] (zI y :: zI x :: st) G h k ↔ ((y ≤ x → zE 38 d Q 22 [l0, l1, l2] st G h k) ∧ (¬ (y ≤ x) → zE 38 d Q 20 [l0, l1, l2] st G h k)) := E_icmp_ge (by rfl)
theorem e38_20 : zE 38 d Q 20 [l0, l1, l2] st G h k ↔ zE 38 d Q 21 [l0, l1, l2] (zI 0 :: st) G h k := E_iconst (by rfl)
theorem e38_21 : zE 38 d Q 21 [l0, l1, l2] [zI x] G h k ↔ Q (some (zI x)) G h := E_iret (by rfl) rfl
theorem e38_22 : zE 38 d Q 22 [l0, some (zI x), l2] st G h k ↔ zE 38 d Q 23 [l0, some (zI x), l2] (zI x :: st) G h k := E_iload_n (by rfl) rfl
theorem e38_23 : zE 38 d Q 23 [some (.inr (.inr w9)), l1, l2] st G h k ↔ zE 38 d Q 24 [some (.inr (.inr w9)), l1, l2] (.inr (.inr w9) :: st) G h k := E_aload_n (by rfl) rfl
theorem e38_24 : zE 38 d Q 24 [l0, l1, l2] (zR (some r) :: st) G h k ↔ (G.2.1 r = 4 ∧ zE 38 d Q 27 [l0, l1, l2] (zR (G.2.2.2 r 4) :: st) G h k) := E_getR (by rfl) rfl
theorem e38_27 : zE 38 d Q 27 [l0, l1, some (zI x)] st G h k ↔ zE 38 d Q 28 [l0, l1, some (zI x)] (zI x :: st) G h k := E_iload_n (by rfl) rfl
theorem e38_28 : zE 38 d Q 28 [l0, l1, l2] (zI i :: zR (some r) :: st) G h k ↔ (G.2.1 r = 10 ∧ (0 ≤ i ∧ i < G.2.2.1 r) ∧ zE 38 d Q 29 [l0, l1, l2] (zI (h r i.toNat) :: st) G h k) := E_iaload (by rfl)
theorem e38_29 : zE 38 d Q 29 [l0, l1, l2] (zI y :: zI x :: st) G h k ↔ (y ≠ 0 ∧ zE 38 d Q 30 [l0, l1, l2] (zI (wr (x.tdiv y)) :: st) G h k) := E_idiv (by rfl)
theorem e38_30 : zE 38 d Q 30 [some (.inr (.inr w9)), l1, l2] st G h k ↔ zE 38 d Q 31 [some (.inr (.inr w9)), l1, l2] (.inr (.inr w9) :: st) G h k := E_aload_n (by rfl) rfl
theorem e38_31 : zE 38 d Q 31 [l0, l1, l2] (zR (some r) :: st) G h k ↔ (G.2.1 r = 4 ∧ zE 38 d Q 34 [l0, l1, l2] (zR (G.2.2.2 r 3) :: st) G h k) := E_getR (by rfl) rfl
theorem e38_34 : zE 38 d Q 34 [l0, l1, some (zI x)] st G h k ↔ zE 38 d Q 35 [l0, l1, some (zI x)] (zI x :: st) G h k := E_iload_n (by rfl) rfl
theorem e38_35 : zE 38 d Q 35 [l0, l1, l2] (zI i :: zR (some r) :: st) G h k ↔ (G.2.1 r = 10 ∧ (0 ≤ i ∧ i < G.2.2.1 r) ∧ zE 38 d Q 36 [l0, l1, l2] (zI (h r i.toNat) :: st) G h k) := E_iaload (by rfl)
theorem e38_36 : zE 38 d Q 36 [l0, l1, l2] (zI y :: zI x :: st) G h k ↔ (y ≠ 0 ∧ zE 38 d Q 37 [l0, l1, l2] (zI (x.tmod y) :: st) G h k) := E_irem (by rfl)
theorem e38_37 : zE 38 d Q 37 [l0, l1, l2] [zI x] G h k ↔ Q (some (zI x)) G h := E_iret (by rfl) rfl
theorem e39_0 : zE 39 d Q 0 [l0, l1, l2, l3] st G h k ↔ zE 39 d Q 1 [l0, l1, l2, l3] (zI 0 :: st) G h k := E_iconst (by rfl)
theorem e39_1 : zE 39 d Q 1 [l0, l1, l2, l3] (zI x :: st) G h k ↔ zE 39 d Q 2 [l0, (zclr l1), some (zI x), l3] st G h k := E_istore_n (by rfl) (by decide)
theorem e39_2 : zE 39 d Q 2 [l0, l1, some (zI x), l3] st G h k ↔ zE 39 d Q 3 [l0, l1, some (zI x), l3] (zI x :: st) G h k := E_iload_n (by rfl) rfl
theorem e39_3 : zE 39 d Q 3 [some (.inr (.inr w9)), l1, l2, l3] st G h k ↔ zE 39 d Q 4 [some (.inr (.inr w9)), l1, l2, l3] (.inr (.inr w9) :: st) G h k := E_aload_n (by rfl) rfl
theorem e39_4 : zE 39 d Q 4 [l0, l1, l2, l3] (zR (some r) :: st) G h k ↔ (G.2.1 r = 4 ∧ zE 39 d Q 7 [l0, l1, l2, l3] (zR (G.2.2.2 r 2) :: st) G h k) := E_getR (by rfl) rfl
theorem e39_7 : zE 39 d Q 7 [l0, l1, l2, l3] (zR (some r) :: st) G h k ↔ (G.2.1 r = 5 ∧ zE 39 d Q 10 [l0, l1, l2, l3] (zI (h r 9) :: st) G h k) := E_getI (by rfl) (by decide)
theorem e39_10 : zE 39 d Q 10 [l0, l1, l2, l3] (zI y :: zI x :: st) G h k ↔ ((y ≤ x → zE 39 d Q 50 [l0, l1, l2, l3] st G h k) ∧ (¬ (y ≤ x) → zE 39 d Q 13 [l0, l1, l2, l3] st G h k)) := E_icmp_ge (by rfl)
theorem e39_13 : zE 39 d Q 13 [some (.inr (.inr w9)), l1, l2, l3] st G h k ↔ zE 39 d Q 14 [some (.inr (.inr w9)), l1, l2, l3] (.inr (.inr w9) :: st) G h k := E_aload_n (by rfl) rfl
theorem e39_14 : zE 39 d Q 14 [l0, some (zI x), l2, l3] st G h k ↔ zE 39 d Q 15 [l0, some (zI x), l2, l3] (zI x :: st) G h k := E_iload_n (by rfl) rfl
theorem e39_15 : zE 39 d Q 15 [l0, l1, some (zI x), l3] st G h k ↔ zE 39 d Q 16 [l0, l1, some (zI x), l3] (zI x :: st) G h k := E_iload_n (by rfl) rfl
theorem e39_16 : zE 39 d Q 16 [l0, l1, l2, l3] (v1 :: v0 :: zR (some r) :: st) G h k ↔ (zsum st ≤ 8 ∧ G.2.1 r = 4 ∧ zRunD ztb zmt' d 38 [zR (some r), v0, v1] G h (fun v G' h' => zE 39 d Q 19 [l0, l1, l2, l3] (v.toList ++ st) G' h' k)) := E_invV2z (by rfl) (by decide) rfl
theorem e39_19 : zE 39 d Q 19 [l0, l1, l2, l3] (zI x :: st) G h k ↔ zE 39 d Q 20 [l0, l1, (zclr l2), some (zI x)] st G h k := E_istore_n (by rfl) (by decide)
theorem e39_20 : zE 39 d Q 20 [some (.inr (.inr w9)), l1, l2, l3] st G h k ↔ zE 39 d Q 21 [some (.inr (.inr w9)), l1, l2, l3] (.inr (.inr w9) :: st) G h k := E_aload_n (by rfl) rfl
theorem e39_21 : zE 39 d Q 21 [l0, l1, l2, l3] (zR (some r) :: st) G h k ↔ (G.2.1 r = 4 ∧ zE 39 d Q 24 [l0, l1, l2, l3] (zR (G.2.2.2 r 1) :: st) G h k) := E_getR (by rfl) rfl
theorem e39_24 : zE 39 d Q 24 [l0, l1, some (zI x), l3] st G h k ↔ zE 39 d Q 25 [l0, l1, some (zI x), l3] (zI x :: st) G h k := E_iload_n (by rfl) rfl
theorem e39_25 : zE 39 d Q 25 [some (.inr (.inr w9)), l1, l2, l3] st G h k ↔ zE 39 d Q 26 [some (.inr (.inr w9)), l1, l2, l3] (.inr (.inr w9) :: st) G h k := E_aload_n (by rfl) rfl
theorem e39_26 : zE 39 d Q 26 [l0, l1, l2, l3] (zR (some r) :: st) G h k ↔ (G.2.1 r = 4 ∧ zE 39 d Q 29 [l0, l1, l2, l3] (zR (G.2.2.2 r 2) :: st) G h k) := E_getR (by rfl) rfl
theorem e39_29 : zE 39 d Q 29 [l0, l1, l2, some (zI x)] st G h k ↔ zE 39 d Q 30 [l0, l1, l2, some (zI x)] (zI x :: st) G h k := E_iload_n (by rfl) rfl
theorem e39_30 : zE 39 d Q 30 [l0, l1, l2, l3] (v0 :: zR (some r) :: st) G h k ↔ (zsum st ≤ 8 ∧ G.2.1 r = 5 ∧ zRunD ztb zmt' d 49 [zR (some r), v0] G h (fun v G' h' => zE 39 d Q 33 [l0, l1, l2, l3] (v.toList ++ st) G' h' k)) := E_invV2z (by rfl) (by decide) rfl
theorem e39_33 : zE 39 d Q 33 [some (.inr (.inr w9)), l1, l2, l3] st G h k ↔ zE 39 d Q 34 [some (.inr (.inr w9)), l1, l2, l3] (.inr (.inr w9) :: st) G h k := E_aload_n (by rfl) rfl
theorem e39_34 : zE 39 d Q 34 [l0, l1, l2, l3] (zR (some r) :: st) G h k ↔ (G.2.1 r = 4 ∧ zE 39 d Q 37 [l0, l1, l2, l3] (zR (G.2.2.2 r 2) :: st) G h k) := E_getR (by rfl) rfl
theorem e39_37 : zE 39 d Q 37 [l0, l1, l2, some (zI x)] st G h k ↔ zE 39 d Q 38 [l0, l1, l2, some (zI x)] (zI x :: st) G h k := E_iload_n (by rfl) rfl
theorem e39_38 : zE 39 d Q 38 [l0, l1, l2, l3] (v0 :: zR (some r) :: st) G h k ↔ (zsum st ≤ 8 ∧ G.2.1 r = 5 ∧ zRunD ztb zmt' d 50 [zR (some r), v0] G h (fun v G' h' => zE 39 d Q 41 [l0, l1, l2, l3] (v.toList ++ st) G' h' k)) := E_invV2z (by rfl) (by decide) rfl
theorem e39_41 : zE 39 d Q 41 [l0, l1, l2, l3] (v2 :: v1 :: v0 :: zR (some r) :: st) G h k ↔ (zsum st ≤ 8 ∧ G.2.1 r = 1 ∧ zRunD ztb zmt' d 6 [zR (some r), v0, v1, v2] G h (fun v G' h' => zE 39 d Q 44 [l0, l1, l2, l3] (v.toList ++ st) G' h' k)) := E_invV2z (by rfl) (by decide) rfl
theorem e39_44 : zE 39 d Q 44 [l0, l1, some (zI x), l3] st G h k ↔ zE 39 d Q 47 [l0, (zclr l1), some (zI (wr (x + 1))), l3] st G h k := E_iinc (by rfl) rfl
theorem e39_47 : zE 39 d Q 47 [l0, l1, l2, l3] st G h k ↔ zE 39 d Q 2 [l0, l1, l2, l3] st G h k := E_goto (by rfl)
theorem e39_50 : zE 39 d Q 50 [l0, l1, l2, l3] [] G h k ↔ Q none G h := E_vret (by rfl) rfl
theorem e40_0 : zE 40 d Q 0 [l0, some (zI x), l2, l3, l4, l5, l6, l7, l8] st G h k ↔ zE 40 d Q 1 [l0, some (zI x), l2, l3, l4, l5, l6, l7, l8] (zI x :: st) G h k := E_iload_n (by rfl) rfl
theorem e40_1 : zE 40 d Q 1 [l0, l1, l2, l3, l4, l5, l6, l7, l8] st G h k ↔ zE 40 d Q 2 [l0, l1, l2, l3, l4, l5, l6, l7, l8] (zI 1 :: st) G h k := E_iconst (by rfl)
theorem e40_2 : zE 40 d Q 2 [l0, l1, l2, l3, l4, l5, l6, l7, l8] (zI y :: zI x :: st) G h k ↔ ((x < y → zE 40 d Q 10 [l0, l1, l2, l3, l4, l5, l6, l7, l8] st G h k) ∧ (¬ (x < y) → zE 40 d Q 5 [l0, l1, l2, l3, l4, l5, l6, l7, l8] st G h k)) := E_icmp_lt (by rfl)
theorem e40_5 : zE 40 d Q 5 [l0, some (zI x), l2, l3, l4, l5, l6, l7, l8] st G h k ↔ zE 40 d Q 6 [l0, some (zI x), l2, l3, l4, l5, l6, l7, l8] (zI x :: st) G h k := E_iload_n (by rfl) rfl
theorem e40_6 : zE 40 d Q 6 [l0, l1, l2, l3, l4, l5, l6, l7, l8] st G h k ↔ zE 40 d Q 7 [l0, l1, l2, l3, l4, l5, l6, l7, l8] (zI 3 :: st) G h k := E_iconst (by rfl)
theorem e40_7 : zE 40 d Q 7 [l0, l1, l2, l3, l4, l5, l6, l7, l8] (zI y :: zI x :: st) G h k ↔ ((x ≤ y → zE 40 d Q 12 [l0, l1, l2, l3, l4, l5, l6, l7, l8] st G h k) ∧ (¬ (x ≤ y) → zE 40 d Q 10 [l0, l1, l2, l3, l4, l5, l6, l7, l8] st G h k)) := E_icmp_le (by rfl)
theorem e40_10 : zE 40 d Q 10 [l0, l1, l2, l3, l4, l5, l6, l7, l8] st G h k ↔ zE 40 d Q 11 [l0, l1, l2, l3, l4, l5, l6, l7, l8] (zI 0 :: st) G h k := E_iconst (by rfl)
theorem e40_11 : zE 40 d Q 11 [l0, l1, l2, l3, l4, l5, l6, l7, l8] [zI x] G h k ↔ Q (some (zI x)) G h := E_iret (by rfl) rfl
theorem e40_12 : zE 40 d Q 12 [l0, some (zI x), l2, l3, l4, l5, l6, l7, l8] st G h k ↔ zE 40 d Q 13 [l0, some (zI x), l2, l3, l4, l5, l6, l7, l8] (zI x :: st) G h k := E_iload_n (by rfl) rfl
theorem e40_13 : zE 40 d Q 13 [l0, l1, l2, l3, l4, l5, l6, l7, l8] st G h k ↔ zE 40 d Q 14 [l0, l1, l2, l3, l4, l5, l6, l7, l8] (zI 1 :: st) G h k := E_iconst (by rfl)
theorem e40_14 : zE 40 d Q 14 [l0, l1, l2, l3, l4, l5, l6, l7, l8] (zI y :: zI x :: st) G h k ↔ zE 40 d Q 15 [l0, l1, l2, l3, l4, l5, l6, l7, l8] (zI (wr (x - y)) :: st) G h k := E_isub (by rfl)
theorem e40_15 : zE 40 d Q 15 [some (.inr (.inr w9)), l1, l2, l3, l4, l5, l6, l7, l8] st G h k ↔ zE 40 d Q 16 [some (.inr (.inr w9)), l1, l2, l3, l4, l5, l6, l7, l8] (.inr (.inr w9) :: st) G h k := E_aload_n (by rfl) rfl
theorem e40_16 : zE 40 d Q 16 [l0, l1, l2, l3, l4, l5, l6, l7, l8] (zR (some r) :: st) G h k ↔ (G.2.1 r = 4 ∧ zE 40 d Q 19 [l0, l1, l2, l3, l4, l5, l6, l7, l8] (zI (h r 5) :: st) G h k) := E_getI (by rfl) (by decide)
theorem e40_19 : zE 40 d Q 19 [l0, l1, l2, l3, l4, l5, l6, l7, l8] (zI y :: zI x :: st) G h k ↔ zE 40 d Q 20 [l0, l1, l2, l3, l4, l5, l6, l7, l8] (zI (wr (x * y)) :: st) G h k := E_imul (by rfl)
theorem e40_20 : zE 40 d Q 20 [some (.inr (.inr w9)), l1, l2, l3, l4, l5, l6, l7, l8] st G h k ↔ zE 40 d Q 21 [some (.inr (.inr w9)), l1, l2, l3, l4, l5, l6, l7, l8] (.inr (.inr w9) :: st) G h k := E_aload_n (by rfl) rfl
theorem e40_21 : zE 40 d Q 21 [l0, l1, l2, l3, l4, l5, l6, l7, l8] (zR (some r) :: st) G h k ↔ (G.2.1 r = 4 ∧ zE 40 d Q 24 [l0, l1, l2, l3, l4, l5, l6, l7, l8] (zR (G.2.2.2 r 2) :: st) G h k) := E_getR (by rfl) rfl
theorem e40_24 : zE 40 d Q 24 [l0, l1, l2, l3, l4, l5, l6, l7, l8] (zR (some r) :: st) G h k ↔ (G.2.1 r = 5 ∧ zE 40 d Q 27 [l0, l1, l2, l3, l4, l5, l6, l7, l8] (zI (h r 9) :: st) G h k) := E_getI (by rfl) (by decide)
theorem e40_27 : zE 40 d Q 27 [l0, l1, l2, l3, l4, l5, l6, l7, l8] (zI y :: zI x :: st) G h k ↔ zE 40 d Q 28 [l0, l1, l2, l3, l4, l5, l6, l7, l8] (zI (wr (x * y)) :: st) G h k := E_imul (by rfl)
theorem e40_28 : zE 40 d Q 28 [l0, l1, l2, l3, l4, l5, l6, l7, l8] (zI x :: st) G h k ↔ zE 40 d Q 29 [l0, (zclr l1), some (zI x), l3, l4, l5, l6, l7, l8] st G h k := E_istore_n (by rfl) (by decide)
theorem e40_29 : zE 40 d Q 29 [l0, l1, l2, l3, l4, l5, l6, l7, l8] st G h k ↔ zE 40 d Q 30 [l0, l1, l2, l3, l4, l5, l6, l7, l8] (zI 0 :: st) G h k := E_iconst (by rfl)
theorem e40_30 : zE 40 d Q 30 [l0, l1, l2, l3, l4, l5, l6, l7, l8] (zI x :: st) G h k ↔ zE 40 d Q 31 [l0, l1, (zclr l2), some (zI x), l4, l5, l6, l7, l8] st G h k := E_istore_n (by rfl) (by decide)
theorem e40_31 : zE 40 d Q 31 [l0, l1, l2, some (zI x), l4, l5, l6, l7, l8] st G h k ↔ zE 40 d Q 32 [l0, l1, l2, some (zI x), l4, l5, l6, l7, l8] (zI x :: st) G h k := E_iload_n (by rfl) rfl
theorem e40_32 : zE 40 d Q 32 [some (.inr (.inr w9)), l1, l2, l3, l4, l5, l6, l7, l8] st G h k ↔ zE 40 d Q 33 [some (.inr (.inr w9)), l1, l2, l3, l4, l5, l6, l7, l8] (.inr (.inr w9) :: st) G h k := E_aload_n (by rfl) rfl
theorem e40_33 : zE 40 d Q 33 [l0, l1, l2, l3, l4, l5, l6, l7, l8] (zR (some r) :: st) G h k ↔ (G.2.1 r = 4 ∧ zE 40 d Q 36 [l0, l1, l2, l3, l4, l5, l6, l7, l8] (zI (h r 5) :: st) G h k) := E_getI (by rfl) (by decide)
theorem e40_36 : zE 40 d Q 36 [l0, l1, l2, l3, l4, l5, l6, l7, l8] (zI y :: zI x :: st) G h k ↔ ((y ≤ x → zE 40 d Q 52 [l0, l1, l2, l3, l4, l5, l6, l7, l8] st G h k) ∧ (¬ (y ≤ x) → zE 40 d Q 39 [l0, l1, l2, l3, l4, l5, l6, l7, l8] st G h k)) := E_icmp_ge (by rfl)
theorem e40_39 : zE 40 d Q 39 [some (.inr (.inr w9)), l1, l2, l3, l4, l5, l6, l7, l8] st G h k ↔ zE 40 d Q 40 [some (.inr (.inr w9)), l1, l2, l3, l4, l5, l6, l7, l8] (.inr (.inr w9) :: st) G h k := E_aload_n (by rfl) rfl
theorem e40_40 : zE 40 d Q 40 [l0, l1, l2, some (zI x), l4, l5, l6, l7, l8] st G h k ↔ zE 40 d Q 41 [l0, l1, l2, some (zI x), l4, l5, l6, l7, l8] (zI x :: st) G h k := E_iload_n (by rfl) rfl
theorem e40_41 : zE 40 d Q 41 [l0, some (zI x), l2, l3, l4, l5, l6, l7, l8] st G h k ↔ zE 40 d Q 42 [l0, some (zI x), l2, l3, l4, l5, l6, l7, l8] (zI x :: st) G h k := E_iload_n (by rfl) rfl
theorem e40_42 : zE 40 d Q 42 [l0, l1, some (zI x), l3, l4, l5, l6, l7, l8] st G h k ↔ zE 40 d Q 43 [l0, l1, some (zI x), l3, l4, l5, l6, l7, l8] (zI x :: st) G h k := E_iload_n (by rfl) rfl
theorem e40_43 : zE 40 d Q 43 [l0, l1, l2, l3, l4, l5, l6, l7, l8] (v2 :: v1 :: v0 :: zR (some r) :: st) G h k ↔ (zsum st ≤ 8 ∧ G.2.1 r = 4 ∧ zRunD ztb zmt' d 41 [zR (some r), v0, v1, v2] G h (fun v G' h' => zE 40 d Q 46 [l0, l1, l2, l3, l4, l5, l6, l7, l8] (v.toList ++ st) G' h' k)) := E_invV2z (by rfl) (by decide) rfl
theorem e40_46 : zE 40 d Q 46 [l0, l1, l2, some (zI x), l4, l5, l6, l7, l8] st G h k ↔ zE 40 d Q 49 [l0, l1, (zclr l2), some (zI (wr (x + 1))), l4, l5, l6, l7, l8] st G h k := E_iinc (by rfl) rfl
theorem e40_49 : zE 40 d Q 49 [l0, l1, l2, l3, l4, l5, l6, l7, l8] st G h k ↔ zE 40 d Q 31 [l0, l1, l2, l3, l4, l5, l6, l7, l8] st G h k := E_goto (by rfl)
theorem e40_52 : zE 40 d Q 52 [l0, l1, l2, l3, l4, l5, l6, l7, l8] st G h k ↔ zE 40 d Q 53 [l0, l1, l2, l3, l4, l5, l6, l7, l8] (zI 0 :: st) G h k := E_iconst (by rfl)
theorem e40_53 : zE 40 d Q 53 [l0, l1, l2, l3, l4, l5, l6, l7, l8] (zI x :: st) G h k ↔ zE 40 d Q 54 [l0, l1, (zclr l2), some (zI x), l4, l5, l6, l7, l8] st G h k := E_istore_n (by rfl) (by decide)
theorem e40_54 : zE 40 d Q 54 [some (.inr (.inr w9)), l1, l2, l3, l4, l5, l6, l7, l8] st G h k ↔ zE 40 d Q 55 [some (.inr (.inr w9)), l1, l2, l3, l4, l5, l6, l7, l8] (.inr (.inr w9) :: st) G h k := E_aload_n (by rfl) rfl
theorem e40_55 : zE 40 d Q 55 [l0, l1, l2, l3, l4, l5, l6, l7, l8] st G h k ↔ zE 40 d Q 56 [l0, l1, l2, l3, l4, l5, l6, l7, l8] (zI 0 :: st) G h k := E_iconst (by rfl)
theorem e40_56 : zE 40 d Q 56 [l0, l1, some (zI x), l3, l4, l5, l6, l7, l8] st G h k ↔ zE 40 d Q 57 [l0, l1, some (zI x), l3, l4, l5, l6, l7, l8] (zI x :: st) G h k := E_iload_n (by rfl) rfl
theorem e40_57 : zE 40 d Q 57 [l0, l1, l2, l3, l4, l5, l6, l7, l8] st G h k ↔ zE 40 d Q 60 [l0, l1, l2, l3, l4, l5, l6, l7, l8] (zL (-9223372036854775808) :: st) G h k := E_ldc2_w (by rfl)
theorem e40_60 : zE 40 d Q 60 [l0, l1, l2, l3, l4, l5, l6, l7, l8] (v2 :: v1 :: v0 :: zR (some r) :: st) G h k ↔ (zsum st ≤ 8 ∧ G.2.1 r = 4 ∧ zRunD ztb zmt' d 42 [zR (some r), v0, v1, v2] G h (fun v G' h' => zE 40 d Q 63 [l0, l1, l2, l3, l4, l5, l6, l7, l8] (v.toList ++ st) G' h' k)) := E_invV2z (by rfl) (by decide) rfl
theorem e40_63 : zE 40 d Q 63 [l0, l1, l2, l3, l4, l5, l6, l7, l8] (zL x :: st) G h k ↔ zE 40 d Q 65 [l0, l1, l2, (zclr l3), some (zL x), none, l6, l7, l8] st G h k := E_lstore (by rfl) (by decide)
theorem e40_65 : zE 40 d Q 65 [l0, l1, l2, l3, l4, l5, l6, l7, l8] st G h k ↔ zE 40 d Q 66 [l0, l1, l2, l3, l4, l5, l6, l7, l8] (zI 1 :: st) G h k := E_iconst (by rfl)
theorem e40_66 : zE 40 d Q 66 [l0, l1, l2, l3, l4, l5, l6, l7, l8] (zI x :: st) G h k ↔ zE 40 d Q 68 [l0, l1, l2, l3, l4, (zclr l5), some (zI x), l7, l8] st G h k := E_istore (by rfl) (by decide)
theorem e40_68 : zE 40 d Q 68 [l0, l1, l2, l3, l4, l5, some (zI x), l7, l8] st G h k ↔ zE 40 d Q 70 [l0, l1, l2, l3, l4, l5, some (zI x), l7, l8] (zI x :: st) G h k := E_iload (by rfl) rfl
theorem e40_70 : zE 40 d Q 70 [some (.inr (.inr w9)), l1, l2, l3, l4, l5, l6, l7, l8] st G h k ↔ zE 40 d Q 71 [some (.inr (.inr w9)), l1, l2, l3, l4, l5, l6, l7, l8] (.inr (.inr w9) :: st) G h k := E_aload_n (by rfl) rfl
theorem e40_71 : zE 40 d Q 71 [l0, l1, l2, l3, l4, l5, l6, l7, l8] (zR (some r) :: st) G h k ↔ (G.2.1 r = 4 ∧ zE 40 d Q 74 [l0, l1, l2, l3, l4, l5, l6, l7, l8] (zI (h r 5) :: st) G h k) := E_getI (by rfl) (by decide)
theorem e40_74 : zE 40 d Q 74 [l0, l1, l2, l3, l4, l5, l6, l7, l8] (zI y :: zI x :: st) G h k ↔ ((y ≤ x → zE 40 d Q 116 [l0, l1, l2, l3, l4, l5, l6, l7, l8] st G h k) ∧ (¬ (y ≤ x) → zE 40 d Q 77 [l0, l1, l2, l3, l4, l5, l6, l7, l8] st G h k)) := E_icmp_ge (by rfl)
theorem e40_77 : zE 40 d Q 77 [l0, l1, l2, l3, some (zL x), l5, l6, l7, l8] st G h k ↔ zE 40 d Q 79 [l0, l1, l2, l3, some (zL x), l5, l6, l7, l8] (zL x :: st) G h k := E_lload (by rfl) rfl
theorem e40_79 : zE 40 d Q 79 [l0, l1, l2, l3, l4, l5, l6, l7, l8] st G h k ↔ zE 40 d Q 80 [l0, l1, l2, l3, l4, l5, l6, l7, l8] (zL 0 :: st) G h k := E_lconst (by rfl)
theorem e40_80 : zE 40 d Q 80 [l0, l1, l2, l3, l4, l5, l6, l7, l8] (zL y :: zL x :: st) G h k ↔ zE 40 d Q 81 [l0, l1, l2, l3, l4, l5, l6, l7, l8] (zI (zlc x y) :: st) G h k := E_lcmp (by rfl)
theorem e40_81 : zE 40 d Q 81 [l0, l1, l2, l3, l4, l5, l6, l7, l8] (zI x :: st) G h k ↔ ((x ≤ 0 → zE 40 d Q 116 [l0, l1, l2, l3, l4, l5, l6, l7, l8] st G h k) ∧ (¬ (x ≤ 0) → zE 40 d Q 84 [l0, l1, l2, l3, l4, l5, l6, l7, l8] st G h k)) := E_if_le (by rfl)
theorem e40_84 : zE 40 d Q 84 [some (.inr (.inr w9)), l1, l2, l3, l4, l5, l6, l7, l8] st G h k ↔ zE 40 d Q 85 [some (.inr (.inr w9)), l1, l2, l3, l4, l5, l6, l7, l8] (.inr (.inr w9) :: st) G h k := E_aload_n (by rfl) rfl
theorem e40_85 : zE 40 d Q 85 [l0, l1, l2, l3, l4, l5, some (zI x), l7, l8] st G h k ↔ zE 40 d Q 87 [l0, l1, l2, l3, l4, l5, some (zI x), l7, l8] (zI x :: st) G h k := E_iload (by rfl) rfl
theorem e40_87 : zE 40 d Q 87 [l0, l1, some (zI x), l3, l4, l5, l6, l7, l8] st G h k ↔ zE 40 d Q 88 [l0, l1, some (zI x), l3, l4, l5, l6, l7, l8] (zI x :: st) G h k := E_iload_n (by rfl) rfl
theorem e40_88 : zE 40 d Q 88 [l0, l1, l2, l3, some (zL x), l5, l6, l7, l8] st G h k ↔ zE 40 d Q 90 [l0, l1, l2, l3, some (zL x), l5, l6, l7, l8] (zL x :: st) G h k := E_lload (by rfl) rfl
theorem e40_90 : zE 40 d Q 90 [l0, l1, l2, l3, l4, l5, l6, l7, l8] (v2 :: v1 :: v0 :: zR (some r) :: st) G h k ↔ (zsum st ≤ 8 ∧ G.2.1 r = 4 ∧ zRunD ztb zmt' d 42 [zR (some r), v0, v1, v2] G h (fun v G' h' => zE 40 d Q 93 [l0, l1, l2, l3, l4, l5, l6, l7, l8] (v.toList ++ st) G' h' k)) := E_invV2z (by rfl) (by decide) rfl
theorem e40_93 : zE 40 d Q 93 [l0, l1, l2, l3, l4, l5, l6, l7, l8] (zL x :: st) G h k ↔ zE 40 d Q 95 [l0, l1, l2, l3, l4, l5, (zclr l6), some (zL x), none] st G h k := E_lstore (by rfl) (by decide)
theorem e40_95 : zE 40 d Q 95 [l0, l1, l2, l3, l4, l5, l6, some (zL x), l8] st G h k ↔ zE 40 d Q 97 [l0, l1, l2, l3, l4, l5, l6, some (zL x), l8] (zL x :: st) G h k := E_lload (by rfl) rfl
theorem e40_97 : zE 40 d Q 97 [l0, l1, l2, l3, some (zL x), l5, l6, l7, l8] st G h k ↔ zE 40 d Q 99 [l0, l1, l2, l3, some (zL x), l5, l6, l7, l8] (zL x :: st) G h k := E_lload (by rfl) rfl
theorem e40_99 : zE 40 d Q 99 [l0, l1, l2, l3, l4, l5, l6, l7, l8] (zL y :: zL x :: st) G h k ↔ zE 40 d Q 100 [l0, l1, l2, l3, l4, l5, l6, l7, l8] (zI (zlc x y) :: st) G h k := E_lcmp (by rfl)
theorem e40_100 : zE 40 d Q 100 [l0, l1, l2, l3, l4, l5, l6, l7, l8] (zI x :: st) G h k ↔ ((0 ≤ x → zE 40 d Q 110 [l0, l1, l2, l3, l4, l5, l6, l7, l8] st G h k) ∧ (¬ (0 ≤ x) → zE 40 d Q 103 [l0, l1, l2, l3, l4, l5, l6, l7, l8] st G h k)) := E_if_ge (by rfl)
theorem e40_103 : zE 40 d Q 103 [l0, l1, l2, l3, l4, l5, l6, some (zL x), l8] st G h k ↔ zE 40 d Q 105 [l0, l1, l2, l3, l4, l5, l6, some (zL x), l8] (zL x :: st) G h k := E_lload (by rfl) rfl
theorem e40_105 : zE 40 d Q 105 [l0, l1, l2, l3, l4, l5, l6, l7, l8] (zL x :: st) G h k ↔ zE 40 d Q 107 [l0, l1, l2, (zclr l3), some (zL x), none, l6, l7, l8] st G h k := E_lstore (by rfl) (by decide)
theorem e40_107 : zE 40 d Q 107 [l0, l1, l2, l3, l4, l5, some (zI x), l7, l8] st G h k ↔ zE 40 d Q 109 [l0, l1, l2, l3, l4, l5, some (zI x), l7, l8] (zI x :: st) G h k := E_iload (by rfl) rfl
theorem e40_109 : zE 40 d Q 109 [l0, l1, l2, l3, l4, l5, l6, l7, l8] (zI x :: st) G h k ↔ zE 40 d Q 110 [l0, l1, (zclr l2), some (zI x), l4, l5, l6, l7, l8] st G h k := E_istore_n (by rfl) (by decide)
theorem e40_110 : zE 40 d Q 110 [l0, l1, l2, l3, l4, l5, some (zI x), l7, l8] st G h k ↔ zE 40 d Q 113 [l0, l1, l2, l3, l4, (zclr l5), some (zI (wr (x + 1))), l7, l8] st G h k := E_iinc (by rfl) rfl
theorem e40_113 : zE 40 d Q 113 [l0, l1, l2, l3, l4, l5, l6, l7, l8] st G h k ↔ zE 40 d Q 68 [l0, l1, l2, l3, l4, l5, l6, l7, l8] st G h k := E_goto (by rfl)
theorem e40_116 : zE 40 d Q 116 [l0, l1, l2, l3, some (zL x), l5, l6, l7, l8] st G h k ↔ zE 40 d Q 118 [l0, l1, l2, l3, some (zL x), l5, l6, l7, l8] (zL x :: st) G h k := E_lload (by rfl) rfl
theorem e40_118 : zE 40 d Q 118 [l0, l1, l2, l3, l4, l5, l6, l7, l8] st G h k ↔ zE 40 d Q 119 [l0, l1, l2, l3, l4, l5, l6, l7, l8] (zL 0 :: st) G h k := E_lconst (by rfl)
theorem e40_119 : zE 40 d Q 119 [l0, l1, l2, l3, l4, l5, l6, l7, l8] (zL y :: zL x :: st) G h k ↔ zE 40 d Q 120 [l0, l1, l2, l3, l4, l5, l6, l7, l8] (zI (zlc x y) :: st) G h k := E_lcmp (by rfl)
theorem e40_120 : zE 40 d Q 120 [l0, l1, l2, l3, l4, l5, l6, l7, l8] (zI x :: st) G h k ↔ ((x ≤ 0 → zE 40 d Q 128 [l0, l1, l2, l3, l4, l5, l6, l7, l8] st G h k) ∧ (¬ (x ≤ 0) → zE 40 d Q 123 [l0, l1, l2, l3, l4, l5, l6, l7, l8] st G h k)) := E_if_le (by rfl)
theorem e40_123 : zE 40 d Q 123 [some (.inr (.inr w9)), l1, l2, l3, l4, l5, l6, l7, l8] st G h k ↔ zE 40 d Q 124 [some (.inr (.inr w9)), l1, l2, l3, l4, l5, l6, l7, l8] (.inr (.inr w9) :: st) G h k := E_aload_n (by rfl) rfl
theorem e40_124 : zE 40 d Q 124 [l0, l1, l2, l3, l4, l5, l6, l7, l8] st G h k ↔ zE 40 d Q 125 [l0, l1, l2, l3, l4, l5, l6, l7, l8] (zI 1 :: st) G h k := E_iconst (by rfl)
theorem e40_125 : zE 40 d Q 125 [l0, l1, l2, l3, l4, l5, l6, l7, l8] (zI x :: zR (some r) :: st) G h k ↔ (G.2.1 r = 4 ∧ (x = 0 ∨ x = 1) ∧ zE 40 d Q 128 [l0, l1, l2, l3, l4, l5, l6, l7, l8] st G (zu h r 14 x) k) := E_putZ (by rfl) rfl
theorem e40_128 : zE 40 d Q 128 [some (.inr (.inr w9)), l1, l2, l3, l4, l5, l6, l7, l8] st G h k ↔ zE 40 d Q 129 [some (.inr (.inr w9)), l1, l2, l3, l4, l5, l6, l7, l8] (.inr (.inr w9) :: st) G h k := E_aload_n (by rfl) rfl
theorem e40_129 : zE 40 d Q 129 [l0, l1, l2, l3, l4, l5, l6, l7, l8] (zR (some r) :: st) G h k ↔ (G.2.1 r = 4 ∧ zE 40 d Q 132 [l0, l1, l2, l3, l4, l5, l6, l7, l8] (zR (G.2.2.2 r 8) :: st) G h k) := E_getR (by rfl) rfl
theorem e40_132 : zE 40 d Q 132 [l0, l1, some (zI x), l3, l4, l5, l6, l7, l8] st G h k ↔ zE 40 d Q 133 [l0, l1, some (zI x), l3, l4, l5, l6, l7, l8] (zI x :: st) G h k := E_iload_n (by rfl) rfl
theorem e40_133 : zE 40 d Q 133 [l0, l1, l2, some (zI x), l4, l5, l6, l7, l8] st G h k ↔ zE 40 d Q 134 [l0, l1, l2, some (zI x), l4, l5, l6, l7, l8] (zI x :: st) G h k := E_iload_n (by rfl) rfl
theorem e40_134 : zE 40 d Q 134 [some (.inr (.inr w9)), l1, l2, l3, l4, l5, l6, l7, l8] st G h k ↔ zE 40 d Q 135 [some (.inr (.inr w9)), l1, l2, l3, l4, l5, l6, l7, l8] (.inr (.inr w9) :: st) G h k := E_aload_n (by rfl) rfl
theorem e40_135 : zE 40 d Q 135 [l0, l1, l2, l3, l4, l5, l6, l7, l8] (zR (some r) :: st) G h k ↔ (G.2.1 r = 4 ∧ zE 40 d Q 138 [l0, l1, l2, l3, l4, l5, l6, l7, l8] (zR (G.2.2.2 r 2) :: st) G h k) := E_getR (by rfl) rfl
theorem e40_138 : zE 40 d Q 138 [l0, l1, l2, l3, l4, l5, l6, l7, l8] (zR (some r) :: st) G h k ↔ (G.2.1 r = 5 ∧ zE 40 d Q 141 [l0, l1, l2, l3, l4, l5, l6, l7, l8] (zI (h r 9) :: st) G h k) := E_getI (by rfl) (by decide)
theorem e40_141 : zE 40 d Q 141 [l0, l1, l2, l3, l4, l5, l6, l7, l8] (zI y :: zI x :: st) G h k ↔ zE 40 d Q 142 [l0, l1, l2, l3, l4, l5, l6, l7, l8] (zI (wr (x * y)) :: st) G h k := E_imul (by rfl)
theorem e40_142 : zE 40 d Q 142 [l0, l1, l2, l3, l4, l5, l6, l7, l8] (zI y :: zI x :: st) G h k ↔ zE 40 d Q 143 [l0, l1, l2, l3, l4, l5, l6, l7, l8] (zI (wr (x + y)) :: st) G h k := E_iadd (by rfl)
theorem e40_143 : zE 40 d Q 143 [some (.inr (.inr w9)), l1, l2, l3, l4, l5, l6, l7, l8] st G h k ↔ zE 40 d Q 144 [some (.inr (.inr w9)), l1, l2, l3, l4, l5, l6, l7, l8] (.inr (.inr w9) :: st) G h k := E_aload_n (by rfl) rfl
theorem e40_144 : zE 40 d Q 144 [l0, l1, l2, l3, l4, l5, l6, l7, l8] (zR (some r) :: st) G h k ↔ (G.2.1 r = 4 ∧ zE 40 d Q 147 [l0, l1, l2, l3, l4, l5, l6, l7, l8] (zR (G.2.2.2 r 11) :: st) G h k) := E_getR (by rfl) rfl
theorem e40_147 : zE 40 d Q 147 [l0, some (zI x), l2, l3, l4, l5, l6, l7, l8] st G h k ↔ zE 40 d Q 148 [l0, some (zI x), l2, l3, l4, l5, l6, l7, l8] (zI x :: st) G h k := E_iload_n (by rfl) rfl
theorem e40_148 : zE 40 d Q 148 [l0, l1, l2, l3, l4, l5, l6, l7, l8] (zI i :: zR (some r) :: st) G h k ↔ (G.2.1 r = 15 ∧ (0 ≤ i ∧ i < G.2.2.1 r) ∧ zE 40 d Q 149 [l0, l1, l2, l3, l4, l5, l6, l7, l8] (zR (G.2.2.2 r i.toNat) :: st) G h k) := E_aaload (by rfl) (by decide)
theorem e40_149 : zE 40 d Q 149 [l0, l1, l2, l3, l4, l5, l6, l7, l8] st G h k ↔ zE 40 d Q 150 [l0, l1, l2, l3, l4, l5, l6, l7, l8] (zI 0 :: st) G h k := E_iconst (by rfl)
theorem e40_150 : zE 40 d Q 150 [some (.inr (.inr w9)), l1, l2, l3, l4, l5, l6, l7, l8] st G h k ↔ zE 40 d Q 151 [some (.inr (.inr w9)), l1, l2, l3, l4, l5, l6, l7, l8] (.inr (.inr w9) :: st) G h k := E_aload_n (by rfl) rfl
theorem e40_151 : zE 40 d Q 151 [l0, l1, l2, l3, l4, l5, l6, l7, l8] (zR (some r) :: st) G h k ↔ (G.2.1 r = 4 ∧ zE 40 d Q 154 [l0, l1, l2, l3, l4, l5, l6, l7, l8] (zR (G.2.2.2 r 2) :: st) G h k) := E_getR (by rfl) rfl
theorem e40_154 : zE 40 d Q 154 [l0, l1, l2, l3, l4, l5, l6, l7, l8] (zR (some r) :: st) G h k ↔ (G.2.1 r = 5 ∧ zE 40 d Q 157 [l0, l1, l2, l3, l4, l5, l6, l7, l8] (zI (h r 9) :: st) G h k) := E_getI (by rfl) (by decide)
theorem e40_157 : zE 40 d Q 157 [l0, l1, l2, l3, l4, l5, l6, l7, l8] (zI i :: zI y :: zR (some r2) :: zI x :: zR (some r1) :: st) G h k ↔ (zsum st ≤ 8 ∧ G.2.1 r1 = 11 ∧ G.2.1 r2 = 11 ∧ 0 ≤ x ∧ 0 ≤ y ∧ 0 ≤ i ∧ x + i ≤ G.2.2.1 r1 ∧ y + i ≤ G.2.2.1 r2 ∧ zE 40 d Q 160 [l0, l1, l2, l3, l4, l5, l6, l7, l8] st G (zcp h r1 x.toNat r2 y.toNat i.toNat) k) := E_copy2 (by rfl) rfl (by decide)
theorem e40_160 : zE 40 d Q 160 [l0, l1, l2, some (zI x), l4, l5, l6, l7, l8] st G h k ↔ zE 40 d Q 161 [l0, l1, l2, some (zI x), l4, l5, l6, l7, l8] (zI x :: st) G h k := E_iload_n (by rfl) rfl
theorem e40_161 : zE 40 d Q 161 [l0, l1, l2, l3, l4, l5, l6, l7, l8] [zI x] G h k ↔ Q (some (zI x)) G h := E_iret (by rfl) rfl
theorem e41_0 : zE 41 d Q 0 [l0, l1, l2, some (zI x), l4, l5] st G h k ↔ zE 41 d Q 1 [l0, l1, l2, some (zI x), l4, l5] (zI x :: st) G h k := E_iload_n (by rfl) rfl
theorem e41_1 : zE 41 d Q 1 [l0, some (zI x), l2, l3, l4, l5] st G h k ↔ zE 41 d Q 2 [l0, some (zI x), l2, l3, l4, l5] (zI x :: st) G h k := E_iload_n (by rfl) rfl
theorem e41_2 : zE 41 d Q 2 [some (.inr (.inr w9)), l1, l2, l3, l4, l5] st G h k ↔ zE 41 d Q 3 [some (.inr (.inr w9)), l1, l2, l3, l4, l5] (.inr (.inr w9) :: st) G h k := E_aload_n (by rfl) rfl
theorem e41_3 : zE 41 d Q 3 [l0, l1, l2, l3, l4, l5] (zR (some r) :: st) G h k ↔ (G.2.1 r = 4 ∧ zE 41 d Q 6 [l0, l1, l2, l3, l4, l5] (zR (G.2.2.2 r 2) :: st) G h k) := E_getR (by rfl) rfl
theorem e41_6 : zE 41 d Q 6 [l0, l1, l2, l3, l4, l5] (zR (some r) :: st) G h k ↔ (G.2.1 r = 5 ∧ zE 41 d Q 9 [l0, l1, l2, l3, l4, l5] (zI (h r 9) :: st) G h k) := E_getI (by rfl) (by decide)
theorem e41_9 : zE 41 d Q 9 [l0, l1, l2, l3, l4, l5] (zI y :: zI x :: st) G h k ↔ zE 41 d Q 10 [l0, l1, l2, l3, l4, l5] (zI (wr (x * y)) :: st) G h k := E_imul (by rfl)
theorem e41_10 : zE 41 d Q 10 [l0, l1, l2, l3, l4, l5] (zI y :: zI x :: st) G h k ↔ zE 41 d Q 11 [l0, l1, l2, l3, l4, l5] (zI (wr (x + y)) :: st) G h k := E_iadd (by rfl)
theorem e41_11 : zE 41 d Q 11 [l0, l1, l2, l3, l4, l5] (zI x :: st) G h k ↔ zE 41 d Q 13 [l0, l1, l2, (zclr l3), some (zI x), l5] st G h k := E_istore (by rfl) (by decide)
theorem e41_13 : zE 41 d Q 13 [some (.inr (.inr w9)), l1, l2, l3, l4, l5] st G h k ↔ zE 41 d Q 14 [some (.inr (.inr w9)), l1, l2, l3, l4, l5] (.inr (.inr w9) :: st) G h k := E_aload_n (by rfl) rfl
theorem e41_14 : zE 41 d Q 14 [l0, some (zI x), l2, l3, l4, l5] st G h k ↔ zE 41 d Q 15 [l0, some (zI x), l2, l3, l4, l5] (zI x :: st) G h k := E_iload_n (by rfl) rfl
theorem e41_15 : zE 41 d Q 15 [l0, l1, l2, l3, l4, l5] (v0 :: zR (some r) :: st) G h k ↔ (zsum st ≤ 8 ∧ G.2.1 r = 4 ∧ zRunD ztb zmt' d 39 [zR (some r), v0] G h (fun v G' h' => zE 41 d Q 18 [l0, l1, l2, l3, l4, l5] (v.toList ++ st) G' h' k)) := E_invV2z (by rfl) (by decide) rfl
theorem e41_18 : zE 41 d Q 18 [some (.inr (.inr w9)), l1, l2, l3, l4, l5] st G h k ↔ zE 41 d Q 19 [some (.inr (.inr w9)), l1, l2, l3, l4, l5] (.inr (.inr w9) :: st) G h k := E_aload_n (by rfl) rfl
theorem e41_19 : zE 41 d Q 19 [l0, l1, l2, l3, l4, l5] (zR (some r) :: st) G h k ↔ (G.2.1 r = 4 ∧ zE 41 d Q 22 [l0, l1, l2, l3, l4, l5] (zR (G.2.2.2 r 0) :: st) G h k) := E_getR (by rfl) rfl
theorem e41_22 : zE 41 d Q 22 [some (.inr (.inr w9)), l1, l2, l3, l4, l5] st G h k ↔ zE 41 d Q 23 [some (.inr (.inr w9)), l1, l2, l3, l4, l5] (.inr (.inr w9) :: st) G h k := E_aload_n (by rfl) rfl
theorem e41_23 : zE 41 d Q 23 [l0, l1, l2, l3, l4, l5] (zR (some r) :: st) G h k ↔ (G.2.1 r = 4 ∧ zE 41 d Q 26 [l0, l1, l2, l3, l4, l5] (zR (G.2.2.2 r 10) :: st) G h k) := E_getR (by rfl) rfl
theorem e41_26 : zE 41 d Q 26 [l0, l1, some (zI x), l3, l4, l5] st G h k ↔ zE 41 d Q 27 [l0, l1, some (zI x), l3, l4, l5] (zI x :: st) G h k := E_iload_n (by rfl) rfl
theorem e41_27 : zE 41 d Q 27 [l0, l1, l2, l3, l4, l5] (zI i :: zR (some r) :: st) G h k ↔ (G.2.1 r = 14 ∧ (0 ≤ i ∧ i < G.2.2.1 r) ∧ zE 41 d Q 28 [l0, l1, l2, l3, l4, l5] (zR (G.2.2.2 r i.toNat) :: st) G h k) := E_aaload (by rfl) (by decide)
theorem e41_28 : zE 41 d Q 28 [l0, l1, l2, l3, l4, l5] st G h k ↔ zE 41 d Q 29 [l0, l1, l2, l3, l4, l5] (zI 0 :: st) G h k := E_iconst (by rfl)
theorem e41_29 : zE 41 d Q 29 [some (.inr (.inr w9)), l1, l2, l3, l4, l5] st G h k ↔ zE 41 d Q 30 [some (.inr (.inr w9)), l1, l2, l3, l4, l5] (.inr (.inr w9) :: st) G h k := E_aload_n (by rfl) rfl
theorem e41_30 : zE 41 d Q 30 [l0, l1, l2, l3, l4, l5] (zR (some r) :: st) G h k ↔ (G.2.1 r = 4 ∧ zE 41 d Q 33 [l0, l1, l2, l3, l4, l5] (zR (G.2.2.2 r 6) :: st) G h k) := E_getR (by rfl) rfl
theorem e41_33 : zE 41 d Q 33 [l0, some (zI x), l2, l3, l4, l5] st G h k ↔ zE 41 d Q 34 [l0, some (zI x), l2, l3, l4, l5] (zI x :: st) G h k := E_iload_n (by rfl) rfl
theorem e41_34 : zE 41 d Q 34 [l0, l1, l2, l3, l4, l5] st G h k ↔ zE 41 d Q 35 [l0, l1, l2, l3, l4, l5] (zI 4 :: st) G h k := E_iconst (by rfl)
theorem e41_35 : zE 41 d Q 35 [l0, l1, l2, l3, l4, l5] (zI y :: zI x :: st) G h k ↔ zE 41 d Q 36 [l0, l1, l2, l3, l4, l5] (zI (wr (x * y)) :: st) G h k := E_imul (by rfl)
theorem e41_36 : zE 41 d Q 36 [l0, l1, l2, l3, l4, l5] (v3 :: v2 :: v1 :: v0 :: zR (some r) :: st) G h k ↔ (zsum st ≤ 8 ∧ G.2.1 r = 6 ∧ zRunD ztb zmt' d 55 [zR (some r), v0, v1, v2, v3] G h (fun v G' h' => zE 41 d Q 39 [l0, l1, l2, l3, l4, l5] (v.toList ++ st) G' h' k)) := E_invV2z (by rfl) (by decide) rfl
theorem e41_39 : zE 41 d Q 39 [some (.inr (.inr w9)), l1, l2, l3, l4, l5] st G h k ↔ zE 41 d Q 40 [some (.inr (.inr w9)), l1, l2, l3, l4, l5] (.inr (.inr w9) :: st) G h k := E_aload_n (by rfl) rfl
theorem e41_40 : zE 41 d Q 40 [l0, l1, l2, l3, l4, l5] (zR (some r) :: st) G h k ↔ (G.2.1 r = 4 ∧ zE 41 d Q 43 [l0, l1, l2, l3, l4, l5] (zR (G.2.2.2 r 0) :: st) G h k) := E_getR (by rfl) rfl
theorem e41_43 : zE 41 d Q 43 [l0, l1, l2, l3, l4, l5] (zR (some r) :: st) G h k ↔ (G.2.1 r = 6 ∧ zE 41 d Q 46 [l0, l1, l2, l3, l4, l5] (zR (G.2.2.2 r 5) :: st) G h k) := E_getR (by rfl) rfl
theorem e41_46 : zE 41 d Q 46 [l0, l1, l2, l3, l4, l5] st G h k ↔ zE 41 d Q 47 [l0, l1, l2, l3, l4, l5] (zI 0 :: st) G h k := E_iconst (by rfl)
theorem e41_47 : zE 41 d Q 47 [some (.inr (.inr w9)), l1, l2, l3, l4, l5] st G h k ↔ zE 41 d Q 48 [some (.inr (.inr w9)), l1, l2, l3, l4, l5] (.inr (.inr w9) :: st) G h k := E_aload_n (by rfl) rfl
theorem e41_48 : zE 41 d Q 48 [l0, l1, l2, l3, l4, l5] (zR (some r) :: st) G h k ↔ (G.2.1 r = 4 ∧ zE 41 d Q 51 [l0, l1, l2, l3, l4, l5] (zR (G.2.2.2 r 8) :: st) G h k) := E_getR (by rfl) rfl
theorem e41_51 : zE 41 d Q 51 [l0, l1, l2, l3, some (zI x), l5] st G h k ↔ zE 41 d Q 53 [l0, l1, l2, l3, some (zI x), l5] (zI x :: st) G h k := E_iload (by rfl) rfl
theorem e41_53 : zE 41 d Q 53 [some (.inr (.inr w9)), l1, l2, l3, l4, l5] st G h k ↔ zE 41 d Q 54 [some (.inr (.inr w9)), l1, l2, l3, l4, l5] (.inr (.inr w9) :: st) G h k := E_aload_n (by rfl) rfl
theorem e41_54 : zE 41 d Q 54 [l0, l1, l2, l3, l4, l5] (zR (some r) :: st) G h k ↔ (G.2.1 r = 4 ∧ zE 41 d Q 57 [l0, l1, l2, l3, l4, l5] (zR (G.2.2.2 r 2) :: st) G h k) := E_getR (by rfl) rfl
theorem e41_57 : zE 41 d Q 57 [l0, l1, l2, l3, l4, l5] (zR (some r) :: st) G h k ↔ (G.2.1 r = 5 ∧ zE 41 d Q 60 [l0, l1, l2, l3, l4, l5] (zI (h r 9) :: st) G h k) := E_getI (by rfl) (by decide)
theorem e41_60 : zE 41 d Q 60 [l0, l1, l2, l3, l4, l5] (zI i :: zI y :: zR (some r2) :: zI x :: zR (some r1) :: st) G h k ↔ (zsum st ≤ 8 ∧ G.2.1 r1 = 11 ∧ G.2.1 r2 = 11 ∧ 0 ≤ x ∧ 0 ≤ y ∧ 0 ≤ i ∧ x + i ≤ G.2.2.1 r1 ∧ y + i ≤ G.2.2.1 r2 ∧ zE 41 d Q 63 [l0, l1, l2, l3, l4, l5] st G (zcp h r1 x.toNat r2 y.toNat i.toNat) k) := E_copy2 (by rfl) rfl (by decide)
theorem e41_63 : zE 41 d Q 63 [l0, l1, some (zI x), l3, l4, l5] st G h k ↔ zE 41 d Q 64 [l0, l1, some (zI x), l3, l4, l5] (zI x :: st) G h k := E_iload_n (by rfl) rfl
theorem e41_64 : zE 41 d Q 64 [l0, l1, l2, l3, l4, l5] st G h k ↔ zE 41 d Q 65 [l0, l1, l2, l3, l4, l5] (zI 1 :: st) G h k := E_iconst (by rfl)
theorem e41_65 : zE 41 d Q 65 [l0, l1, l2, l3, l4, l5] (zI y :: zI x :: st) G h k ↔ ((¬ x = y → zE 41 d Q 69 [l0, l1, l2, l3, l4, l5] st G h k) ∧ (¬ (¬ x = y) → zE 41 d Q 68 [l0, l1, l2, l3, l4, l5] st G h k)) := E_icmp_ne (by rfl)
theorem e41_68 : zE 41 d Q 68 [l0, l1, l2, l3, l4, l5] [] G h k ↔ Q none G h := E_vret (by rfl) rfl
theorem e41_69 : zE 41 d Q 69 [some (.inr (.inr w9)), l1, l2, l3, l4, l5] st G h k ↔ zE 41 d Q 70 [some (.inr (.inr w9)), l1, l2, l3, l4, l5] (.inr (.inr w9) :: st) G h k := E_aload_n (by rfl) rfl
theorem e41_70 : zE 41 d Q 70 [l0, l1, l2, l3, l4, l5] (zR (some r) :: st) G h k ↔ (G.2.1 r = 4 ∧ zE 41 d Q 73 [l0, l1, l2, l3, l4, l5] (zR (G.2.2.2 r 7) :: st) G h k) := E_getR (by rfl) rfl
theorem e41_73 : zE 41 d Q 73 [l0, some (zI x), l2, l3, l4, l5] st G h k ↔ zE 41 d Q 74 [l0, some (zI x), l2, l3, l4, l5] (zI x :: st) G h k := E_iload_n (by rfl) rfl
theorem e41_74 : zE 41 d Q 74 [l0, l1, l2, l3, l4, l5] (zI i :: zR (some r) :: st) G h k ↔ (G.2.1 r = 10 ∧ (0 ≤ i ∧ i < G.2.2.1 r) ∧ zE 41 d Q 75 [l0, l1, l2, l3, l4, l5] (zI (h r i.toNat) :: st) G h k) := E_iaload (by rfl)
theorem e41_75 : zE 41 d Q 75 [l0, some (zI x), l2, l3, l4, l5] st G h k ↔ zE 41 d Q 76 [l0, some (zI x), l2, l3, l4, l5] (zI x :: st) G h k := E_iload_n (by rfl) rfl
theorem e41_76 : zE 41 d Q 76 [l0, l1, l2, l3, l4, l5] (zI y :: zI x :: st) G h k ↔ ((¬ x = y → zE 41 d Q 134 [l0, l1, l2, l3, l4, l5] st G h k) ∧ (¬ (¬ x = y) → zE 41 d Q 79 [l0, l1, l2, l3, l4, l5] st G h k)) := E_icmp_ne (by rfl)
theorem e41_79 : zE 41 d Q 79 [some (.inr (.inr w9)), l1, l2, l3, l4, l5] st G h k ↔ zE 41 d Q 80 [some (.inr (.inr w9)), l1, l2, l3, l4, l5] (.inr (.inr w9) :: st) G h k := E_aload_n (by rfl) rfl
theorem e41_80 : zE 41 d Q 80 [l0, l1, l2, l3, l4, l5] (zR (some r) :: st) G h k ↔ (G.2.1 r = 4 ∧ zE 41 d Q 83 [l0, l1, l2, l3, l4, l5] (zR (G.2.2.2 r 0) :: st) G h k) := E_getR (by rfl) rfl
theorem e41_83 : zE 41 d Q 83 [l0, l1, l2, l3, l4, l5] (zR (some r) :: st) G h k ↔ (G.2.1 r = 6 ∧ zE 41 d Q 86 [l0, l1, l2, l3, l4, l5] (zR (G.2.2.2 r 8) :: st) G h k) := E_getR (by rfl) rfl
theorem e41_86 : zE 41 d Q 86 [l0, l1, l2, l3, l4, l5] st G h k ↔ zE 41 d Q 87 [l0, l1, l2, l3, l4, l5] (zI 0 :: st) G h k := E_iconst (by rfl)
theorem e41_87 : zE 41 d Q 87 [some (.inr (.inr w9)), l1, l2, l3, l4, l5] st G h k ↔ zE 41 d Q 88 [some (.inr (.inr w9)), l1, l2, l3, l4, l5] (.inr (.inr w9) :: st) G h k := E_aload_n (by rfl) rfl
theorem e41_88 : zE 41 d Q 88 [l0, l1, l2, l3, l4, l5] (zR (some r) :: st) G h k ↔ (G.2.1 r = 4 ∧ zE 41 d Q 91 [l0, l1, l2, l3, l4, l5] (zR (G.2.2.2 r 10) :: st) G h k) := E_getR (by rfl) rfl
theorem e41_91 : zE 41 d Q 91 [l0, l1, some (zI x), l3, l4, l5] st G h k ↔ zE 41 d Q 92 [l0, l1, some (zI x), l3, l4, l5] (zI x :: st) G h k := E_iload_n (by rfl) rfl
theorem e41_92 : zE 41 d Q 92 [l0, l1, l2, l3, l4, l5] st G h k ↔ zE 41 d Q 93 [l0, l1, l2, l3, l4, l5] (zI 1 :: st) G h k := E_iconst (by rfl)
theorem e41_93 : zE 41 d Q 93 [l0, l1, l2, l3, l4, l5] (zI y :: zI x :: st) G h k ↔ zE 41 d Q 94 [l0, l1, l2, l3, l4, l5] (zI (wr (x - y)) :: st) G h k := E_isub (by rfl)
theorem e41_94 : zE 41 d Q 94 [l0, l1, l2, l3, l4, l5] (zI i :: zR (some r) :: st) G h k ↔ (G.2.1 r = 14 ∧ (0 ≤ i ∧ i < G.2.2.1 r) ∧ zE 41 d Q 95 [l0, l1, l2, l3, l4, l5] (zR (G.2.2.2 r i.toNat) :: st) G h k) := E_aaload (by rfl) (by decide)
theorem e41_95 : zE 41 d Q 95 [l0, l1, l2, l3, l4, l5] st G h k ↔ zE 41 d Q 96 [l0, l1, l2, l3, l4, l5] (zI 0 :: st) G h k := E_iconst (by rfl)
theorem e41_96 : zE 41 d Q 96 [l0, l1, l2, l3, l4, l5] st G h k ↔ zE 41 d Q 98 [l0, l1, l2, l3, l4, l5] (zI 12 :: st) G h k := E_bipush (by rfl)
theorem e41_98 : zE 41 d Q 98 [l0, l1, l2, l3, l4, l5] (zI i :: zI y :: zR (some r2) :: zI x :: zR (some r1) :: st) G h k ↔ (zsum st ≤ 8 ∧ G.2.1 r1 = 10 ∧ G.2.1 r2 = 10 ∧ 0 ≤ x ∧ 0 ≤ y ∧ 0 ≤ i ∧ x + i ≤ G.2.2.1 r1 ∧ y + i ≤ G.2.2.1 r2 ∧ zE 41 d Q 101 [l0, l1, l2, l3, l4, l5] st G (zcp h r1 x.toNat r2 y.toNat i.toNat) k) := E_copy2 (by rfl) rfl (by decide)
theorem e41_101 : zE 41 d Q 101 [some (.inr (.inr w9)), l1, l2, l3, l4, l5] st G h k ↔ zE 41 d Q 102 [some (.inr (.inr w9)), l1, l2, l3, l4, l5] (.inr (.inr w9) :: st) G h k := E_aload_n (by rfl) rfl
theorem e41_102 : zE 41 d Q 102 [l0, l1, some (zI x), l3, l4, l5] st G h k ↔ zE 41 d Q 103 [l0, l1, some (zI x), l3, l4, l5] (zI x :: st) G h k := E_iload_n (by rfl) rfl
theorem e41_103 : zE 41 d Q 103 [l0, l1, l2, l3, l4, l5] st G h k ↔ zE 41 d Q 104 [l0, l1, l2, l3, l4, l5] (zI 1 :: st) G h k := E_iconst (by rfl)
theorem e41_104 : zE 41 d Q 104 [l0, l1, l2, l3, l4, l5] (zI y :: zI x :: st) G h k ↔ zE 41 d Q 105 [l0, l1, l2, l3, l4, l5] (zI (wr (x - y)) :: st) G h k := E_isub (by rfl)
theorem e41_105 : zE 41 d Q 105 [l0, l1, l2, l3, l4, l5] (v0 :: zR (some r) :: st) G h k ↔ (zsum st ≤ 8 ∧ G.2.1 r = 4 ∧ zRunD ztb zmt' d 40 [zR (some r), v0] G h (fun v G' h' => zE 41 d Q 108 [l0, l1, l2, l3, l4, l5] (v.toList ++ st) G' h' k)) := E_invV2z (by rfl) (by decide) rfl
theorem e41_108 : zE 41 d Q 108 [l0, l1, l2, l3, l4, l5] (zI x :: st) G h k ↔ zE 41 d Q 109 [l0, l1, l2, l3, l4, l5] st G h k := E_pop (by rfl) rfl
theorem e41_109 : zE 41 d Q 109 [some (.inr (.inr w9)), l1, l2, l3, l4, l5] st G h k ↔ zE 41 d Q 110 [some (.inr (.inr w9)), l1, l2, l3, l4, l5] (.inr (.inr w9) :: st) G h k := E_aload_n (by rfl) rfl
theorem e41_110 : zE 41 d Q 110 [l0, l1, l2, l3, l4, l5] (zR (some r) :: st) G h k ↔ (G.2.1 r = 4 ∧ zE 41 d Q 113 [l0, l1, l2, l3, l4, l5] (zR (G.2.2.2 r 11) :: st) G h k) := E_getR (by rfl) rfl
theorem e41_113 : zE 41 d Q 113 [l0, l1, some (zI x), l3, l4, l5] st G h k ↔ zE 41 d Q 114 [l0, l1, some (zI x), l3, l4, l5] (zI x :: st) G h k := E_iload_n (by rfl) rfl
theorem e41_114 : zE 41 d Q 114 [l0, l1, l2, l3, l4, l5] st G h k ↔ zE 41 d Q 115 [l0, l1, l2, l3, l4, l5] (zI 1 :: st) G h k := E_iconst (by rfl)
theorem e41_115 : zE 41 d Q 115 [l0, l1, l2, l3, l4, l5] (zI y :: zI x :: st) G h k ↔ zE 41 d Q 116 [l0, l1, l2, l3, l4, l5] (zI (wr (x - y)) :: st) G h k := E_isub (by rfl)
theorem e41_116 : zE 41 d Q 116 [l0, l1, l2, l3, l4, l5] (zI i :: zR (some r) :: st) G h k ↔ (G.2.1 r = 15 ∧ (0 ≤ i ∧ i < G.2.2.1 r) ∧ zE 41 d Q 117 [l0, l1, l2, l3, l4, l5] (zR (G.2.2.2 r i.toNat) :: st) G h k) := E_aaload (by rfl) (by decide)
theorem e41_117 : zE 41 d Q 117 [l0, l1, l2, l3, l4, l5] st G h k ↔ zE 41 d Q 118 [l0, l1, l2, l3, l4, l5] (zI 0 :: st) G h k := E_iconst (by rfl)
theorem e41_118 : zE 41 d Q 118 [some (.inr (.inr w9)), l1, l2, l3, l4, l5] st G h k ↔ zE 41 d Q 119 [some (.inr (.inr w9)), l1, l2, l3, l4, l5] (.inr (.inr w9) :: st) G h k := E_aload_n (by rfl) rfl
theorem e41_119 : zE 41 d Q 119 [l0, l1, l2, l3, l4, l5] (zR (some r) :: st) G h k ↔ (G.2.1 r = 4 ∧ zE 41 d Q 122 [l0, l1, l2, l3, l4, l5] (zR (G.2.2.2 r 9) :: st) G h k) := E_getR (by rfl) rfl
theorem e41_122 : zE 41 d Q 122 [l0, l1, l2, l3, some (zI x), l5] st G h k ↔ zE 41 d Q 124 [l0, l1, l2, l3, some (zI x), l5] (zI x :: st) G h k := E_iload (by rfl) rfl
theorem e41_124 : zE 41 d Q 124 [some (.inr (.inr w9)), l1, l2, l3, l4, l5] st G h k ↔ zE 41 d Q 125 [some (.inr (.inr w9)), l1, l2, l3, l4, l5] (.inr (.inr w9) :: st) G h k := E_aload_n (by rfl) rfl
theorem e41_125 : zE 41 d Q 125 [l0, l1, l2, l3, l4, l5] (zR (some r) :: st) G h k ↔ (G.2.1 r = 4 ∧ zE 41 d Q 128 [l0, l1, l2, l3, l4, l5] (zR (G.2.2.2 r 2) :: st) G h k) := E_getR (by rfl) rfl
theorem e41_128 : zE 41 d Q 128 [l0, l1, l2, l3, l4, l5] (zR (some r) :: st) G h k ↔ (G.2.1 r = 5 ∧ zE 41 d Q 131 [l0, l1, l2, l3, l4, l5] (zI (h r 9) :: st) G h k) := E_getI (by rfl) (by decide)
theorem e41_131 : zE 41 d Q 131 [l0, l1, l2, l3, l4, l5] (zI i :: zI y :: zR (some r2) :: zI x :: zR (some r1) :: st) G h k ↔ (zsum st ≤ 8 ∧ G.2.1 r1 = 11 ∧ G.2.1 r2 = 11 ∧ 0 ≤ x ∧ 0 ≤ y ∧ 0 ≤ i ∧ x + i ≤ G.2.2.1 r1 ∧ y + i ≤ G.2.2.1 r2 ∧ zE 41 d Q 134 [l0, l1, l2, l3, l4, l5] st G (zcp h r1 x.toNat r2 y.toNat i.toNat) k) := E_copy2 (by rfl) rfl (by decide)
theorem e41_134 : zE 41 d Q 134 [l0, l1, l2, l3, l4, l5] st G h k ↔ zE 41 d Q 135 [l0, l1, l2, l3, l4, l5] (zI 0 :: st) G h k := E_iconst (by rfl)
theorem e41_135 : zE 41 d Q 135 [l0, l1, l2, l3, l4, l5] (zI x :: st) G h k ↔ zE 41 d Q 137 [l0, l1, l2, l3, (zclr l4), some (zI x)] st G h k := E_istore (by rfl) (by decide)
theorem e41_137 : zE 41 d Q 137 [l0, l1, l2, l3, l4, some (zI x)] st G h k ↔ zE 41 d Q 139 [l0, l1, l2, l3, l4, some (zI x)] (zI x :: st) G h k := E_iload (by rfl) rfl
theorem e41_139 : zE 41 d Q 139 [some (.inr (.inr w9)), l1, l2, l3, l4, l5] st G h k ↔ zE 41 d Q 140 [some (.inr (.inr w9)), l1, l2, l3, l4, l5] (.inr (.inr w9) :: st) G h k := E_aload_n (by rfl) rfl
theorem e41_140 : zE 41 d Q 140 [l0, l1, l2, l3, l4, l5] (zR (some r) :: st) G h k ↔ (G.2.1 r = 4 ∧ zE 41 d Q 143 [l0, l1, l2, l3, l4, l5] (zR (G.2.2.2 r 2) :: st) G h k) := E_getR (by rfl) rfl
theorem e41_143 : zE 41 d Q 143 [l0, l1, l2, l3, l4, l5] (zR (some r) :: st) G h k ↔ (G.2.1 r = 5 ∧ zE 41 d Q 146 [l0, l1, l2, l3, l4, l5] (zI (h r 9) :: st) G h k) := E_getI (by rfl) (by decide)
theorem e41_146 : zE 41 d Q 146 [l0, l1, l2, l3, l4, l5] (zI y :: zI x :: st) G h k ↔ ((y ≤ x → zE 41 d Q 207 [l0, l1, l2, l3, l4, l5] st G h k) ∧ (¬ (y ≤ x) → zE 41 d Q 149 [l0, l1, l2, l3, l4, l5] st G h k)) := E_icmp_ge (by rfl)
theorem e41_149 : zE 41 d Q 149 [some (.inr (.inr w9)), l1, l2, l3, l4, l5] st G h k ↔ zE 41 d Q 150 [some (.inr (.inr w9)), l1, l2, l3, l4, l5] (.inr (.inr w9) :: st) G h k := E_aload_n (by rfl) rfl
theorem e41_150 : zE 41 d Q 150 [l0, l1, l2, l3, l4, l5] (zR (some r) :: st) G h k ↔ (G.2.1 r = 4 ∧ zE 41 d Q 153 [l0, l1, l2, l3, l4, l5] (zR (G.2.2.2 r 8) :: st) G h k) := E_getR (by rfl) rfl
theorem e41_153 : zE 41 d Q 153 [l0, l1, l2, l3, some (zI x), l5] st G h k ↔ zE 41 d Q 155 [l0, l1, l2, l3, some (zI x), l5] (zI x :: st) G h k := E_iload (by rfl) rfl
theorem e41_155 : zE 41 d Q 155 [l0, l1, l2, l3, l4, some (zI x)] st G h k ↔ zE 41 d Q 157 [l0, l1, l2, l3, l4, some (zI x)] (zI x :: st) G h k := E_iload (by rfl) rfl
theorem e41_157 : zE 41 d Q 157 [l0, l1, l2, l3, l4, l5] (zI y :: zI x :: st) G h k ↔ zE 41 d Q 158 [l0, l1, l2, l3, l4, l5] (zI (wr (x + y)) :: st) G h k := E_iadd (by rfl)
theorem e41_158 : zE 41 d Q 158 [l0, l1, l2, l3, l4, l5] (zI x :: .inr (.inr w9) :: st) G h k ↔ zE 41 d Q 159 [l0, l1, l2, l3, l4, l5] (zI x :: .inr (.inr w9) :: zI x :: .inr (.inr w9) :: st) G h k := E_dup2 (by rfl) rfl rfl
theorem e41_159 : zE 41 d Q 159 [l0, l1, l2, l3, l4, l5] (zI i :: zR (some r) :: st) G h k ↔ (G.2.1 r = 11 ∧ (0 ≤ i ∧ i < G.2.2.1 r) ∧ zE 41 d Q 160 [l0, l1, l2, l3, l4, l5] (zL (h r i.toNat) :: st) G h k) := E_laload (by rfl)
theorem e41_160 : zE 41 d Q 160 [some (.inr (.inr w9)), l1, l2, l3, l4, l5] st G h k ↔ zE 41 d Q 161 [some (.inr (.inr w9)), l1, l2, l3, l4, l5] (.inr (.inr w9) :: st) G h k := E_aload_n (by rfl) rfl
theorem e41_161 : zE 41 d Q 161 [l0, l1, l2, l3, l4, l5] (zR (some r) :: st) G h k ↔ (G.2.1 r = 4 ∧ zE 41 d Q 164 [l0, l1, l2, l3, l4, l5] (zR (G.2.2.2 r 2) :: st) G h k) := E_getR (by rfl) rfl
theorem e41_164 : zE 41 d Q 164 [l0, l1, l2, l3, l4, l5] (zR (some r) :: st) G h k ↔ (G.2.1 r = 5 ∧ zE 41 d Q 167 [l0, l1, l2, l3, l4, l5] (zI (h r 13) :: st) G h k) := E_getI (by rfl) (by decide)
theorem e41_167 : zE 41 d Q 167 [l0, l1, l2, l3, l4, l5] (zI x :: st) G h k ↔ zE 41 d Q 168 [l0, l1, l2, l3, l4, l5] (zL x :: st) G h k := E_i2l (by rfl)
theorem e41_168 : zE 41 d Q 168 [some (.inr (.inr w9)), l1, l2, l3, l4, l5] st G h k ↔ zE 41 d Q 169 [some (.inr (.inr w9)), l1, l2, l3, l4, l5] (.inr (.inr w9) :: st) G h k := E_aload_n (by rfl) rfl
theorem e41_169 : zE 41 d Q 169 [l0, l1, l2, l3, l4, l5] (zR (some r) :: st) G h k ↔ (G.2.1 r = 4 ∧ zE 41 d Q 172 [l0, l1, l2, l3, l4, l5] (zR (G.2.2.2 r 9) :: st) G h k) := E_getR (by rfl) rfl
theorem e41_172 : zE 41 d Q 172 [l0, l1, l2, some (zI x), l4, l5] st G h k ↔ zE 41 d Q 173 [l0, l1, l2, some (zI x), l4, l5] (zI x :: st) G h k := E_iload_n (by rfl) rfl
theorem e41_173 : zE 41 d Q 173 [some (.inr (.inr w9)), l1, l2, l3, l4, l5] st G h k ↔ zE 41 d Q 174 [some (.inr (.inr w9)), l1, l2, l3, l4, l5] (.inr (.inr w9) :: st) G h k := E_aload_n (by rfl) rfl
theorem e41_174 : zE 41 d Q 174 [l0, l1, l2, l3, l4, l5] (zR (some r) :: st) G h k ↔ (G.2.1 r = 4 ∧ zE 41 d Q 177 [l0, l1, l2, l3, l4, l5] (zR (G.2.2.2 r 7) :: st) G h k) := E_getR (by rfl) rfl
theorem e41_177 : zE 41 d Q 177 [l0, some (zI x), l2, l3, l4, l5] st G h k ↔ zE 41 d Q 178 [l0, some (zI x), l2, l3, l4, l5] (zI x :: st) G h k := E_iload_n (by rfl) rfl
theorem e41_178 : zE 41 d Q 178 [l0, l1, l2, l3, l4, l5] (zI i :: zR (some r) :: st) G h k ↔ (G.2.1 r = 10 ∧ (0 ≤ i ∧ i < G.2.2.1 r) ∧ zE 41 d Q 179 [l0, l1, l2, l3, l4, l5] (zI (h r i.toNat) :: st) G h k) := E_iaload (by rfl)
theorem e41_179 : zE 41 d Q 179 [some (.inr (.inr w9)), l1, l2, l3, l4, l5] st G h k ↔ zE 41 d Q 180 [some (.inr (.inr w9)), l1, l2, l3, l4, l5] (.inr (.inr w9) :: st) G h k := E_aload_n (by rfl) rfl
theorem e41_180 : zE 41 d Q 180 [l0, l1, l2, l3, l4, l5] (zR (some r) :: st) G h k ↔ (G.2.1 r = 4 ∧ zE 41 d Q 183 [l0, l1, l2, l3, l4, l5] (zR (G.2.2.2 r 2) :: st) G h k) := E_getR (by rfl) rfl
theorem e41_183 : zE 41 d Q 183 [l0, l1, l2, l3, l4, l5] (zR (some r) :: st) G h k ↔ (G.2.1 r = 5 ∧ zE 41 d Q 186 [l0, l1, l2, l3, l4, l5] (zI (h r 9) :: st) G h k) := E_getI (by rfl) (by decide)
theorem e41_186 : zE 41 d Q 186 [l0, l1, l2, l3, l4, l5] (zI y :: zI x :: st) G h k ↔ zE 41 d Q 187 [l0, l1, l2, l3, l4, l5] (zI (wr (x * y)) :: st) G h k := E_imul (by rfl)
theorem e41_187 : zE 41 d Q 187 [l0, l1, l2, l3, l4, l5] (zI y :: zI x :: st) G h k ↔ zE 41 d Q 188 [l0, l1, l2, l3, l4, l5] (zI (wr (x + y)) :: st) G h k := E_iadd (by rfl)
theorem e41_188 : zE 41 d Q 188 [l0, l1, l2, l3, l4, some (zI x)] st G h k ↔ zE 41 d Q 190 [l0, l1, l2, l3, l4, some (zI x)] (zI x :: st) G h k := E_iload (by rfl) rfl
theorem e41_190 : zE 41 d Q 190 [l0, l1, l2, l3, l4, l5] (zI y :: zI x :: st) G h k ↔ zE 41 d Q 191 [l0, l1, l2, l3, l4, l5] (zI (wr (x + y)) :: st) G h k := E_iadd (by rfl)
theorem e41_191 : zE 41 d Q 191 [l0, l1, l2, l3, l4, l5] (zI i :: zR (some r) :: st) G h k ↔ (G.2.1 r = 11 ∧ (0 ≤ i ∧ i < G.2.2.1 r) ∧ zE 41 d Q 192 [l0, l1, l2, l3, l4, l5] (zL (h r i.toNat) :: st) G h k) := E_laload (by rfl)
theorem e41_192 : zE 41 d Q 192 [l0, l1, l2, l3, l4, l5] (zL y :: zL x :: st) G h k ↔ zE 41 d Q 193 [l0, l1, l2, l3, l4, l5] (zL (wl (x * y)) :: st) G h k := E_lmul (by rfl)
theorem e41_193 : zE 41 d Q 193 [l0, l1, l2, l3, l4, l5] st G h k ↔ zE 41 d Q 196 [l0, l1, l2, l3, l4, l5] (zL 100 :: st) G h k := E_ldc2_w (by rfl)
theorem e41_196 : zE 41 d Q 196 [l0, l1, l2, l3, l4, l5] (v1 :: v0 :: st) G h k ↔ (zsum st ≤ 8 ∧ zRunD ztb zmt' d 214 [v0, v1] G h (fun v G' h' => zE 41 d Q 199 [l0, l1, l2, l3, l4, l5] (v.toList ++ st) G' h' k)) := E_invS2z (by rfl) (by decide) rfl
theorem e41_199 : zE 41 d Q 199 [l0, l1, l2, l3, l4, l5] (zL y :: zL x :: st) G h k ↔ zE 41 d Q 200 [l0, l1, l2, l3, l4, l5] (zL (wl (x + y)) :: st) G h k := E_ladd (by rfl)
theorem e41_200 : zE 41 d Q 200 [l0, l1, l2, l3, l4, l5] (zL x :: zI i :: zR (some r) :: st) G h k ↔ (G.2.1 r = 11 ∧ (0 ≤ i ∧ i < G.2.2.1 r) ∧ zE 41 d Q 201 [l0, l1, l2, l3, l4, l5] st G (zu h r i.toNat x) k) := E_lastore (by rfl)
theorem e41_201 : zE 41 d Q 201 [l0, l1, l2, l3, l4, some (zI x)] st G h k ↔ zE 41 d Q 204 [l0, l1, l2, l3, (zclr l4), some (zI (wr (x + 1)))] st G h k := E_iinc (by rfl) rfl
theorem e41_204 : zE 41 d Q 204 [l0, l1, l2, l3, l4, l5] st G h k ↔ zE 41 d Q 137 [l0, l1, l2, l3, l4, l5] st G h k := E_goto (by rfl)
theorem e41_207 : zE 41 d Q 207 [l0, l1, l2, l3, l4, l5] [] G h k ↔ Q none G h := E_vret (by rfl) rfl
theorem e42_0 : zE 42 d Q 0 [l0, l1, l2, l3, l4, l5, l6, l7, l8, l9, l10, l11, l12, l13] st G h k ↔ zE 42 d Q 1 [l0, l1, l2, l3, l4, l5, l6, l7, l8, l9, l10, l11, l12, l13] (zL 0 :: st) G h k := E_lconst (by rfl)
theorem e42_1 : zE 42 d Q 1 [l0, l1, l2, l3, l4, l5, l6, l7, l8, l9, l10, l11, l12, l13] (zL x :: st) G h k ↔ zE 42 d Q 3 [l0, l1, l2, l3, (zclr l4), some (zL x), none, l7, l8, l9, l10, l11, l12, l13] st G h k := E_lstore (by rfl) (by decide)
theorem e42_3 : zE 42 d Q 3 [l0, l1, l2, l3, l4, l5, l6, l7, l8, l9, l10, l11, l12, l13] st G h k ↔ zE 42 d Q 4 [l0, l1, l2, l3, l4, l5, l6, l7, l8, l9, l10, l11, l12, l13] (zI 0 :: st) G h k := E_iconst (by rfl)
theorem e42_4 : zE 42 d Q 4 [l0, l1, l2, l3, l4, l5, l6, l7, l8, l9, l10, l11, l12, l13] (zI x :: st) G h k ↔ zE 42 d Q 6 [l0, l1, l2, l3, l4, l5, (zclr l6), some (zI x), l8, l9, l10, l11, l12, l13] st G h k := E_istore (by rfl) (by decide)
theorem e42_6 : zE 42 d Q 6 [l0, l1, l2, l3, l4, l5, l6, some (zI x), l8, l9, l10, l11, l12, l13] st G h k ↔ zE 42 d Q 8 [l0, l1, l2, l3, l4, l5, l6, some (zI x), l8, l9, l10, l11, l12, l13] (zI x :: st) G h k := E_iload (by rfl) rfl
theorem e42_8 : zE 42 d Q 8 [some (.inr (.inr w9)), l1, l2, l3, l4, l5, l6, l7, l8, l9, l10, l11, l12, l13] st G h k ↔ zE 42 d Q 9 [some (.inr (.inr w9)), l1, l2, l3, l4, l5, l6, l7, l8, l9, l10, l11, l12, l13] (.inr (.inr w9) :: st) G h k := E_aload_n (by rfl) rfl
theorem e42_9 : zE 42 d Q 9 [l0, l1, l2, l3, l4, l5, l6, l7, l8, l9, l10, l11, l12, l13] (zR (some r) :: st) G h k ↔ (G.2.1 r = 4 ∧ zE 42 d Q 12 [l0, l1, l2, l3, l4, l5, l6, l7, l8, l9, l10, l11, l12, l13] (zR (G.2.2.2 r 2) :: st) G h k) := E_getR (by rfl) rfl
theorem e42_12 : zE 42 d Q 12 [l0, l1, l2, l3, l4, l5, l6, l7, l8, l9, l10, l11, l12, l13] (zR (some r) :: st) G h k ↔ (G.2.1 r = 5 ∧ zE 42 d Q 15 [l0, l1, l2, l3, l4, l5, l6, l7, l8, l9, l10, l11, l12, l13] (zI (h r 9) :: st) G h k) := E_getI (by rfl) (by decide)
theorem e42_15 : zE 42 d Q 15 [l0, l1, l2, l3, l4, l5, l6, l7, l8, l9, l10, l11, l12, l13] (zI y :: zI x :: st) G h k ↔ ((y ≤ x → zE 42 d Q 148 [l0, l1, l2, l3, l4, l5, l6, l7, l8, l9, l10, l11, l12, l13] st G h k) ∧ (¬ (y ≤ x) → zE 42 d Q 18 [l0, l1, l2, l3, l4, l5, l6, l7, l8, l9, l10, l11, l12, l13] st G h k)) := E_icmp_ge (by rfl)
theorem e42_18 : zE 42 d Q 18 [l0, some (zI x), l2, l3, l4, l5, l6, l7, l8, l9, l10, l11, l12, l13] st G h k ↔ zE 42 d Q 19 [l0, some (zI x), l2, l3, l4, l5, l6, l7, l8, l9, l10, l11, l12, l13] (zI x :: st) G h k := E_iload_n (by rfl) rfl
theorem e42_19 : zE 42 d Q 19 [some (.inr (.inr w9)), l1, l2, l3, l4, l5, l6, l7, l8, l9, l10, l11, l12, l13] st G h k ↔ zE 42 d Q 20 [some (.inr (.inr w9)), l1, l2, l3, l4, l5, l6, l7, l8, l9, l10, l11, l12, l13] (.inr (.inr w9) :: st) G h k := E_aload_n (by rfl) rfl
theorem e42_20 : zE 42 d Q 20 [l0, some (zI x), l2, l3, l4, l5, l6, l7, l8, l9, l10, l11, l12, l13] st G h k ↔ zE 42 d Q 21 [l0, some (zI x), l2, l3, l4, l5, l6, l7, l8, l9, l10, l11, l12, l13] (zI x :: st) G h k := E_iload_n (by rfl) rfl
theorem e42_21 : zE 42 d Q 21 [l0, l1, l2, l3, l4, l5, l6, some (zI x), l8, l9, l10, l11, l12, l13] st G h k ↔ zE 42 d Q 23 [l0, l1, l2, l3, l4, l5, l6, some (zI x), l8, l9, l10, l11, l12, l13] (zI x :: st) G h k := E_iload (by rfl) rfl
theorem e42_23 : zE 42 d Q 23 [l0, l1, l2, l3, l4, l5, l6, l7, l8, l9, l10, l11, l12, l13] (v1 :: v0 :: zR (some r) :: st) G h k ↔ (zsum st ≤ 8 ∧ G.2.1 r = 4 ∧ zRunD ztb zmt' d 38 [zR (some r), v0, v1] G h (fun v G' h' => zE 42 d Q 26 [l0, l1, l2, l3, l4, l5, l6, l7, l8, l9, l10, l11, l12, l13] (v.toList ++ st) G' h' k)) := E_invV2z (by rfl) (by decide) rfl
theorem e42_26 : zE 42 d Q 26 [some (.inr (.inr w9)), l1, l2, l3, l4, l5, l6, l7, l8, l9, l10, l11, l12, l13] st G h k ↔ zE 42 d Q 27 [some (.inr (.inr w9)), l1, l2, l3, l4, l5, l6, l7, l8, l9, l10, l11, l12, l13] (.inr (.inr w9) :: st) G h k := E_aload_n (by rfl) rfl
theorem e42_27 : zE 42 d Q 27 [l0, l1, l2, l3, l4, l5, l6, l7, l8, l9, l10, l11, l12, l13] (zR (some r) :: st) G h k ↔ (G.2.1 r = 4 ∧ zE 42 d Q 30 [l0, l1, l2, l3, l4, l5, l6, l7, l8, l9, l10, l11, l12, l13] (zR (G.2.2.2 r 4) :: st) G h k) := E_getR (by rfl) rfl
theorem e42_30 : zE 42 d Q 30 [l0, l1, l2, l3, l4, l5, l6, some (zI x), l8, l9, l10, l11, l12, l13] st G h k ↔ zE 42 d Q 32 [l0, l1, l2, l3, l4, l5, l6, some (zI x), l8, l9, l10, l11, l12, l13] (zI x :: st) G h k := E_iload (by rfl) rfl
theorem e42_32 : zE 42 d Q 32 [l0, l1, l2, l3, l4, l5, l6, l7, l8, l9, l10, l11, l12, l13] (zI i :: zR (some r) :: st) G h k ↔ (G.2.1 r = 10 ∧ (0 ≤ i ∧ i < G.2.2.1 r) ∧ zE 42 d Q 33 [l0, l1, l2, l3, l4, l5, l6, l7, l8, l9, l10, l11, l12, l13] (zI (h r i.toNat) :: st) G h k) := E_iaload (by rfl)
theorem e42_33 : zE 42 d Q 33 [l0, l1, l2, l3, l4, l5, l6, l7, l8, l9, l10, l11, l12, l13] (zI y :: zI x :: st) G h k ↔ zE 42 d Q 34 [l0, l1, l2, l3, l4, l5, l6, l7, l8, l9, l10, l11, l12, l13] (zI (wr (x * y)) :: st) G h k := E_imul (by rfl)
theorem e42_34 : zE 42 d Q 34 [l0, l1, l2, l3, l4, l5, l6, l7, l8, l9, l10, l11, l12, l13] (zI y :: zI x :: st) G h k ↔ zE 42 d Q 35 [l0, l1, l2, l3, l4, l5, l6, l7, l8, l9, l10, l11, l12, l13] (zI (wr (x - y)) :: st) G h k := E_isub (by rfl)
theorem e42_35 : zE 42 d Q 35 [l0, l1, l2, l3, l4, l5, l6, l7, l8, l9, l10, l11, l12, l13] (zI x :: st) G h k ↔ zE 42 d Q 37 [l0, l1, l2, l3, l4, l5, l6, (zclr l7), some (zI x), l9, l10, l11, l12, l13] st G h k := E_istore (by rfl) (by decide)
theorem e42_37 : zE 42 d Q 37 [some (.inr (.inr w9)), l1, l2, l3, l4, l5, l6, l7, l8, l9, l10, l11, l12, l13] st G h k ↔ zE 42 d Q 38 [some (.inr (.inr w9)), l1, l2, l3, l4, l5, l6, l7, l8, l9, l10, l11, l12, l13] (.inr (.inr w9) :: st) G h k := E_aload_n (by rfl) rfl
theorem e42_38 : zE 42 d Q 38 [l0, l1, l2, l3, l4, l5, l6, l7, l8, l9, l10, l11, l12, l13] (zR (some r) :: st) G h k ↔ (G.2.1 r = 4 ∧ zE 42 d Q 41 [l0, l1, l2, l3, l4, l5, l6, l7, l8, l9, l10, l11, l12, l13] (zR (G.2.2.2 r 8) :: st) G h k) := E_getR (by rfl) rfl
theorem e42_41 : zE 42 d Q 41 [l0, l1, some (zI x), l3, l4, l5, l6, l7, l8, l9, l10, l11, l12, l13] st G h k ↔ zE 42 d Q 42 [l0, l1, some (zI x), l3, l4, l5, l6, l7, l8, l9, l10, l11, l12, l13] (zI x :: st) G h k := E_iload_n (by rfl) rfl
theorem e42_42 : zE 42 d Q 42 [l0, some (zI x), l2, l3, l4, l5, l6, l7, l8, l9, l10, l11, l12, l13] st G h k ↔ zE 42 d Q 43 [l0, some (zI x), l2, l3, l4, l5, l6, l7, l8, l9, l10, l11, l12, l13] (zI x :: st) G h k := E_iload_n (by rfl) rfl
theorem e42_43 : zE 42 d Q 43 [some (.inr (.inr w9)), l1, l2, l3, l4, l5, l6, l7, l8, l9, l10, l11, l12, l13] st G h k ↔ zE 42 d Q 44 [some (.inr (.inr w9)), l1, l2, l3, l4, l5, l6, l7, l8, l9, l10, l11, l12, l13] (.inr (.inr w9) :: st) G h k := E_aload_n (by rfl) rfl
theorem e42_44 : zE 42 d Q 44 [l0, l1, l2, l3, l4, l5, l6, l7, l8, l9, l10, l11, l12, l13] (zR (some r) :: st) G h k ↔ (G.2.1 r = 4 ∧ zE 42 d Q 47 [l0, l1, l2, l3, l4, l5, l6, l7, l8, l9, l10, l11, l12, l13] (zR (G.2.2.2 r 2) :: st) G h k) := E_getR (by rfl) rfl
theorem e42_47 : zE 42 d Q 47 [l0, l1, l2, l3, l4, l5, l6, l7, l8, l9, l10, l11, l12, l13] (zR (some r) :: st) G h k ↔ (G.2.1 r = 5 ∧ zE 42 d Q 50 [l0, l1, l2, l3, l4, l5, l6, l7, l8, l9, l10, l11, l12, l13] (zI (h r 9) :: st) G h k) := E_getI (by rfl) (by decide)
theorem e42_50 : zE 42 d Q 50 [l0, l1, l2, l3, l4, l5, l6, l7, l8, l9, l10, l11, l12, l13] (zI y :: zI x :: st) G h k ↔ zE 42 d Q 51 [l0, l1, l2, l3, l4, l5, l6, l7, l8, l9, l10, l11, l12, l13] (zI (wr (x * y)) :: st) G h k := E_imul (by rfl)
theorem e42_51 : zE 42 d Q 51 [l0, l1, l2, l3, l4, l5, l6, l7, l8, l9, l10, l11, l12, l13] (zI y :: zI x :: st) G h k ↔ zE 42 d Q 52 [l0, l1, l2, l3, l4, l5, l6, l7, l8, l9, l10, l11, l12, l13] (zI (wr (x + y)) :: st) G h k := E_iadd (by rfl)
theorem e42_52 : zE 42 d Q 52 [l0, l1, l2, l3, l4, l5, l6, some (zI x), l8, l9, l10, l11, l12, l13] st G h k ↔ zE 42 d Q 54 [l0, l1, l2, l3, l4, l5, l6, some (zI x), l8, l9, l10, l11, l12, l13] (zI x :: st) G h k := E_iload (by rfl) rfl
theorem e42_54 : zE 42 d Q 54 [l0, l1, l2, l3, l4, l5, l6, l7, l8, l9, l10, l11, l12, l13] (zI y :: zI x :: st) G h k ↔ zE 42 d Q 55 [l0, l1, l2, l3, l4, l5, l6, l7, l8, l9, l10, l11, l12, l13] (zI (wr (x + y)) :: st) G h k := E_iadd (by rfl)
theorem e42_55 : zE 42 d Q 55 [l0, l1, l2, l3, l4, l5, l6, l7, l8, l9, l10, l11, l12, l13] (zI i :: zR (some r) :: st) G h k ↔ (G.2.1 r = 11 ∧ (0 ≤ i ∧ i < G.2.2.1 r) ∧ zE 42 d Q 56 [l0, l1, l2, l3, l4, l5, l6, l7, l8, l9, l10, l11, l12, l13] (zL (h r i.toNat) :: st) G h k) := E_laload (by rfl)
theorem e42_56 : zE 42 d Q 56 [l0, l1, l2, l3, l4, l5, l6, l7, l8, l9, l10, l11, l12, l13] (zL x :: st) G h k ↔ zE 42 d Q 58 [l0, l1, l2, l3, l4, l5, l6, l7, (zclr l8), some (zL x), none, l11, l12, l13] st G h k := E_lstore (by rfl) (by decide)
theorem e42_58 : zE 42 d Q 58 [l0, l1, l2, l3, l4, l5, l6, l7, l8, l9, l10, l11, l12, l13] st G h k ↔ zE 42 d Q 59 [l0, l1, l2, l3, l4, l5, l6, l7, l8, l9, l10, l11, l12, l13] (zI 0 :: st) G h k := E_iconst (by rfl)
theorem e42_59 : zE 42 d Q 59 [l0, l1, l2, l3, l4, l5, l6, l7, l8, l9, l10, l11, l12, l13] (zI x :: st) G h k ↔ zE 42 d Q 61 [l0, l1, l2, l3, l4, l5, l6, l7, l8, l9, (zclr l10), some (zI x), l12, l13] st G h k := E_istore (by rfl) (by decide)
theorem e42_61 : zE 42 d Q 61 [l0, l1, l2, l3, l4, l5, l6, l7, l8, l9, l10, some (zI x), l12, l13] st G h k ↔ zE 42 d Q 63 [l0, l1, l2, l3, l4, l5, l6, l7, l8, l9, l10, some (zI x), l12, l13] (zI x :: st) G h k := E_iload (by rfl) rfl
theorem e42_63 : zE 42 d Q 63 [some (.inr (.inr w9)), l1, l2, l3, l4, l5, l6, l7, l8, l9, l10, l11, l12, l13] st G h k ↔ zE 42 d Q 64 [some (.inr (.inr w9)), l1, l2, l3, l4, l5, l6, l7, l8, l9, l10, l11, l12, l13] (.inr (.inr w9) :: st) G h k := E_aload_n (by rfl) rfl
theorem e42_64 : zE 42 d Q 64 [l0, l1, l2, l3, l4, l5, l6, l7, l8, l9, l10, l11, l12, l13] (zR (some r) :: st) G h k ↔ (G.2.1 r = 4 ∧ zE 42 d Q 67 [l0, l1, l2, l3, l4, l5, l6, l7, l8, l9, l10, l11, l12, l13] (zR (G.2.2.2 r 3) :: st) G h k) := E_getR (by rfl) rfl
theorem e42_67 : zE 42 d Q 67 [l0, l1, l2, l3, l4, l5, l6, some (zI x), l8, l9, l10, l11, l12, l13] st G h k ↔ zE 42 d Q 69 [l0, l1, l2, l3, l4, l5, l6, some (zI x), l8, l9, l10, l11, l12, l13] (zI x :: st) G h k := E_iload (by rfl) rfl
theorem e42_69 : zE 42 d Q 69 [l0, l1, l2, l3, l4, l5, l6, l7, l8, l9, l10, l11, l12, l13] (zI i :: zR (some r) :: st) G h k ↔ (G.2.1 r = 10 ∧ (0 ≤ i ∧ i < G.2.2.1 r) ∧ zE 42 d Q 70 [l0, l1, l2, l3, l4, l5, l6, l7, l8, l9, l10, l11, l12, l13] (zI (h r i.toNat) :: st) G h k) := E_iaload (by rfl)
theorem e42_70 : zE 42 d Q 70 [l0, l1, l2, l3, l4, l5, l6, l7, l8, l9, l10, l11, l12, l13] (zI y :: zI x :: st) G h k ↔ ((y ≤ x → zE 42 d Q 124 [l0, l1, l2, l3, l4, l5, l6, l7, l8, l9, l10, l11, l12, l13] st G h k) ∧ (¬ (y ≤ x) → zE 42 d Q 73 [l0, l1, l2, l3, l4, l5, l6, l7, l8, l9, l10, l11, l12, l13] st G h k)) := E_icmp_ge (by rfl)
theorem e42_73 : zE 42 d Q 73 [some (.inr (.inr w9)), l1, l2, l3, l4, l5, l6, l7, l8, l9, l10, l11, l12, l13] st G h k ↔ zE 42 d Q 74 [some (.inr (.inr w9)), l1, l2, l3, l4, l5, l6, l7, l8, l9, l10, l11, l12, l13] (.inr (.inr w9) :: st) G h k := E_aload_n (by rfl) rfl
theorem e42_74 : zE 42 d Q 74 [l0, l1, l2, l3, l4, l5, l6, l7, l8, l9, l10, l11, l12, l13] (zR (some r) :: st) G h k ↔ (G.2.1 r = 4 ∧ zE 42 d Q 77 [l0, l1, l2, l3, l4, l5, l6, l7, l8, l9, l10, l11, l12, l13] (zR (G.2.2.2 r 8) :: st) G h k) := E_getR (by rfl) rfl
theorem e42_77 : zE 42 d Q 77 [l0, l1, some (zI x), l3, l4, l5, l6, l7, l8, l9, l10, l11, l12, l13] st G h k ↔ zE 42 d Q 78 [l0, l1, some (zI x), l3, l4, l5, l6, l7, l8, l9, l10, l11, l12, l13] (zI x :: st) G h k := E_iload_n (by rfl) rfl
theorem e42_78 : zE 42 d Q 78 [l0, l1, l2, l3, l4, l5, l6, l7, some (zI x), l9, l10, l11, l12, l13] st G h k ↔ zE 42 d Q 80 [l0, l1, l2, l3, l4, l5, l6, l7, some (zI x), l9, l10, l11, l12, l13] (zI x :: st) G h k := E_iload (by rfl) rfl
theorem e42_80 : zE 42 d Q 80 [l0, l1, l2, l3, l4, l5, l6, l7, l8, l9, l10, some (zI x), l12, l13] st G h k ↔ zE 42 d Q 82 [l0, l1, l2, l3, l4, l5, l6, l7, l8, l9, l10, some (zI x), l12, l13] (zI x :: st) G h k := E_iload (by rfl) rfl
theorem e42_82 : zE 42 d Q 82 [some (.inr (.inr w9)), l1, l2, l3, l4, l5, l6, l7, l8, l9, l10, l11, l12, l13] st G h k ↔ zE 42 d Q 83 [some (.inr (.inr w9)), l1, l2, l3, l4, l5, l6, l7, l8, l9, l10, l11, l12, l13] (.inr (.inr w9) :: st) G h k := E_aload_n (by rfl) rfl
theorem e42_83 : zE 42 d Q 83 [l0, l1, l2, l3, l4, l5, l6, l7, l8, l9, l10, l11, l12, l13] (zR (some r) :: st) G h k ↔ (G.2.1 r = 4 ∧ zE 42 d Q 86 [l0, l1, l2, l3, l4, l5, l6, l7, l8, l9, l10, l11, l12, l13] (zR (G.2.2.2 r 4) :: st) G h k) := E_getR (by rfl) rfl
theorem e42_86 : zE 42 d Q 86 [l0, l1, l2, l3, l4, l5, l6, some (zI x), l8, l9, l10, l11, l12, l13] st G h k ↔ zE 42 d Q 88 [l0, l1, l2, l3, l4, l5, l6, some (zI x), l8, l9, l10, l11, l12, l13] (zI x :: st) G h k := E_iload (by rfl) rfl
theorem e42_88 : zE 42 d Q 88 [l0, l1, l2, l3, l4, l5, l6, l7, l8, l9, l10, l11, l12, l13] (zI i :: zR (some r) :: st) G h k ↔ (G.2.1 r = 10 ∧ (0 ≤ i ∧ i < G.2.2.1 r) ∧ zE 42 d Q 89 [l0, l1, l2, l3, l4, l5, l6, l7, l8, l9, l10, l11, l12, l13] (zI (h r i.toNat) :: st) G h k) := E_iaload (by rfl)
theorem e42_89 : zE 42 d Q 89 [l0, l1, l2, l3, l4, l5, l6, l7, l8, l9, l10, l11, l12, l13] (zI y :: zI x :: st) G h k ↔ zE 42 d Q 90 [l0, l1, l2, l3, l4, l5, l6, l7, l8, l9, l10, l11, l12, l13] (zI (wr (x * y)) :: st) G h k := E_imul (by rfl)
theorem e42_90 : zE 42 d Q 90 [l0, l1, l2, l3, l4, l5, l6, l7, l8, l9, l10, l11, l12, l13] (zI y :: zI x :: st) G h k ↔ zE 42 d Q 91 [l0, l1, l2, l3, l4, l5, l6, l7, l8, l9, l10, l11, l12, l13] (zI (wr (x + y)) :: st) G h k := E_iadd (by rfl)
theorem e42_91 : zE 42 d Q 91 [some (.inr (.inr w9)), l1, l2, l3, l4, l5, l6, l7, l8, l9, l10, l11, l12, l13] st G h k ↔ zE 42 d Q 92 [some (.inr (.inr w9)), l1, l2, l3, l4, l5, l6, l7, l8, l9, l10, l11, l12, l13] (.inr (.inr w9) :: st) G h k := E_aload_n (by rfl) rfl
theorem e42_92 : zE 42 d Q 92 [l0, l1, l2, l3, l4, l5, l6, l7, l8, l9, l10, l11, l12, l13] (zR (some r) :: st) G h k ↔ (G.2.1 r = 4 ∧ zE 42 d Q 95 [l0, l1, l2, l3, l4, l5, l6, l7, l8, l9, l10, l11, l12, l13] (zR (G.2.2.2 r 2) :: st) G h k) := E_getR (by rfl) rfl
theorem e42_95 : zE 42 d Q 95 [l0, l1, l2, l3, l4, l5, l6, l7, l8, l9, l10, l11, l12, l13] (zR (some r) :: st) G h k ↔ (G.2.1 r = 5 ∧ zE 42 d Q 98 [l0, l1, l2, l3, l4, l5, l6, l7, l8, l9, l10, l11, l12, l13] (zI (h r 9) :: st) G h k) := E_getI (by rfl) (by decide)
theorem e42_98 : zE 42 d Q 98 [l0, l1, l2, l3, l4, l5, l6, l7, l8, l9, l10, l11, l12, l13] (zI y :: zI x :: st) G h k ↔ zE 42 d Q 99 [l0, l1, l2, l3, l4, l5, l6, l7, l8, l9, l10, l11, l12, l13] (zI (wr (x * y)) :: st) G h k := E_imul (by rfl)
theorem e42_99 : zE 42 d Q 99 [l0, l1, l2, l3, l4, l5, l6, l7, l8, l9, l10, l11, l12, l13] (zI y :: zI x :: st) G h k ↔ zE 42 d Q 100 [l0, l1, l2, l3, l4, l5, l6, l7, l8, l9, l10, l11, l12, l13] (zI (wr (x + y)) :: st) G h k := E_iadd (by rfl)
theorem e42_100 : zE 42 d Q 100 [l0, l1, l2, l3, l4, l5, l6, some (zI x), l8, l9, l10, l11, l12, l13] st G h k ↔ zE 42 d Q 102 [l0, l1, l2, l3, l4, l5, l6, some (zI x), l8, l9, l10, l11, l12, l13] (zI x :: st) G h k := E_iload (by rfl) rfl
theorem e42_102 : zE 42 d Q 102 [l0, l1, l2, l3, l4, l5, l6, l7, l8, l9, l10, l11, l12, l13] (zI y :: zI x :: st) G h k ↔ zE 42 d Q 103 [l0, l1, l2, l3, l4, l5, l6, l7, l8, l9, l10, l11, l12, l13] (zI (wr (x + y)) :: st) G h k := E_iadd (by rfl)
theorem e42_103 : zE 42 d Q 103 [l0, l1, l2, l3, l4, l5, l6, l7, l8, l9, l10, l11, l12, l13] (zI i :: zR (some r) :: st) G h k ↔ (G.2.1 r = 11 ∧ (0 ≤ i ∧ i < G.2.2.1 r) ∧ zE 42 d Q 104 [l0, l1, l2, l3, l4, l5, l6, l7, l8, l9, l10, l11, l12, l13] (zL (h r i.toNat) :: st) G h k) := E_laload (by rfl)
theorem e42_104 : zE 42 d Q 104 [l0, l1, l2, l3, l4, l5, l6, l7, l8, some (zL x), l10, l11, l12, l13] st G h k ↔ zE 42 d Q 106 [l0, l1, l2, l3, l4, l5, l6, l7, l8, some (zL x), l10, l11, l12, l13] (zL x :: st) G h k := E_lload (by rfl) rfl
theorem e42_106 : zE 42 d Q 106 [l0, l1, l2, l3, l4, l5, l6, l7, l8, l9, l10, l11, l12, l13] (zL y :: zL x :: st) G h k ↔ zE 42 d Q 107 [l0, l1, l2, l3, l4, l5, l6, l7, l8, l9, l10, l11, l12, l13] (zL (wl (x - y)) :: st) G h k := E_lsub (by rfl)
theorem e42_107 : zE 42 d Q 107 [l0, l1, l2, l3, l4, l5, l6, l7, l8, l9, l10, l11, l12, l13] (zL x :: st) G h k ↔ zE 42 d Q 109 [l0, l1, l2, l3, l4, l5, l6, l7, l8, l9, l10, (zclr l11), some (zL x), none] st G h k := E_lstore (by rfl) (by decide)
theorem e42_109 : zE 42 d Q 109 [l0, l1, l2, l3, l4, some (zL x), l6, l7, l8, l9, l10, l11, l12, l13] st G h k ↔ zE 42 d Q 111 [l0, l1, l2, l3, l4, some (zL x), l6, l7, l8, l9, l10, l11, l12, l13] (zL x :: st) G h k := E_lload (by rfl) rfl
theorem e42_111 : zE 42 d Q 111 [l0, l1, l2, l3, l4, l5, l6, l7, l8, l9, l10, l11, some (zL x), l13] st G h k ↔ zE 42 d Q 113 [l0, l1, l2, l3, l4, l5, l6, l7, l8, l9, l10, l11, some (zL x), l13] (zL x :: st) G h k := E_lload (by rfl) rfl
theorem e42_113 : zE 42 d Q 113 [l0, l1, l2, l3, l4, l5, l6, l7, l8, l9, l10, l11, l12, l13] (v1 :: v0 :: st) G h k ↔ (zsum st ≤ 8 ∧ zRunD ztb zmt' d 216 [v0, v1] G h (fun v G' h' => zE 42 d Q 116 [l0, l1, l2, l3, l4, l5, l6, l7, l8, l9, l10, l11, l12, l13] (v.toList ++ st) G' h' k)) := E_invS2z (by rfl) (by decide) rfl
theorem e42_116 : zE 42 d Q 116 [l0, l1, l2, l3, l4, l5, l6, l7, l8, l9, l10, l11, l12, l13] (zL x :: st) G h k ↔ zE 42 d Q 118 [l0, l1, l2, l3, (zclr l4), some (zL x), none, l7, l8, l9, l10, l11, l12, l13] st G h k := E_lstore (by rfl) (by decide)
theorem e42_118 : zE 42 d Q 118 [l0, l1, l2, l3, l4, l5, l6, l7, l8, l9, l10, some (zI x), l12, l13] st G h k ↔ zE 42 d Q 121 [l0, l1, l2, l3, l4, l5, l6, l7, l8, l9, (zclr l10), some (zI (wr (x + 1))), l12, l13] st G h k := E_iinc (by rfl) rfl
theorem e42_121 : zE 42 d Q 121 [l0, l1, l2, l3, l4, l5, l6, l7, l8, l9, l10, l11, l12, l13] st G h k ↔ zE 42 d Q 61 [l0, l1, l2, l3, l4, l5, l6, l7, l8, l9, l10, l11, l12, l13] st G h k := E_goto (by rfl)
theorem e42_124 : zE 42 d Q 124 [l0, l1, l2, some (zL x), l4, l5, l6, l7, l8, l9, l10, l11, l12, l13] st G h k ↔ zE 42 d Q 125 [l0, l1, l2, some (zL x), l4, l5, l6, l7, l8, l9, l10, l11, l12, l13] (zL x :: st) G h k := E_lload_n (by rfl) rfl
theorem e42_125 : zE 42 d Q 125 [l0, l1, l2, l3, l4, l5, l6, l7, l8, l9, l10, l11, l12, l13] st G h k ↔ zE 42 d Q 128 [l0, l1, l2, l3, l4, l5, l6, l7, l8, l9, l10, l11, l12, l13] (zL (-9223372036854775808) :: st) G h k := E_ldc2_w (by rfl)
theorem e42_128 : zE 42 d Q 128 [l0, l1, l2, l3, l4, l5, l6, l7, l8, l9, l10, l11, l12, l13] (zL y :: zL x :: st) G h k ↔ zE 42 d Q 129 [l0, l1, l2, l3, l4, l5, l6, l7, l8, l9, l10, l11, l12, l13] (zI (zlc x y) :: st) G h k := E_lcmp (by rfl)
theorem e42_129 : zE 42 d Q 129 [l0, l1, l2, l3, l4, l5, l6, l7, l8, l9, l10, l11, l12, l13] (zI x :: st) G h k ↔ ((x = 0 → zE 42 d Q 142 [l0, l1, l2, l3, l4, l5, l6, l7, l8, l9, l10, l11, l12, l13] st G h k) ∧ (¬ (x = 0) → zE 42 d Q 132 [l0, l1, l2, l3, l4, l5, l6, l7, l8, l9, l10, l11, l12, l13] st G h k)) := E_if_eq (by rfl)
theorem e42_132 : zE 42 d Q 132 [l0, l1, l2, l3, l4, some (zL x), l6, l7, l8, l9, l10, l11, l12, l13] st G h k ↔ zE 42 d Q 134 [l0, l1, l2, l3, l4, some (zL x), l6, l7, l8, l9, l10, l11, l12, l13] (zL x :: st) G h k := E_lload (by rfl) rfl
theorem e42_134 : zE 42 d Q 134 [l0, l1, l2, some (zL x), l4, l5, l6, l7, l8, l9, l10, l11, l12, l13] st G h k ↔ zE 42 d Q 135 [l0, l1, l2, some (zL x), l4, l5, l6, l7, l8, l9, l10, l11, l12, l13] (zL x :: st) G h k := E_lload_n (by rfl) rfl
theorem e42_135 : zE 42 d Q 135 [l0, l1, l2, l3, l4, l5, l6, l7, l8, l9, l10, l11, l12, l13] (zL y :: zL x :: st) G h k ↔ zE 42 d Q 136 [l0, l1, l2, l3, l4, l5, l6, l7, l8, l9, l10, l11, l12, l13] (zI (zlc x y) :: st) G h k := E_lcmp (by rfl)
theorem e42_136 : zE 42 d Q 136 [l0, l1, l2, l3, l4, l5, l6, l7, l8, l9, l10, l11, l12, l13] (zI x :: st) G h k ↔ ((x < 0 → zE 42 d Q 142 [l0, l1, l2, l3, l4, l5, l6, l7, l8, l9, l10, l11, l12, l13] st G h k) ∧ (¬ (x < 0) → zE 42 d Q 139 [l0, l1, l2, l3, l4, l5, l6, l7, l8, l9, l10, l11, l12, l13] st G h k)) := E_if_lt (by rfl)
theorem e42_139 : zE 42 d Q 139 [l0, l1, l2, l3, l4, some (zL x), l6, l7, l8, l9, l10, l11, l12, l13] st G h k ↔ zE 42 d Q 141 [l0, l1, l2, l3, l4, some (zL x), l6, l7, l8, l9, l10, l11, l12, l13] (zL x :: st) G h k := E_lload (by rfl) rfl
theorem e42_141 : zE 42 d Q 141 [l0, l1, l2, l3, l4, l5, l6, l7, l8, l9, l10, l11, l12, l13] [zL x] G h k ↔ Q (some (zL x)) G h := E_lret (by rfl) rfl
theorem e42_142 : zE 42 d Q 142 [l0, l1, l2, l3, l4, l5, l6, some (zI x), l8, l9, l10, l11, l12, l13] st G h k ↔ zE 42 d Q 145 [l0, l1, l2, l3, l4, l5, (zclr l6), some (zI (wr (x + 1))), l8, l9, l10, l11, l12, l13] st G h k := E_iinc (by rfl) rfl
theorem e42_145 : zE 42 d Q 145 [l0, l1, l2, l3, l4, l5, l6, l7, l8, l9, l10, l11, l12, l13] st G h k ↔ zE 42 d Q 6 [l0, l1, l2, l3, l4, l5, l6, l7, l8, l9, l10, l11, l12, l13] st G h k := E_goto (by rfl)
theorem e42_148 : zE 42 d Q 148 [l0, l1, l2, l3, l4, some (zL x), l6, l7, l8, l9, l10, l11, l12, l13] st G h k ↔ zE 42 d Q 150 [l0, l1, l2, l3, l4, some (zL x), l6, l7, l8, l9, l10, l11, l12, l13] (zL x :: st) G h k := E_lload (by rfl) rfl
theorem e42_150 : zE 42 d Q 150 [l0, l1, l2, l3, l4, l5, l6, l7, l8, l9, l10, l11, l12, l13] [zL x] G h k ↔ Q (some (zL x)) G h := E_lret (by rfl) rfl
theorem e43_0 : zE 43 d Q 0 [some (.inr (.inr w9)), l1, l2, l3, l4] st G h k ↔ zE 43 d Q 1 [some (.inr (.inr w9)), l1, l2, l3, l4] (.inr (.inr w9) :: st) G h k := E_aload_n (by rfl) rfl
theorem e43_1 : zE 43 d Q 1 [l0, some (zI x), l2, l3, l4] st G h k ↔ zE 43 d Q 2 [l0, some (zI x), l2, l3, l4] (zI x :: st) G h k := E_iload_n (by rfl) rfl
theorem e43_2 : zE 43 d Q 2 [l0, l1, l2, l3, l4] (v0 :: zR (some r) :: st) G h k ↔ (zsum st ≤ 8 ∧ G.2.1 r = 4 ∧ zRunD ztb zmt' d 35 [zR (some r), v0] G h (fun v G' h' => zE 43 d Q 5 [l0, l1, l2, l3, l4] (v.toList ++ st) G' h' k)) := E_invV2z (by rfl) (by decide) rfl
theorem e43_5 : zE 43 d Q 5 [some (.inr (.inr w9)), l1, l2, l3, l4] st G h k ↔ zE 43 d Q 6 [some (.inr (.inr w9)), l1, l2, l3, l4] (.inr (.inr w9) :: st) G h k := E_aload_n (by rfl) rfl
theorem e43_6 : zE 43 d Q 6 [l0, l1, l2, l3, l4] (zR (some r) :: st) G h k ↔ (G.2.1 r = 4 ∧ zE 43 d Q 9 [l0, l1, l2, l3, l4] (zR (G.2.2.2 r 12) :: st) G h k) := E_getR (by rfl) rfl
theorem e43_9 : zE 43 d Q 9 [l0, l1, l2, l3, l4] st G h k ↔ zE 43 d Q 10 [l0, l1, l2, l3, l4] (zL 0 :: st) G h k := E_lconst (by rfl)
theorem e43_10 : zE 43 d Q 10 [l0, l1, l2, l3, l4] (v1 :: v0 :: st) G h k ↔ (zsum st ≤ 8 ∧ zRunD ztb zmt' d 218 [v0, v1] G h (fun v G' h' => zE 43 d Q 13 [l0, l1, l2, l3, l4] (v.toList ++ st) G' h' k)) := E_invS2z (by rfl) (by decide) rfl
theorem e43_13 : zE 43 d Q 13 [some (.inr (.inr w9)), l1, l2, l3, l4] st G h k ↔ zE 43 d Q 14 [some (.inr (.inr w9)), l1, l2, l3, l4] (.inr (.inr w9) :: st) G h k := E_aload_n (by rfl) rfl
theorem e43_14 : zE 43 d Q 14 [l0, l1, l2, l3, l4] (zR (some r) :: st) G h k ↔ (G.2.1 r = 4 ∧ zE 43 d Q 17 [l0, l1, l2, l3, l4] (zR (G.2.2.2 r 13) :: st) G h k) := E_getR (by rfl) rfl
theorem e43_17 : zE 43 d Q 17 [l0, l1, l2, l3, l4] st G h k ↔ zE 43 d Q 18 [l0, l1, l2, l3, l4] (zL 0 :: st) G h k := E_lconst (by rfl)
theorem e43_18 : zE 43 d Q 18 [l0, l1, l2, l3, l4] (v1 :: v0 :: st) G h k ↔ (zsum st ≤ 8 ∧ zRunD ztb zmt' d 218 [v0, v1] G h (fun v G' h' => zE 43 d Q 21 [l0, l1, l2, l3, l4] (v.toList ++ st) G' h' k)) := E_invS2z (by rfl) (by decide) rfl
theorem e43_21 : zE 43 d Q 21 [l0, some (zI x), l2, l3, l4] st G h k ↔ zE 43 d Q 22 [l0, some (zI x), l2, l3, l4] (zI x :: st) G h k := E_iload_n (by rfl) rfl
theorem e43_22 : zE 43 d Q 22 [l0, l1, l2, l3, l4] st G h k ↔ zE 43 d Q 23 [l0, l1, l2, l3, l4] (zI 3 :: st) G h k := E_iconst (by rfl)
theorem e43_23 : zE 43 d Q 23 [l0, l1, l2, l3, l4] (v1 :: v0 :: st) G h k ↔ (zsum st ≤ 8 ∧ zRunD ztb zmt' d 217 [v0, v1] G h (fun v G' h' => zE 43 d Q 26 [l0, l1, l2, l3, l4] (v.toList ++ st) G' h' k)) := E_invS2z (by rfl) (by decide) rfl
theorem e43_26 : zE 43 d Q 26 [l0, l1, l2, l3, l4] (zI x :: st) G h k ↔ zE 43 d Q 27 [l0, (zclr l1), some (zI x), l3, l4] st G h k := E_istore_n (by rfl) (by decide)
theorem e43_27 : zE 43 d Q 27 [l0, l1, some (zI x), l3, l4] st G h k ↔ zE 43 d Q 28 [l0, l1, some (zI x), l3, l4] (zI x :: st) G h k := E_iload_n (by rfl) rfl
theorem e43_28 : zE 43 d Q 28 [l0, l1, l2, l3, l4] st G h k ↔ zE 43 d Q 29 [l0, l1, l2, l3, l4] (zI 1 :: st) G h k := E_iconst (by rfl)
theorem e43_29 : zE 43 d Q 29 [l0, l1, l2, l3, l4] (zI y :: zI x :: st) G h k ↔ ((x < y → zE 43 d Q 154 [l0, l1, l2, l3, l4] st G h k) ∧ (¬ (x < y) → zE 43 d Q 32 [l0, l1, l2, l3, l4] st G h k)) := E_icmp_lt (by rfl)
theorem e43_32 : zE 43 d Q 32 [some (.inr (.inr w9)), l1, l2, l3, l4] st G h k ↔ zE 43 d Q 33 [some (.inr (.inr w9)), l1, l2, l3, l4] (.inr (.inr w9) :: st) G h k := E_aload_n (by rfl) rfl
theorem e43_33 : zE 43 d Q 33 [l0, l1, some (zI x), l3, l4] st G h k ↔ zE 43 d Q 34 [l0, l1, some (zI x), l3, l4] (zI x :: st) G h k := E_iload_n (by rfl) rfl
theorem e43_34 : zE 43 d Q 34 [l0, l1, l2, l3, l4] (v0 :: zR (some r) :: st) G h k ↔ (zsum st ≤ 8 ∧ G.2.1 r = 4 ∧ zRunD ztb zmt' d 40 [zR (some r), v0] G h (fun v G' h' => zE 43 d Q 37 [l0, l1, l2, l3, l4] (v.toList ++ st) G' h' k)) := E_invV2z (by rfl) (by decide) rfl
theorem e43_37 : zE 43 d Q 37 [l0, l1, l2, l3, l4] (zI x :: st) G h k ↔ zE 43 d Q 38 [l0, l1, (zclr l2), some (zI x), l4] st G h k := E_istore_n (by rfl) (by decide)
theorem e43_38 : zE 43 d Q 38 [some (.inr (.inr w9)), l1, l2, l3, l4] st G h k ↔ zE 43 d Q 39 [some (.inr (.inr w9)), l1, l2, l3, l4] (.inr (.inr w9) :: st) G h k := E_aload_n (by rfl) rfl
theorem e43_39 : zE 43 d Q 39 [l0, l1, l2, some (zI x), l4] st G h k ↔ zE 43 d Q 40 [l0, l1, l2, some (zI x), l4] (zI x :: st) G h k := E_iload_n (by rfl) rfl
theorem e43_40 : zE 43 d Q 40 [l0, l1, l2, l3, l4] (v0 :: zR (some r) :: st) G h k ↔ (zsum st ≤ 8 ∧ G.2.1 r = 4 ∧ zRunD ztb zmt' d 39 [zR (some r), v0] G h (fun v G' h' => zE 43 d Q 43 [l0, l1, l2, l3, l4] (v.toList ++ st) G' h' k)) := E_invV2z (by rfl) (by decide) rfl
theorem e43_43 : zE 43 d Q 43 [some (.inr (.inr w9)), l1, l2, l3, l4] st G h k ↔ zE 43 d Q 44 [some (.inr (.inr w9)), l1, l2, l3, l4] (.inr (.inr w9) :: st) G h k := E_aload_n (by rfl) rfl
theorem e43_44 : zE 43 d Q 44 [l0, l1, l2, l3, l4] (zR (some r) :: st) G h k ↔ (G.2.1 r = 4 ∧ zE 43 d Q 47 [l0, l1, l2, l3, l4] (zR (G.2.2.2 r 0) :: st) G h k) := E_getR (by rfl) rfl
theorem e43_47 : zE 43 d Q 47 [some (.inr (.inr w9)), l1, l2, l3, l4] st G h k ↔ zE 43 d Q 48 [some (.inr (.inr w9)), l1, l2, l3, l4] (.inr (.inr w9) :: st) G h k := E_aload_n (by rfl) rfl
theorem e43_48 : zE 43 d Q 48 [l0, l1, l2, l3, l4] (zR (some r) :: st) G h k ↔ (G.2.1 r = 4 ∧ zE 43 d Q 51 [l0, l1, l2, l3, l4] (zR (G.2.2.2 r 10) :: st) G h k) := E_getR (by rfl) rfl
theorem e43_51 : zE 43 d Q 51 [l0, l1, some (zI x), l3, l4] st G h k ↔ zE 43 d Q 52 [l0, l1, some (zI x), l3, l4] (zI x :: st) G h k := E_iload_n (by rfl) rfl
theorem e43_52 : zE 43 d Q 52 [l0, l1, l2, l3, l4] (zI i :: zR (some r) :: st) G h k ↔ (G.2.1 r = 14 ∧ (0 ≤ i ∧ i < G.2.2.1 r) ∧ zE 43 d Q 53 [l0, l1, l2, l3, l4] (zR (G.2.2.2 r i.toNat) :: st) G h k) := E_aaload (by rfl) (by decide)
theorem e43_53 : zE 43 d Q 53 [l0, l1, l2, l3, l4] st G h k ↔ zE 43 d Q 54 [l0, l1, l2, l3, l4] (zI 0 :: st) G h k := E_iconst (by rfl)
theorem e43_54 : zE 43 d Q 54 [some (.inr (.inr w9)), l1, l2, l3, l4] st G h k ↔ zE 43 d Q 55 [some (.inr (.inr w9)), l1, l2, l3, l4] (.inr (.inr w9) :: st) G h k := E_aload_n (by rfl) rfl
theorem e43_55 : zE 43 d Q 55 [l0, l1, l2, l3, l4] (zR (some r) :: st) G h k ↔ (G.2.1 r = 4 ∧ zE 43 d Q 58 [l0, l1, l2, l3, l4] (zR (G.2.2.2 r 6) :: st) G h k) := E_getR (by rfl) rfl
theorem e43_58 : zE 43 d Q 58 [l0, l1, l2, some (zI x), l4] st G h k ↔ zE 43 d Q 59 [l0, l1, l2, some (zI x), l4] (zI x :: st) G h k := E_iload_n (by rfl) rfl
theorem e43_59 : zE 43 d Q 59 [l0, l1, l2, l3, l4] st G h k ↔ zE 43 d Q 60 [l0, l1, l2, l3, l4] (zI 4 :: st) G h k := E_iconst (by rfl)
theorem e43_60 : zE 43 d Q 60 [l0, l1, l2, l3, l4] (zI y :: zI x :: st) G h k ↔ zE 43 d Q 61 [l0, l1, l2, l3, l4] (zI (wr (x * y)) :: st) G h k := E_imul (by rfl)
theorem e43_61 : zE 43 d Q 61 [l0, l1, l2, l3, l4] (v3 :: v2 :: v1 :: v0 :: zR (some r) :: st) G h k ↔ (zsum st ≤ 8 ∧ G.2.1 r = 6 ∧ zRunD ztb zmt' d 55 [zR (some r), v0, v1, v2, v3] G h (fun v G' h' => zE 43 d Q 64 [l0, l1, l2, l3, l4] (v.toList ++ st) G' h' k)) := E_invV2z (by rfl) (by decide) rfl
theorem e43_64 : zE 43 d Q 64 [l0, l1, l2, l3, l4] st G h k ↔ zE 43 d Q 65 [l0, l1, l2, l3, l4] (zI 0 :: st) G h k := E_iconst (by rfl)
theorem e43_65 : zE 43 d Q 65 [l0, l1, l2, l3, l4] (zI x :: st) G h k ↔ zE 43 d Q 67 [l0, l1, l2, (zclr l3), some (zI x)] st G h k := E_istore (by rfl) (by decide)
theorem e43_67 : zE 43 d Q 67 [l0, l1, l2, l3, some (zI x)] st G h k ↔ zE 43 d Q 69 [l0, l1, l2, l3, some (zI x)] (zI x :: st) G h k := E_iload (by rfl) rfl
theorem e43_69 : zE 43 d Q 69 [some (.inr (.inr w9)), l1, l2, l3, l4] st G h k ↔ zE 43 d Q 70 [some (.inr (.inr w9)), l1, l2, l3, l4] (.inr (.inr w9) :: st) G h k := E_aload_n (by rfl) rfl
theorem e43_70 : zE 43 d Q 70 [l0, l1, l2, l3, l4] (zR (some r) :: st) G h k ↔ (G.2.1 r = 4 ∧ zE 43 d Q 73 [l0, l1, l2, l3, l4] (zR (G.2.2.2 r 2) :: st) G h k) := E_getR (by rfl) rfl
theorem e43_73 : zE 43 d Q 73 [l0, l1, l2, l3, l4] (zR (some r) :: st) G h k ↔ (G.2.1 r = 5 ∧ zE 43 d Q 76 [l0, l1, l2, l3, l4] (zI (h r 10) :: st) G h k) := E_getI (by rfl) (by decide)
theorem e43_76 : zE 43 d Q 76 [l0, l1, l2, l3, l4] (zI y :: zI x :: st) G h k ↔ ((y ≤ x → zE 43 d Q 126 [l0, l1, l2, l3, l4] st G h k) ∧ (¬ (y ≤ x) → zE 43 d Q 79 [l0, l1, l2, l3, l4] st G h k)) := E_icmp_ge (by rfl)
theorem e43_79 : zE 43 d Q 79 [some (.inr (.inr w9)), l1, l2, l3, l4] st G h k ↔ zE 43 d Q 80 [some (.inr (.inr w9)), l1, l2, l3, l4] (.inr (.inr w9) :: st) G h k := E_aload_n (by rfl) rfl
theorem e43_80 : zE 43 d Q 80 [l0, l1, l2, l3, l4] (zR (some r) :: st) G h k ↔ (G.2.1 r = 4 ∧ zE 43 d Q 83 [l0, l1, l2, l3, l4] (zR (G.2.2.2 r 12) :: st) G h k) := E_getR (by rfl) rfl
theorem e43_83 : zE 43 d Q 83 [l0, l1, l2, l3, some (zI x)] st G h k ↔ zE 43 d Q 85 [l0, l1, l2, l3, some (zI x)] (zI x :: st) G h k := E_iload (by rfl) rfl
theorem e43_85 : zE 43 d Q 85 [l0, l1, l2, l3, l4] (zI x :: .inr (.inr w9) :: st) G h k ↔ zE 43 d Q 86 [l0, l1, l2, l3, l4] (zI x :: .inr (.inr w9) :: zI x :: .inr (.inr w9) :: st) G h k := E_dup2 (by rfl) rfl rfl
theorem e43_86 : zE 43 d Q 86 [l0, l1, l2, l3, l4] (zI i :: zR (some r) :: st) G h k ↔ (G.2.1 r = 11 ∧ (0 ≤ i ∧ i < G.2.2.1 r) ∧ zE 43 d Q 87 [l0, l1, l2, l3, l4] (zL (h r i.toNat) :: st) G h k) := E_laload (by rfl)
theorem e43_87 : zE 43 d Q 87 [some (.inr (.inr w9)), l1, l2, l3, l4] st G h k ↔ zE 43 d Q 88 [some (.inr (.inr w9)), l1, l2, l3, l4] (.inr (.inr w9) :: st) G h k := E_aload_n (by rfl) rfl
theorem e43_88 : zE 43 d Q 88 [l0, l1, l2, l3, l4] (zR (some r) :: st) G h k ↔ (G.2.1 r = 4 ∧ zE 43 d Q 91 [l0, l1, l2, l3, l4] (zR (G.2.2.2 r 0) :: st) G h k) := E_getR (by rfl) rfl
theorem e43_91 : zE 43 d Q 91 [l0, l1, l2, l3, l4] (zR (some r) :: st) G h k ↔ (G.2.1 r = 6 ∧ zE 43 d Q 94 [l0, l1, l2, l3, l4] (zR (G.2.2.2 r 6) :: st) G h k) := E_getR (by rfl) rfl
theorem e43_94 : zE 43 d Q 94 [l0, l1, l2, l3, some (zI x)] st G h k ↔ zE 43 d Q 96 [l0, l1, l2, l3, some (zI x)] (zI x :: st) G h k := E_iload (by rfl) rfl
theorem e43_96 : zE 43 d Q 96 [l0, l1, l2, l3, l4] (zI i :: zR (some r) :: st) G h k ↔ (G.2.1 r = 11 ∧ (0 ≤ i ∧ i < G.2.2.1 r) ∧ zE 43 d Q 97 [l0, l1, l2, l3, l4] (zL (h r i.toNat) :: st) G h k) := E_laload (by rfl)
theorem e43_97 : zE 43 d Q 97 [l0, l1, l2, l3, l4] (zL y :: zL x :: st) G h k ↔ zE 43 d Q 98 [l0, l1, l2, l3, l4] (zL (wl (x + y)) :: st) G h k := E_ladd (by rfl)
theorem e43_98 : zE 43 d Q 98 [l0, l1, l2, l3, l4] (zL x :: zI i :: zR (some r) :: st) G h k ↔ (G.2.1 r = 11 ∧ (0 ≤ i ∧ i < G.2.2.1 r) ∧ zE 43 d Q 99 [l0, l1, l2, l3, l4] st G (zu h r i.toNat x) k) := E_lastore (by rfl)
theorem e43_99 : zE 43 d Q 99 [some (.inr (.inr w9)), l1, l2, l3, l4] st G h k ↔ zE 43 d Q 100 [some (.inr (.inr w9)), l1, l2, l3, l4] (.inr (.inr w9) :: st) G h k := E_aload_n (by rfl) rfl
theorem e43_100 : zE 43 d Q 100 [l0, l1, l2, l3, l4] (zR (some r) :: st) G h k ↔ (G.2.1 r = 4 ∧ zE 43 d Q 103 [l0, l1, l2, l3, l4] (zR (G.2.2.2 r 13) :: st) G h k) := E_getR (by rfl) rfl
theorem e43_103 : zE 43 d Q 103 [l0, l1, l2, l3, some (zI x)] st G h k ↔ zE 43 d Q 105 [l0, l1, l2, l3, some (zI x)] (zI x :: st) G h k := E_iload (by rfl) rfl
theorem e43_105 : zE 43 d Q 105 [l0, l1, l2, l3, l4] (zI x :: .inr (.inr w9) :: st) G h k ↔ zE 43 d Q 106 [l0, l1, l2, l3, l4] (zI x :: .inr (.inr w9) :: zI x :: .inr (.inr w9) :: st) G h k := E_dup2 (by rfl) rfl rfl
theorem e43_106 : zE 43 d Q 106 [l0, l1, l2, l3, l4] (zI i :: zR (some r) :: st) G h k ↔ (G.2.1 r = 11 ∧ (0 ≤ i ∧ i < G.2.2.1 r) ∧ zE 43 d Q 107 [l0, l1, l2, l3, l4] (zL (h r i.toNat) :: st) G h k) := E_laload (by rfl)
theorem e43_107 : zE 43 d Q 107 [some (.inr (.inr w9)), l1, l2, l3, l4] st G h k ↔ zE 43 d Q 108 [some (.inr (.inr w9)), l1, l2, l3, l4] (.inr (.inr w9) :: st) G h k := E_aload_n (by rfl) rfl
theorem e43_108 : zE 43 d Q 108 [l0, l1, l2, l3, l4] (zR (some r) :: st) G h k ↔ (G.2.1 r = 4 ∧ zE 43 d Q 111 [l0, l1, l2, l3, l4] (zR (G.2.2.2 r 0) :: st) G h k) := E_getR (by rfl) rfl
theorem e43_111 : zE 43 d Q 111 [l0, l1, l2, l3, l4] (zR (some r) :: st) G h k ↔ (G.2.1 r = 6 ∧ zE 43 d Q 114 [l0, l1, l2, l3, l4] (zR (G.2.2.2 r 7) :: st) G h k) := E_getR (by rfl) rfl
theorem e43_114 : zE 43 d Q 114 [l0, l1, l2, l3, some (zI x)] st G h k ↔ zE 43 d Q 116 [l0, l1, l2, l3, some (zI x)] (zI x :: st) G h k := E_iload (by rfl) rfl
theorem e43_116 : zE 43 d Q 116 [l0, l1, l2, l3, l4] (zI i :: zR (some r) :: st) G h k ↔ (G.2.1 r = 10 ∧ (0 ≤ i ∧ i < G.2.2.1 r) ∧ zE 43 d Q 117 [l0, l1, l2, l3, l4] (zI (h r i.toNat) :: st) G h k) := E_iaload (by rfl)
theorem e43_117 : zE 43 d Q 117 [l0, l1, l2, l3, l4] (zI x :: st) G h k ↔ zE 43 d Q 118 [l0, l1, l2, l3, l4] (zL x :: st) G h k := E_i2l (by rfl)
theorem e43_118 : zE 43 d Q 118 [l0, l1, l2, l3, l4] (zL y :: zL x :: st) G h k ↔ zE 43 d Q 119 [l0, l1, l2, l3, l4] (zL (wl (x + y)) :: st) G h k := E_ladd (by rfl)
theorem e43_119 : zE 43 d Q 119 [l0, l1, l2, l3, l4] (zL x :: zI i :: zR (some r) :: st) G h k ↔ (G.2.1 r = 11 ∧ (0 ≤ i ∧ i < G.2.2.1 r) ∧ zE 43 d Q 120 [l0, l1, l2, l3, l4] st G (zu h r i.toNat x) k) := E_lastore (by rfl)
theorem e43_120 : zE 43 d Q 120 [l0, l1, l2, l3, some (zI x)] st G h k ↔ zE 43 d Q 123 [l0, l1, l2, (zclr l3), some (zI (wr (x + 1)))] st G h k := E_iinc (by rfl) rfl
theorem e43_123 : zE 43 d Q 123 [l0, l1, l2, l3, l4] st G h k ↔ zE 43 d Q 67 [l0, l1, l2, l3, l4] st G h k := E_goto (by rfl)
theorem e43_126 : zE 43 d Q 126 [some (.inr (.inr w9)), l1, l2, l3, l4] st G h k ↔ zE 43 d Q 127 [some (.inr (.inr w9)), l1, l2, l3, l4] (.inr (.inr w9) :: st) G h k := E_aload_n (by rfl) rfl
theorem e43_127 : zE 43 d Q 127 [l0, l1, l2, l3, l4] (zR (some r) :: st) G h k ↔ (G.2.1 r = 4 ∧ zE 43 d Q 130 [l0, l1, l2, l3, l4] (zR (G.2.2.2 r 0) :: st) G h k) := E_getR (by rfl) rfl
theorem e43_130 : zE 43 d Q 130 [l0, l1, l2, l3, l4] (zR (some r) :: st) G h k ↔ (G.2.1 r = 6 ∧ zE 43 d Q 133 [l0, l1, l2, l3, l4] (zR (G.2.2.2 r 8) :: st) G h k) := E_getR (by rfl) rfl
theorem e43_133 : zE 43 d Q 133 [l0, l1, l2, l3, l4] st G h k ↔ zE 43 d Q 134 [l0, l1, l2, l3, l4] (zI 0 :: st) G h k := E_iconst (by rfl)
theorem e43_134 : zE 43 d Q 134 [some (.inr (.inr w9)), l1, l2, l3, l4] st G h k ↔ zE 43 d Q 135 [some (.inr (.inr w9)), l1, l2, l3, l4] (.inr (.inr w9) :: st) G h k := E_aload_n (by rfl) rfl
theorem e43_135 : zE 43 d Q 135 [l0, l1, l2, l3, l4] (zR (some r) :: st) G h k ↔ (G.2.1 r = 4 ∧ zE 43 d Q 138 [l0, l1, l2, l3, l4] (zR (G.2.2.2 r 10) :: st) G h k) := E_getR (by rfl) rfl
theorem e43_138 : zE 43 d Q 138 [l0, l1, some (zI x), l3, l4] st G h k ↔ zE 43 d Q 139 [l0, l1, some (zI x), l3, l4] (zI x :: st) G h k := E_iload_n (by rfl) rfl
theorem e43_139 : zE 43 d Q 139 [l0, l1, l2, l3, l4] st G h k ↔ zE 43 d Q 140 [l0, l1, l2, l3, l4] (zI 1 :: st) G h k := E_iconst (by rfl)
theorem e43_140 : zE 43 d Q 140 [l0, l1, l2, l3, l4] (zI y :: zI x :: st) G h k ↔ zE 43 d Q 141 [l0, l1, l2, l3, l4] (zI (wr (x - y)) :: st) G h k := E_isub (by rfl)
theorem e43_141 : zE 43 d Q 141 [l0, l1, l2, l3, l4] (zI i :: zR (some r) :: st) G h k ↔ (G.2.1 r = 14 ∧ (0 ≤ i ∧ i < G.2.2.1 r) ∧ zE 43 d Q 142 [l0, l1, l2, l3, l4] (zR (G.2.2.2 r i.toNat) :: st) G h k) := E_aaload (by rfl) (by decide)
theorem e43_142 : zE 43 d Q 142 [l0, l1, l2, l3, l4] st G h k ↔ zE 43 d Q 143 [l0, l1, l2, l3, l4] (zI 0 :: st) G h k := E_iconst (by rfl)
theorem e43_143 : zE 43 d Q 143 [l0, l1, l2, l3, l4] st G h k ↔ zE 43 d Q 145 [l0, l1, l2, l3, l4] (zI 12 :: st) G h k := E_bipush (by rfl)
theorem e43_145 : zE 43 d Q 145 [l0, l1, l2, l3, l4] (zI i :: zI y :: zR (some r2) :: zI x :: zR (some r1) :: st) G h k ↔ (zsum st ≤ 8 ∧ G.2.1 r1 = 10 ∧ G.2.1 r2 = 10 ∧ 0 ≤ x ∧ 0 ≤ y ∧ 0 ≤ i ∧ x + i ≤ G.2.2.1 r1 ∧ y + i ≤ G.2.2.1 r2 ∧ zE 43 d Q 148 [l0, l1, l2, l3, l4] st G (zcp h r1 x.toNat r2 y.toNat i.toNat) k) := E_copy2 (by rfl) rfl (by decide)
theorem e43_148 : zE 43 d Q 148 [l0, l1, some (zI x), l3, l4] st G h k ↔ zE 43 d Q 151 [l0, (zclr l1), some (zI (wr (x + (-1)))), l3, l4] st G h k := E_iinc (by rfl) rfl
theorem e43_151 : zE 43 d Q 151 [l0, l1, l2, l3, l4] st G h k ↔ zE 43 d Q 27 [l0, l1, l2, l3, l4] st G h k := E_goto (by rfl)
theorem e43_154 : zE 43 d Q 154 [l0, l1, l2, l3, l4] [] G h k ↔ Q none G h := E_vret (by rfl) rfl
end SITES
