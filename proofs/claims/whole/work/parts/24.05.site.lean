section SITES
variable {d : Nat} {Q : zQ} {st : List zV} {G : zG} {h : zM} {k : zK} {x y i : Int} {r r1 r2 q : Nat} {w9 : Option Nat ⊕ Nat} {q9 : Option Nat} {v0 v1 v2 v3 v4 : zV} {l0 l1 l2 l3 l4 l5 l6 l7 l8 l9 l10 l11 l12 l13 l14 l15 : Option zV}
theorem e132_0 : zE 132 d Q 0 [l0, l1] st G h k ↔ zE 132 d Q 1 [l0, l1] (zI 1 :: st) G h k := E_iconst (by rfl)
theorem e132_1 : zE 132 d Q 1 [l0, l1] (zI x :: st) G h k ↔ zE 132 d Q 2 [(zclr l0), some (zI x)] st G h k := E_istore_n (by rfl) (by decide)
theorem e132_2 : zE 132 d Q 2 [l0, some (zI x)] st G h k ↔ zE 132 d Q 3 [l0, some (zI x)] (zI x :: st) G h k := E_iload_n (by rfl) rfl
theorem e132_3 : zE 132 d Q 3 [l0, l1] (zI x :: st) G h k ↔ ((x = 0 → zE 132 d Q 20 [l0, l1] st G h k) ∧ (¬ (x = 0) → zE 132 d Q 6 [l0, l1] st G h k)) := E_if_eq (by rfl)
theorem e132_6 : zE 132 d Q 6 [some (.inr (.inr w9)), l1] st G h k ↔ zE 132 d Q 7 [some (.inr (.inr w9)), l1] (.inr (.inr w9) :: st) G h k := E_aload_n (by rfl) rfl
theorem e132_7 : zE 132 d Q 7 [l0, l1] (zR (some r) :: st) G h k ↔ (zsum st ≤ 8 ∧ G.2.1 r = 9 ∧ zRunD ztb zmt' d 133 [zR (some r)] G h (fun v G' h' => zE 132 d Q 10 [l0, l1] (v.toList ++ st) G' h' k)) := E_invV2z (by rfl) (by decide) rfl
theorem e132_10 : zE 132 d Q 10 [some (.inr (.inr w9)), l1] st G h k ↔ zE 132 d Q 11 [some (.inr (.inr w9)), l1] (.inr (.inr w9) :: st) G h k := E_aload_n (by rfl) rfl
theorem e132_11 : zE 132 d Q 11 [l0, l1] st G h k ↔ zE 132 d Q 13 [l0, l1] (zI 59 :: st) G h k := E_bipush (by rfl)
theorem e132_13 : zE 132 d Q 13 [l0, l1] (v0 :: zR (some r) :: st) G h k ↔ (zsum st ≤ 8 ∧ G.2.1 r = 9 ∧ zRunD ztb zmt' d 129 [zR (some r), v0] G h (fun v G' h' => zE 132 d Q 16 [l0, l1] (v.toList ++ st) G' h' k)) := E_invV2z (by rfl) (by decide) rfl
theorem e132_16 : zE 132 d Q 16 [l0, l1] (zI x :: st) G h k ↔ zE 132 d Q 17 [(zclr l0), some (zI x)] st G h k := E_istore_n (by rfl) (by decide)
theorem e132_17 : zE 132 d Q 17 [l0, l1] st G h k ↔ zE 132 d Q 2 [l0, l1] st G h k := E_goto (by rfl)
theorem e132_20 : zE 132 d Q 20 [some (.inr (.inr w9)), l1] st G h k ↔ zE 132 d Q 21 [some (.inr (.inr w9)), l1] (.inr (.inr w9) :: st) G h k := E_aload_n (by rfl) rfl
theorem e132_21 : zE 132 d Q 21 [l0, l1] (zR (some r) :: st) G h k ↔ (G.2.1 r = 9 ∧ zE 132 d Q 24 [l0, l1] (zI (h r 9) :: st) G h k) := E_getI (by rfl) (by decide)
theorem e132_24 : zE 132 d Q 24 [l0, l1] st G h k ↔ zE 132 d Q 25 [l0, l1] (zI 1 :: st) G h k := E_iconst (by rfl)
theorem e132_25 : zE 132 d Q 25 [l0, l1] (zI y :: zI x :: st) G h k ↔ ((x = y → zE 132 d Q 33 [l0, l1] st G h k) ∧ (¬ (x = y) → zE 132 d Q 28 [l0, l1] st G h k)) := E_icmp_eq (by rfl)
theorem e132_28 : zE 132 d Q 28 [some (.inr (.inr w9)), l1] st G h k ↔ zE 132 d Q 29 [some (.inr (.inr w9)), l1] (.inr (.inr w9) :: st) G h k := E_aload_n (by rfl) rfl
theorem e132_29 : zE 132 d Q 29 [l0, l1] st G h k ↔ zE 132 d Q 30 [l0, l1] (zI 1 :: st) G h k := E_iconst (by rfl)
theorem e132_30 : zE 132 d Q 30 [l0, l1] (v0 :: zR (some r) :: st) G h k ↔ (zsum st ≤ 8 ∧ G.2.1 r = 9 ∧ zRunD ztb zmt' d 126 [zR (some r), v0] G h (fun v G' h' => zE 132 d Q 33 [l0, l1] (v.toList ++ st) G' h' k)) := E_invV2z (by rfl) (by decide) rfl
theorem e132_33 : zE 132 d Q 33 [some (.inr (.inr w9)), l1] st G h k ↔ zE 132 d Q 34 [some (.inr (.inr w9)), l1] (.inr (.inr w9) :: st) G h k := E_aload_n (by rfl) rfl
theorem e132_34 : zE 132 d Q 34 [l0, l1] (zR (some r) :: st) G h k ↔ (G.2.1 r = 9 ∧ zE 132 d Q 37 [l0, l1] (zR (G.2.2.2 r 4) :: st) G h k) := E_getR (by rfl) rfl
theorem e132_37 : zE 132 d Q 37 [l0, l1] (zR (some r) :: st) G h k ↔ (G.2.1 r = 8 ∧ zE 132 d Q 40 [l0, l1] (zI (h r 0) :: st) G h k) := E_getI (by rfl) (by decide)
theorem e132_40 : zE 132 d Q 40 [l0, l1] st G h k ↔ zE 132 d Q 41 [l0, l1] (zI 2 :: st) G h k := E_iconst (by rfl)
theorem e132_41 : zE 132 d Q 41 [l0, l1] (zI y :: zI x :: st) G h k ↔ ((x < y → zE 132 d Q 75 [l0, l1] st G h k) ∧ (¬ (x < y) → zE 132 d Q 44 [l0, l1] st G h k)) := E_icmp_lt (by rfl)
theorem e132_44 : zE 132 d Q 44 [some (.inr (.inr w9)), l1] st G h k ↔ zE 132 d Q 45 [some (.inr (.inr w9)), l1] (.inr (.inr w9) :: st) G h k := E_aload_n (by rfl) rfl
theorem e132_45 : zE 132 d Q 45 [l0, l1] (zR (some r) :: st) G h k ↔ (G.2.1 r = 9 ∧ zE 132 d Q 48 [l0, l1] (zR (G.2.2.2 r 4) :: st) G h k) := E_getR (by rfl) rfl
theorem e132_48 : zE 132 d Q 48 [l0, l1] (zR (some r) :: st) G h k ↔ (G.2.1 r = 8 ∧ zE 132 d Q 51 [l0, l1] (zI (h r 1) :: st) G h k) := E_getI (by rfl) (by decide)
theorem e132_51 : zE 132 d Q 51 [l0, l1] (zI x :: st) G h k ↔ ((x = 0 → zE 132 d Q 75 [l0, l1] st G h k) ∧ (¬ (x = 0) → zE 132 d Q 54 [l0, l1] st G h k)) := E_if_eq (by rfl)
theorem e132_54 : zE 132 d Q 54 [some (.inr (.inr w9)), l1] st G h k ↔ zE 132 d Q 55 [some (.inr (.inr w9)), l1] (.inr (.inr w9) :: st) G h k := E_aload_n (by rfl) rfl
theorem e132_55 : zE 132 d Q 55 [l0, l1] (zR (some r) :: st) G h k ↔ (G.2.1 r = 9 ∧ zE 132 d Q 58 [l0, l1] (zR (G.2.2.2 r 4) :: st) G h k) := E_getR (by rfl) rfl
theorem e132_58 : zE 132 d Q 58 [l0, l1] (zR (some r) :: st) G h k ↔ (G.2.1 r = 8 ∧ zE 132 d Q 61 [l0, l1] (zI (h r 2) :: st) G h k) := E_getI (by rfl) (by decide)
theorem e132_61 : zE 132 d Q 61 [l0, l1] (zI x :: st) G h k ↔ ((x = 0 → zE 132 d Q 75 [l0, l1] st G h k) ∧ (¬ (x = 0) → zE 132 d Q 64 [l0, l1] st G h k)) := E_if_eq (by rfl)
theorem e132_64 : zE 132 d Q 64 [some (.inr (.inr w9)), l1] st G h k ↔ zE 132 d Q 65 [some (.inr (.inr w9)), l1] (.inr (.inr w9) :: st) G h k := E_aload_n (by rfl) rfl
theorem e132_65 : zE 132 d Q 65 [l0, l1] (zR (some r) :: st) G h k ↔ (G.2.1 r = 9 ∧ zE 132 d Q 68 [l0, l1] (zR (G.2.2.2 r 4) :: st) G h k) := E_getR (by rfl) rfl
theorem e132_68 : zE 132 d Q 68 [l0, l1] (zR (some r) :: st) G h k ↔ (G.2.1 r = 8 ∧ zE 132 d Q 71 [l0, l1] (zI (h r 3) :: st) G h k) := E_getI (by rfl) (by decide)
theorem e132_71 : zE 132 d Q 71 [l0, l1] st G h k ↔ zE 132 d Q 72 [l0, l1] (zI (-1) :: st) G h k := E_iconst (by rfl)
theorem e132_72 : zE 132 d Q 72 [l0, l1] (zI y :: zI x :: st) G h k ↔ ((¬ x = y → zE 132 d Q 81 [l0, l1] st G h k) ∧ (¬ (¬ x = y) → zE 132 d Q 75 [l0, l1] st G h k)) := E_icmp_ne (by rfl)
theorem e132_75 : zE 132 d Q 75 [some (.inr (.inr w9)), l1] st G h k ↔ zE 132 d Q 76 [some (.inr (.inr w9)), l1] (.inr (.inr w9) :: st) G h k := E_aload_n (by rfl) rfl
theorem e132_76 : zE 132 d Q 76 [l0, l1] st G h k ↔ zE 132 d Q 78 [l0, l1] (zI 6 :: st) G h k := E_bipush (by rfl)
theorem e132_78 : zE 132 d Q 78 [l0, l1] (v0 :: zR (some r) :: st) G h k ↔ (zsum st ≤ 8 ∧ G.2.1 r = 9 ∧ zRunD ztb zmt' d 126 [zR (some r), v0] G h (fun v G' h' => zE 132 d Q 81 [l0, l1] (v.toList ++ st) G' h' k)) := E_invV2z (by rfl) (by decide) rfl
theorem e132_81 : zE 132 d Q 81 [l0, l1] [] G h k ↔ Q none G h := E_vret (by rfl) rfl
theorem e133_0 : zE 133 d Q 0 [some (.inr (.inr w9))] st G h k ↔ zE 133 d Q 1 [some (.inr (.inr w9))] (.inr (.inr w9) :: st) G h k := E_aload_n (by rfl) rfl
theorem e133_1 : zE 133 d Q 1 [l0] st G h k ↔ zE 133 d Q 3 [l0] (zT 0 :: st) G h k := E_ldcS (by rfl) (by decide)
theorem e133_3 : zE 133 d Q 3 [l0] (v0 :: zR (some r) :: st) G h k ↔ (zsum st ≤ 8 ∧ G.2.1 r = 9 ∧ zRunD ztb zmt' d 128 [zR (some r), v0] G h (fun v G' h' => zE 133 d Q 6 [l0] (v.toList ++ st) G' h' k)) := E_invV2z (by rfl) (by decide) rfl
theorem e133_6 : zE 133 d Q 6 [l0] (zI x :: st) G h k ↔ ((x = 0 → zE 133 d Q 16 [l0] st G h k) ∧ (¬ (x = 0) → zE 133 d Q 9 [l0] st G h k)) := E_if_eq (by rfl)
theorem e133_9 : zE 133 d Q 9 [some (.inr (.inr w9))] st G h k ↔ zE 133 d Q 10 [some (.inr (.inr w9))] (.inr (.inr w9) :: st) G h k := E_aload_n (by rfl) rfl
theorem e133_10 : zE 133 d Q 10 [l0] (zR (some r) :: st) G h k ↔ (zsum st ≤ 8 ∧ G.2.1 r = 9 ∧ zRunD ztb zmt' d 135 [zR (some r)] G h (fun v G' h' => zE 133 d Q 13 [l0] (v.toList ++ st) G' h' k)) := E_invV2z (by rfl) (by decide) rfl
theorem e133_13 : zE 133 d Q 13 [l0] st G h k ↔ zE 133 d Q 69 [l0] st G h k := E_goto (by rfl)
theorem e133_16 : zE 133 d Q 16 [some (.inr (.inr w9))] st G h k ↔ zE 133 d Q 17 [some (.inr (.inr w9))] (.inr (.inr w9) :: st) G h k := E_aload_n (by rfl) rfl
theorem e133_17 : zE 133 d Q 17 [l0] st G h k ↔ zE 133 d Q 19 [l0] (zT 1 :: st) G h k := E_ldcS (by rfl) (by decide)
theorem e133_19 : zE 133 d Q 19 [l0] (v0 :: zR (some r) :: st) G h k ↔ (zsum st ≤ 8 ∧ G.2.1 r = 9 ∧ zRunD ztb zmt' d 128 [zR (some r), v0] G h (fun v G' h' => zE 133 d Q 22 [l0] (v.toList ++ st) G' h' k)) := E_invV2z (by rfl) (by decide) rfl
theorem e133_22 : zE 133 d Q 22 [l0] (zI x :: st) G h k ↔ ((x = 0 → zE 133 d Q 32 [l0] st G h k) ∧ (¬ (x = 0) → zE 133 d Q 25 [l0] st G h k)) := E_if_eq (by rfl)
theorem e133_25 : zE 133 d Q 25 [some (.inr (.inr w9))] st G h k ↔ zE 133 d Q 26 [some (.inr (.inr w9))] (.inr (.inr w9) :: st) G h k := E_aload_n (by rfl) rfl
theorem e133_26 : zE 133 d Q 26 [l0] (zR (some r) :: st) G h k ↔ (zsum st ≤ 8 ∧ G.2.1 r = 9 ∧ zRunD ztb zmt' d 136 [zR (some r)] G h (fun v G' h' => zE 133 d Q 29 [l0] (v.toList ++ st) G' h' k)) := E_invV2z (by rfl) (by decide) rfl
theorem e133_29 : zE 133 d Q 29 [l0] st G h k ↔ zE 133 d Q 69 [l0] st G h k := E_goto (by rfl)
theorem e133_32 : zE 133 d Q 32 [some (.inr (.inr w9))] st G h k ↔ zE 133 d Q 33 [some (.inr (.inr w9))] (.inr (.inr w9) :: st) G h k := E_aload_n (by rfl) rfl
theorem e133_33 : zE 133 d Q 33 [l0] st G h k ↔ zE 133 d Q 35 [l0] (zT 2 :: st) G h k := E_ldcS (by rfl) (by decide)
theorem e133_35 : zE 133 d Q 35 [l0] (v0 :: zR (some r) :: st) G h k ↔ (zsum st ≤ 8 ∧ G.2.1 r = 9 ∧ zRunD ztb zmt' d 128 [zR (some r), v0] G h (fun v G' h' => zE 133 d Q 38 [l0] (v.toList ++ st) G' h' k)) := E_invV2z (by rfl) (by decide) rfl
theorem e133_38 : zE 133 d Q 38 [l0] (zI x :: st) G h k ↔ ((x = 0 → zE 133 d Q 48 [l0] st G h k) ∧ (¬ (x = 0) → zE 133 d Q 41 [l0] st G h k)) := E_if_eq (by rfl)
theorem e133_41 : zE 133 d Q 41 [some (.inr (.inr w9))] st G h k ↔ zE 133 d Q 42 [some (.inr (.inr w9))] (.inr (.inr w9) :: st) G h k := E_aload_n (by rfl) rfl
theorem e133_42 : zE 133 d Q 42 [l0] (zR (some r) :: st) G h k ↔ (zsum st ≤ 8 ∧ G.2.1 r = 9 ∧ zRunD ztb zmt' d 137 [zR (some r)] G h (fun v G' h' => zE 133 d Q 45 [l0] (v.toList ++ st) G' h' k)) := E_invV2z (by rfl) (by decide) rfl
theorem e133_45 : zE 133 d Q 45 [l0] st G h k ↔ zE 133 d Q 69 [l0] st G h k := E_goto (by rfl)
theorem e133_48 : zE 133 d Q 48 [some (.inr (.inr w9))] st G h k ↔ zE 133 d Q 49 [some (.inr (.inr w9))] (.inr (.inr w9) :: st) G h k := E_aload_n (by rfl) rfl
theorem e133_49 : zE 133 d Q 49 [l0] st G h k ↔ zE 133 d Q 51 [l0] (zT 3 :: st) G h k := E_ldcS (by rfl) (by decide)
theorem e133_51 : zE 133 d Q 51 [l0] (v0 :: zR (some r) :: st) G h k ↔ (zsum st ≤ 8 ∧ G.2.1 r = 9 ∧ zRunD ztb zmt' d 128 [zR (some r), v0] G h (fun v G' h' => zE 133 d Q 54 [l0] (v.toList ++ st) G' h' k)) := E_invV2z (by rfl) (by decide) rfl
theorem e133_54 : zE 133 d Q 54 [l0] (zI x :: st) G h k ↔ ((x = 0 → zE 133 d Q 64 [l0] st G h k) ∧ (¬ (x = 0) → zE 133 d Q 57 [l0] st G h k)) := E_if_eq (by rfl)
theorem e133_57 : zE 133 d Q 57 [some (.inr (.inr w9))] st G h k ↔ zE 133 d Q 58 [some (.inr (.inr w9))] (.inr (.inr w9) :: st) G h k := E_aload_n (by rfl) rfl
theorem e133_58 : zE 133 d Q 58 [l0] (zR (some r) :: st) G h k ↔ (zsum st ≤ 8 ∧ G.2.1 r = 9 ∧ zRunD ztb zmt' d 138 [zR (some r)] G h (fun v G' h' => zE 133 d Q 61 [l0] (v.toList ++ st) G' h' k)) := E_invV2z (by rfl) (by decide) rfl
theorem e133_61 : zE 133 d Q 61 [l0] st G h k ↔ zE 133 d Q 69 [l0] st G h k := E_goto (by rfl)
theorem e133_64 : zE 133 d Q 64 [some (.inr (.inr w9))] st G h k ↔ zE 133 d Q 65 [some (.inr (.inr w9))] (.inr (.inr w9) :: st) G h k := E_aload_n (by rfl) rfl
theorem e133_65 : zE 133 d Q 65 [l0] st G h k ↔ zE 133 d Q 66 [l0] (zI 1 :: st) G h k := E_iconst (by rfl)
theorem e133_66 : zE 133 d Q 66 [l0] (v0 :: zR (some r) :: st) G h k ↔ (zsum st ≤ 8 ∧ G.2.1 r = 9 ∧ zRunD ztb zmt' d 126 [zR (some r), v0] G h (fun v G' h' => zE 133 d Q 69 [l0] (v.toList ++ st) G' h' k)) := E_invV2z (by rfl) (by decide) rfl
theorem e133_69 : zE 133 d Q 69 [l0] [] G h k ↔ Q none G h := E_vret (by rfl) rfl
theorem e134_0 : zE 134 d Q 0 [l0, some (zI x)] st G h k ↔ zE 134 d Q 1 [l0, some (zI x)] (zI x :: st) G h k := E_iload_n (by rfl) rfl
theorem e134_1 : zE 134 d Q 1 [l0, l1] (zI x :: st) G h k ↔ ((x = 0 → zE 134 d Q 9 [l0, l1] st G h k) ∧ (¬ (x = 0) → zE 134 d Q 4 [l0, l1] st G h k)) := E_if_eq (by rfl)
theorem e134_4 : zE 134 d Q 4 [some (.inr (.inr w9)), l1] st G h k ↔ zE 134 d Q 5 [some (.inr (.inr w9)), l1] (.inr (.inr w9) :: st) G h k := E_aload_n (by rfl) rfl
theorem e134_5 : zE 134 d Q 5 [l0, l1] st G h k ↔ zE 134 d Q 6 [l0, l1] (zI 5 :: st) G h k := E_iconst (by rfl)
theorem e134_6 : zE 134 d Q 6 [l0, l1] (v0 :: zR (some r) :: st) G h k ↔ (zsum st ≤ 8 ∧ G.2.1 r = 9 ∧ zRunD ztb zmt' d 126 [zR (some r), v0] G h (fun v G' h' => zE 134 d Q 9 [l0, l1] (v.toList ++ st) G' h' k)) := E_invV2z (by rfl) (by decide) rfl
theorem e134_9 : zE 134 d Q 9 [some (.inr (.inr w9)), l1] st G h k ↔ zE 134 d Q 10 [some (.inr (.inr w9)), l1] (.inr (.inr w9) :: st) G h k := E_aload_n (by rfl) rfl
theorem e134_10 : zE 134 d Q 10 [l0, l1] (zR (some r) :: st) G h k ↔ (zsum st ≤ 8 ∧ G.2.1 r = 9 ∧ zRunD ztb zmt' d 125 [zR (some r)] G h (fun v G' h' => zE 134 d Q 13 [l0, l1] (v.toList ++ st) G' h' k)) := E_invV2z (by rfl) (by decide) rfl
theorem e134_13 : zE 134 d Q 13 [some (.inr (.inr w9)), l1] st G h k ↔ zE 134 d Q 14 [some (.inr (.inr w9)), l1] (.inr (.inr w9) :: st) G h k := E_aload_n (by rfl) rfl
theorem e134_14 : zE 134 d Q 14 [l0, l1] (zR (some r) :: st) G h k ↔ (G.2.1 r = 9 ∧ zE 134 d Q 17 [l0, l1] (zI (h r 9) :: st) G h k) := E_getI (by rfl) (by decide)
theorem e134_17 : zE 134 d Q 17 [l0, l1] st G h k ↔ zE 134 d Q 18 [l0, l1] (zI 2 :: st) G h k := E_iconst (by rfl)
theorem e134_18 : zE 134 d Q 18 [l0, l1] (zI y :: zI x :: st) G h k ↔ ((¬ x = y → zE 134 d Q 57 [l0, l1] st G h k) ∧ (¬ (¬ x = y) → zE 134 d Q 21 [l0, l1] st G h k)) := E_icmp_ne (by rfl)
theorem e134_21 : zE 134 d Q 21 [some (.inr (.inr w9)), l1] st G h k ↔ zE 134 d Q 22 [some (.inr (.inr w9)), l1] (.inr (.inr w9) :: st) G h k := E_aload_n (by rfl) rfl
theorem e134_22 : zE 134 d Q 22 [l0, l1] st G h k ↔ zE 134 d Q 24 [l0, l1] (zT 0 :: st) G h k := E_ldcS (by rfl) (by decide)
theorem e134_24 : zE 134 d Q 24 [l0, l1] (v0 :: zR (some r) :: st) G h k ↔ (zsum st ≤ 8 ∧ G.2.1 r = 9 ∧ zRunD ztb zmt' d 128 [zR (some r), v0] G h (fun v G' h' => zE 134 d Q 27 [l0, l1] (v.toList ++ st) G' h' k)) := E_invV2z (by rfl) (by decide) rfl
theorem e134_27 : zE 134 d Q 27 [l0, l1] (zI x :: st) G h k ↔ ((¬ x = 0 → zE 134 d Q 57 [l0, l1] st G h k) ∧ (¬ (¬ x = 0) → zE 134 d Q 30 [l0, l1] st G h k)) := E_if_ne (by rfl)
theorem e134_30 : zE 134 d Q 30 [some (.inr (.inr w9)), l1] st G h k ↔ zE 134 d Q 31 [some (.inr (.inr w9)), l1] (.inr (.inr w9) :: st) G h k := E_aload_n (by rfl) rfl
theorem e134_31 : zE 134 d Q 31 [l0, l1] st G h k ↔ zE 134 d Q 33 [l0, l1] (zT 1 :: st) G h k := E_ldcS (by rfl) (by decide)
theorem e134_33 : zE 134 d Q 33 [l0, l1] (v0 :: zR (some r) :: st) G h k ↔ (zsum st ≤ 8 ∧ G.2.1 r = 9 ∧ zRunD ztb zmt' d 128 [zR (some r), v0] G h (fun v G' h' => zE 134 d Q 36 [l0, l1] (v.toList ++ st) G' h' k)) := E_invV2z (by rfl) (by decide) rfl
theorem e134_36 : zE 134 d Q 36 [l0, l1] (zI x :: st) G h k ↔ ((¬ x = 0 → zE 134 d Q 57 [l0, l1] st G h k) ∧ (¬ (¬ x = 0) → zE 134 d Q 39 [l0, l1] st G h k)) := E_if_ne (by rfl)
theorem e134_39 : zE 134 d Q 39 [some (.inr (.inr w9)), l1] st G h k ↔ zE 134 d Q 40 [some (.inr (.inr w9)), l1] (.inr (.inr w9) :: st) G h k := E_aload_n (by rfl) rfl
theorem e134_40 : zE 134 d Q 40 [l0, l1] st G h k ↔ zE 134 d Q 42 [l0, l1] (zT 2 :: st) G h k := E_ldcS (by rfl) (by decide)
theorem e134_42 : zE 134 d Q 42 [l0, l1] (v0 :: zR (some r) :: st) G h k ↔ (zsum st ≤ 8 ∧ G.2.1 r = 9 ∧ zRunD ztb zmt' d 128 [zR (some r), v0] G h (fun v G' h' => zE 134 d Q 45 [l0, l1] (v.toList ++ st) G' h' k)) := E_invV2z (by rfl) (by decide) rfl
theorem e134_45 : zE 134 d Q 45 [l0, l1] (zI x :: st) G h k ↔ ((¬ x = 0 → zE 134 d Q 57 [l0, l1] st G h k) ∧ (¬ (¬ x = 0) → zE 134 d Q 48 [l0, l1] st G h k)) := E_if_ne (by rfl)
theorem e134_48 : zE 134 d Q 48 [some (.inr (.inr w9)), l1] st G h k ↔ zE 134 d Q 49 [some (.inr (.inr w9)), l1] (.inr (.inr w9) :: st) G h k := E_aload_n (by rfl) rfl
theorem e134_49 : zE 134 d Q 49 [l0, l1] st G h k ↔ zE 134 d Q 51 [l0, l1] (zT 3 :: st) G h k := E_ldcS (by rfl) (by decide)
theorem e134_51 : zE 134 d Q 51 [l0, l1] (v0 :: zR (some r) :: st) G h k ↔ (zsum st ≤ 8 ∧ G.2.1 r = 9 ∧ zRunD ztb zmt' d 128 [zR (some r), v0] G h (fun v G' h' => zE 134 d Q 54 [l0, l1] (v.toList ++ st) G' h' k)) := E_invV2z (by rfl) (by decide) rfl
theorem e134_54 : zE 134 d Q 54 [l0, l1] (zI x :: st) G h k ↔ ((x = 0 → zE 134 d Q 62 [l0, l1] st G h k) ∧ (¬ (x = 0) → zE 134 d Q 57 [l0, l1] st G h k)) := E_if_eq (by rfl)
theorem e134_57 : zE 134 d Q 57 [some (.inr (.inr w9)), l1] st G h k ↔ zE 134 d Q 58 [some (.inr (.inr w9)), l1] (.inr (.inr w9) :: st) G h k := E_aload_n (by rfl) rfl
theorem e134_58 : zE 134 d Q 58 [l0, l1] st G h k ↔ zE 134 d Q 59 [l0, l1] (zI 1 :: st) G h k := E_iconst (by rfl)
theorem e134_59 : zE 134 d Q 59 [l0, l1] (v0 :: zR (some r) :: st) G h k ↔ (zsum st ≤ 8 ∧ G.2.1 r = 9 ∧ zRunD ztb zmt' d 126 [zR (some r), v0] G h (fun v G' h' => zE 134 d Q 62 [l0, l1] (v.toList ++ st) G' h' k)) := E_invV2z (by rfl) (by decide) rfl
theorem e134_62 : zE 134 d Q 62 [some (.inr (.inr w9)), l1] st G h k ↔ zE 134 d Q 63 [some (.inr (.inr w9)), l1] (.inr (.inr w9) :: st) G h k := E_aload_n (by rfl) rfl
theorem e134_63 : zE 134 d Q 63 [l0, l1] (zR (some r) :: st) G h k ↔ (G.2.1 r = 9 ∧ zE 134 d Q 66 [l0, l1] (zR (G.2.2.2 r 4) :: st) G h k) := E_getR (by rfl) rfl
theorem e134_66 : zE 134 d Q 66 [some (.inr (.inr w9)), l1] st G h k ↔ zE 134 d Q 67 [some (.inr (.inr w9)), l1] (.inr (.inr w9) :: st) G h k := E_aload_n (by rfl) rfl
theorem e134_67 : zE 134 d Q 67 [l0, l1] (zR (some r) :: st) G h k ↔ (G.2.1 r = 9 ∧ zE 134 d Q 70 [l0, l1] (zL (h r 15) :: st) G h k) := E_getL (by rfl) rfl
theorem e134_70 : zE 134 d Q 70 [l0, l1] (v0 :: zR (some r) :: st) G h k ↔ (zsum st ≤ 8 ∧ G.2.1 r = 8 ∧ zRunD ztb zmt' d 111 [zR (some r), v0] G h (fun v G' h' => zE 134 d Q 73 [l0, l1] (v.toList ++ st) G' h' k)) := E_invV2z (by rfl) (by decide) rfl
theorem e134_73 : zE 134 d Q 73 [l0, l1] (zI x :: st) G h k ↔ ((x = 0 → zE 134 d Q 81 [l0, l1] st G h k) ∧ (¬ (x = 0) → zE 134 d Q 76 [l0, l1] st G h k)) := E_if_eq (by rfl)
theorem e134_76 : zE 134 d Q 76 [some (.inr (.inr w9)), l1] st G h k ↔ zE 134 d Q 77 [some (.inr (.inr w9)), l1] (.inr (.inr w9) :: st) G h k := E_aload_n (by rfl) rfl
theorem e134_77 : zE 134 d Q 77 [l0, l1] st G h k ↔ zE 134 d Q 78 [l0, l1] (zI 3 :: st) G h k := E_iconst (by rfl)
theorem e134_78 : zE 134 d Q 78 [l0, l1] (v0 :: zR (some r) :: st) G h k ↔ (zsum st ≤ 8 ∧ G.2.1 r = 9 ∧ zRunD ztb zmt' d 126 [zR (some r), v0] G h (fun v G' h' => zE 134 d Q 81 [l0, l1] (v.toList ++ st) G' h' k)) := E_invV2z (by rfl) (by decide) rfl
theorem e134_81 : zE 134 d Q 81 [some (.inr (.inr w9)), l1] st G h k ↔ zE 134 d Q 82 [some (.inr (.inr w9)), l1] (.inr (.inr w9) :: st) G h k := E_aload_n (by rfl) rfl
theorem e134_82 : zE 134 d Q 82 [l0, l1] (zR (some r) :: st) G h k ↔ (G.2.1 r = 9 ∧ zE 134 d Q 85 [l0, l1] (zI (h r 9) :: st) G h k) := E_getI (by rfl) (by decide)
theorem e134_85 : zE 134 d Q 85 [l0, l1] st G h k ↔ zE 134 d Q 86 [l0, l1] (zI 5 :: st) G h k := E_iconst (by rfl)
theorem e134_86 : zE 134 d Q 86 [l0, l1] (zI y :: zI x :: st) G h k ↔ ((¬ x = y → zE 134 d Q 90 [l0, l1] st G h k) ∧ (¬ (¬ x = y) → zE 134 d Q 89 [l0, l1] st G h k)) := E_icmp_ne (by rfl)
theorem e134_89 : zE 134 d Q 89 [l0, l1] [] G h k ↔ Q none G h := E_vret (by rfl) rfl
theorem e134_90 : zE 134 d Q 90 [some (.inr (.inr w9)), l1] st G h k ↔ zE 134 d Q 91 [some (.inr (.inr w9)), l1] (.inr (.inr w9) :: st) G h k := E_aload_n (by rfl) rfl
theorem e134_91 : zE 134 d Q 91 [l0, l1] (zR (some r) :: st) G h k ↔ (G.2.1 r = 9 ∧ zE 134 d Q 94 [l0, l1] (zR (G.2.2.2 r 4) :: st) G h k) := E_getR (by rfl) rfl
theorem e134_94 : zE 134 d Q 94 [l0, l1] (zR (some r) :: st) G h k ↔ (G.2.1 r = 8 ∧ zE 134 d Q 97 [l0, l1] (zR (G.2.2.2 r 15) :: st) G h k) := E_getR (by rfl) rfl
theorem e134_97 : zE 134 d Q 97 [some (.inr (.inr w9)), l1] st G h k ↔ zE 134 d Q 98 [some (.inr (.inr w9)), l1] (.inr (.inr w9) :: st) G h k := E_aload_n (by rfl) rfl
theorem e134_98 : zE 134 d Q 98 [l0, l1] (zR (some r) :: st) G h k ↔ (G.2.1 r = 9 ∧ zE 134 d Q 101 [l0, l1] (zR (G.2.2.2 r 4) :: st) G h k) := E_getR (by rfl) rfl
theorem e134_101 : zE 134 d Q 101 [l0, l1] (zR (some r) :: st) G h k ↔ (G.2.1 r = 8 ∧ zE 134 d Q 104 [l0, l1] (zI (h r 4) :: st) G h k) := E_getI (by rfl) (by decide)
theorem e134_104 : zE 134 d Q 104 [some (.inr (.inr w9)), l1] st G h k ↔ zE 134 d Q 105 [some (.inr (.inr w9)), l1] (.inr (.inr w9) :: st) G h k := E_aload_n (by rfl) rfl
theorem e134_105 : zE 134 d Q 105 [l0, l1] (zR (some r) :: st) G h k ↔ (G.2.1 r = 9 ∧ zE 134 d Q 108 [l0, l1] (zL (h r 15) :: st) G h k) := E_getL (by rfl) rfl
theorem e134_108 : zE 134 d Q 108 [l0, l1] (zL x :: zI i :: zR (some r) :: st) G h k ↔ (G.2.1 r = 11 ∧ (0 ≤ i ∧ i < G.2.2.1 r) ∧ zE 134 d Q 109 [l0, l1] st G (zu h r i.toNat x) k) := E_lastore (by rfl)
theorem e134_109 : zE 134 d Q 109 [some (.inr (.inr w9)), l1] st G h k ↔ zE 134 d Q 110 [some (.inr (.inr w9)), l1] (.inr (.inr w9) :: st) G h k := E_aload_n (by rfl) rfl
theorem e134_110 : zE 134 d Q 110 [l0, l1] (zR (some r) :: st) G h k ↔ (G.2.1 r = 9 ∧ zE 134 d Q 113 [l0, l1] (zR (G.2.2.2 r 4) :: st) G h k) := E_getR (by rfl) rfl
theorem e134_113 : zE 134 d Q 113 [l0, l1] (.inr (.inr w9) :: st) G h k ↔ zE 134 d Q 114 [l0, l1] (.inr (.inr w9) :: .inr (.inr w9) :: st) G h k := E_dup (by rfl) rfl
theorem e134_114 : zE 134 d Q 114 [l0, l1] (zR (some r) :: st) G h k ↔ (G.2.1 r = 8 ∧ zE 134 d Q 117 [l0, l1] (zI (h r 4) :: st) G h k) := E_getI (by rfl) (by decide)
theorem e134_117 : zE 134 d Q 117 [l0, l1] st G h k ↔ zE 134 d Q 118 [l0, l1] (zI 1 :: st) G h k := E_iconst (by rfl)
theorem e134_118 : zE 134 d Q 118 [l0, l1] (zI y :: zI x :: st) G h k ↔ zE 134 d Q 119 [l0, l1] (zI (wr (x + y)) :: st) G h k := E_iadd (by rfl)
theorem e134_119 : zE 134 d Q 119 [l0, l1] (zI x :: zR (some r) :: st) G h k ↔ (G.2.1 r = 8 ∧ zE 134 d Q 122 [l0, l1] st G (zu h r 4 x) k) := E_putI (by rfl) rfl
theorem e134_122 : zE 134 d Q 122 [some (.inr (.inr w9)), l1] st G h k ↔ zE 134 d Q 123 [some (.inr (.inr w9)), l1] (.inr (.inr w9) :: st) G h k := E_aload_n (by rfl) rfl
theorem e134_123 : zE 134 d Q 123 [l0, l1] (zR (some r) :: st) G h k ↔ (zsum st ≤ 8 ∧ G.2.1 r = 9 ∧ zRunD ztb zmt' d 125 [zR (some r)] G h (fun v G' h' => zE 134 d Q 126 [l0, l1] (v.toList ++ st) G' h' k)) := E_invV2z (by rfl) (by decide) rfl
theorem e134_126 : zE 134 d Q 126 [l0, l1] [] G h k ↔ Q none G h := E_vret (by rfl) rfl
theorem e135_0 : zE 135 d Q 0 [some (.inr (.inr w9)), l1, l2, l3] st G h k ↔ zE 135 d Q 1 [some (.inr (.inr w9)), l1, l2, l3] (.inr (.inr w9) :: st) G h k := E_aload_n (by rfl) rfl
theorem e135_1 : zE 135 d Q 1 [some (.inr (.inr w9)), l1, l2, l3] st G h k ↔ zE 135 d Q 2 [some (.inr (.inr w9)), l1, l2, l3] (.inr (.inr w9) :: st) G h k := E_aload_n (by rfl) rfl
theorem e135_2 : zE 135 d Q 2 [l0, l1, l2, l3] (zR (some r) :: st) G h k ↔ (G.2.1 r = 9 ∧ zE 135 d Q 5 [l0, l1, l2, l3] (zR (G.2.2.2 r 4) :: st) G h k) := E_getR (by rfl) rfl
theorem e135_5 : zE 135 d Q 5 [l0, l1, l2, l3] (zR (some r) :: st) G h k ↔ (G.2.1 r = 8 ∧ zE 135 d Q 8 [l0, l1, l2, l3] (zI (h r 0) :: st) G h k) := E_getI (by rfl) (by decide)
theorem e135_8 : zE 135 d Q 8 [l0, l1, l2, l3] st G h k ↔ zE 135 d Q 9 [l0, l1, l2, l3] (zI 3 :: st) G h k := E_iconst (by rfl)
theorem e135_9 : zE 135 d Q 9 [l0, l1, l2, l3] (zI y :: zI x :: st) G h k ↔ ((¬ x = y → zE 135 d Q 16 [l0, l1, l2, l3] st G h k) ∧ (¬ (¬ x = y) → zE 135 d Q 12 [l0, l1, l2, l3] st G h k)) := E_icmp_ne (by rfl)
theorem e135_12 : zE 135 d Q 12 [l0, l1, l2, l3] st G h k ↔ zE 135 d Q 13 [l0, l1, l2, l3] (zI 1 :: st) G h k := E_iconst (by rfl)
theorem e135_13 : zE 135 d Q 13 [l0, l1, l2, l3] st G h k ↔ zE 135 d Q 17 [l0, l1, l2, l3] st G h k := E_goto (by rfl)
theorem e135_16 : zE 135 d Q 16 [l0, l1, l2, l3] st G h k ↔ zE 135 d Q 17 [l0, l1, l2, l3] (zI 0 :: st) G h k := E_iconst (by rfl)
theorem e135_17 : zE 135 d Q 17 [l0, l1, l2, l3] (v0 :: zR (some r) :: st) G h k ↔ (zsum st ≤ 8 ∧ G.2.1 r = 9 ∧ zRunD ztb zmt' d 134 [zR (some r), v0] G h (fun v G' h' => zE 135 d Q 20 [l0, l1, l2, l3] (v.toList ++ st) G' h' k)) := E_invV2z (by rfl) (by decide) rfl
theorem e135_20 : zE 135 d Q 20 [some (.inr (.inr w9)), l1, l2, l3] st G h k ↔ zE 135 d Q 21 [some (.inr (.inr w9)), l1, l2, l3] (.inr (.inr w9) :: st) G h k := E_aload_n (by rfl) rfl
theorem e135_21 : zE 135 d Q 21 [l0, l1, l2, l3] st G h k ↔ zE 135 d Q 23 [l0, l1, l2, l3] (zT 4 :: st) G h k := E_ldcS (by rfl) (by decide)
theorem e135_23 : zE 135 d Q 23 [l0, l1, l2, l3] st G h k ↔ zE 135 d Q 25 [l0, l1, l2, l3] (zI 99 :: st) G h k := E_bipush (by rfl)
theorem e136_0 : zE 136 d Q 0 [some (.inr (.inr w9)), l1, l2, l3, l4, l5] st G h k ↔ zE 136 d Q 1 [some (.inr (.inr w9)), l1, l2, l3, l4, l5] (.inr (.inr w9) :: st) G h k := E_aload_n (by rfl) rfl
theorem e136_1 : zE 136 d Q 1 [some (.inr (.inr w9)), l1, l2, l3, l4, l5] st G h k ↔ zE 136 d Q 2 [some (.inr (.inr w9)), l1, l2, l3, l4, l5] (.inr (.inr w9) :: st) G h k := E_aload_n (by rfl) rfl
theorem e136_2 : zE 136 d Q 2 [l0, l1, l2, l3, l4, l5] (zR (some r) :: st) G h k ↔ (G.2.1 r = 9 ∧ zE 136 d Q 5 [l0, l1, l2, l3, l4, l5] (zR (G.2.2.2 r 4) :: st) G h k) := E_getR (by rfl) rfl
theorem e136_5 : zE 136 d Q 5 [l0, l1, l2, l3, l4, l5] (zR (some r) :: st) G h k ↔ (G.2.1 r = 8 ∧ zE 136 d Q 8 [l0, l1, l2, l3, l4, l5] (zI (h r 1) :: st) G h k) := E_getI (by rfl) (by decide)
theorem e136_8 : zE 136 d Q 8 [l0, l1, l2, l3, l4, l5] st G h k ↔ zE 136 d Q 9 [l0, l1, l2, l3, l4, l5] (zI 4 :: st) G h k := E_iconst (by rfl)
theorem e136_9 : zE 136 d Q 9 [l0, l1, l2, l3, l4, l5] (zI y :: zI x :: st) G h k ↔ ((¬ x = y → zE 136 d Q 16 [l0, l1, l2, l3, l4, l5] st G h k) ∧ (¬ (¬ x = y) → zE 136 d Q 12 [l0, l1, l2, l3, l4, l5] st G h k)) := E_icmp_ne (by rfl)
theorem e136_12 : zE 136 d Q 12 [l0, l1, l2, l3, l4, l5] st G h k ↔ zE 136 d Q 13 [l0, l1, l2, l3, l4, l5] (zI 1 :: st) G h k := E_iconst (by rfl)
theorem e136_13 : zE 136 d Q 13 [l0, l1, l2, l3, l4, l5] st G h k ↔ zE 136 d Q 17 [l0, l1, l2, l3, l4, l5] st G h k := E_goto (by rfl)
theorem e136_16 : zE 136 d Q 16 [l0, l1, l2, l3, l4, l5] st G h k ↔ zE 136 d Q 17 [l0, l1, l2, l3, l4, l5] (zI 0 :: st) G h k := E_iconst (by rfl)
theorem e136_17 : zE 136 d Q 17 [l0, l1, l2, l3, l4, l5] (v0 :: zR (some r) :: st) G h k ↔ (zsum st ≤ 8 ∧ G.2.1 r = 9 ∧ zRunD ztb zmt' d 134 [zR (some r), v0] G h (fun v G' h' => zE 136 d Q 20 [l0, l1, l2, l3, l4, l5] (v.toList ++ st) G' h' k)) := E_invV2z (by rfl) (by decide) rfl
theorem e136_20 : zE 136 d Q 20 [some (.inr (.inr w9)), l1, l2, l3, l4, l5] st G h k ↔ zE 136 d Q 21 [some (.inr (.inr w9)), l1, l2, l3, l4, l5] (.inr (.inr w9) :: st) G h k := E_aload_n (by rfl) rfl
theorem e136_21 : zE 136 d Q 21 [l0, l1, l2, l3, l4, l5] st G h k ↔ zE 136 d Q 24 [l0, l1, l2, l3, l4, l5] (zT 7 :: st) G h k := E_ldc_wS (by rfl) (by decide)
theorem e136_24 : zE 136 d Q 24 [l0, l1, l2, l3, l4, l5] st G h k ↔ zE 136 d Q 26 [l0, l1, l2, l3, l4, l5] (zI 99 :: st) G h k := E_bipush (by rfl)
theorem e137_0 : zE 137 d Q 0 [some (.inr (.inr w9)), l1, l2, l3, l4] st G h k ↔ zE 137 d Q 1 [some (.inr (.inr w9)), l1, l2, l3, l4] (.inr (.inr w9) :: st) G h k := E_aload_n (by rfl) rfl
theorem e137_1 : zE 137 d Q 1 [l0, l1, l2, l3, l4] (zR (some r) :: st) G h k ↔ (G.2.1 r = 9 ∧ zE 137 d Q 4 [l0, l1, l2, l3, l4] (zR (G.2.2.2 r 4) :: st) G h k) := E_getR (by rfl) rfl
theorem e137_4 : zE 137 d Q 4 [l0, l1, l2, l3, l4] (zR (some r) :: st) G h k ↔ (G.2.1 r = 8 ∧ zE 137 d Q 7 [l0, l1, l2, l3, l4] (zI (h r 2) :: st) G h k) := E_getI (by rfl) (by decide)
theorem e137_7 : zE 137 d Q 7 [l0, l1, l2, l3, l4] (zI x :: st) G h k ↔ ((x ≤ 0 → zE 137 d Q 15 [l0, l1, l2, l3, l4] st G h k) ∧ (¬ (x ≤ 0) → zE 137 d Q 10 [l0, l1, l2, l3, l4] st G h k)) := E_if_le (by rfl)
theorem e137_10 : zE 137 d Q 10 [some (.inr (.inr w9)), l1, l2, l3, l4] st G h k ↔ zE 137 d Q 11 [some (.inr (.inr w9)), l1, l2, l3, l4] (.inr (.inr w9) :: st) G h k := E_aload_n (by rfl) rfl
theorem e137_11 : zE 137 d Q 11 [l0, l1, l2, l3, l4] st G h k ↔ zE 137 d Q 12 [l0, l1, l2, l3, l4] (zI 3 :: st) G h k := E_iconst (by rfl)
theorem e137_12 : zE 137 d Q 12 [l0, l1, l2, l3, l4] (v0 :: zR (some r) :: st) G h k ↔ (zsum st ≤ 8 ∧ G.2.1 r = 9 ∧ zRunD ztb zmt' d 126 [zR (some r), v0] G h (fun v G' h' => zE 137 d Q 15 [l0, l1, l2, l3, l4] (v.toList ++ st) G' h' k)) := E_invV2z (by rfl) (by decide) rfl
theorem e137_15 : zE 137 d Q 15 [some (.inr (.inr w9)), l1, l2, l3, l4] st G h k ↔ zE 137 d Q 16 [some (.inr (.inr w9)), l1, l2, l3, l4] (.inr (.inr w9) :: st) G h k := E_aload_n (by rfl) rfl
theorem e137_16 : zE 137 d Q 16 [l0, l1, l2, l3, l4] (zR (some r) :: st) G h k ↔ (zsum st ≤ 8 ∧ G.2.1 r = 9 ∧ zRunD ztb zmt' d 125 [zR (some r)] G h (fun v G' h' => zE 137 d Q 19 [l0, l1, l2, l3, l4] (v.toList ++ st) G' h' k)) := E_invV2z (by rfl) (by decide) rfl
theorem e137_19 : zE 137 d Q 19 [some (.inr (.inr w9)), l1, l2, l3, l4] st G h k ↔ zE 137 d Q 20 [some (.inr (.inr w9)), l1, l2, l3, l4] (.inr (.inr w9) :: st) G h k := E_aload_n (by rfl) rfl
theorem e137_20 : zE 137 d Q 20 [l0, l1, l2, l3, l4] st G h k ↔ zE 137 d Q 23 [l0, l1, l2, l3, l4] (zT 14 :: st) G h k := E_ldc_wS (by rfl) (by decide)
theorem e137_23 : zE 137 d Q 23 [l0, l1, l2, l3, l4] (v0 :: zR (some r) :: st) G h k ↔ (zsum st ≤ 8 ∧ G.2.1 r = 9 ∧ zRunD ztb zmt' d 128 [zR (some r), v0] G h (fun v G' h' => zE 137 d Q 26 [l0, l1, l2, l3, l4] (v.toList ++ st) G' h' k)) := E_invV2z (by rfl) (by decide) rfl
theorem e137_26 : zE 137 d Q 26 [l0, l1, l2, l3, l4] (zI x :: st) G h k ↔ zE 137 d Q 27 [(zclr l0), some (zI x), l2, l3, l4] st G h k := E_istore_n (by rfl) (by decide)
theorem e137_27 : zE 137 d Q 27 [l0, some (zI x), l2, l3, l4] st G h k ↔ zE 137 d Q 28 [l0, some (zI x), l2, l3, l4] (zI x :: st) G h k := E_iload_n (by rfl) rfl
theorem e137_28 : zE 137 d Q 28 [l0, l1, l2, l3, l4] (zI x :: st) G h k ↔ ((¬ x = 0 → zE 137 d Q 46 [l0, l1, l2, l3, l4] st G h k) ∧ (¬ (¬ x = 0) → zE 137 d Q 31 [l0, l1, l2, l3, l4] st G h k)) := E_if_ne (by rfl)
theorem e137_31 : zE 137 d Q 31 [some (.inr (.inr w9)), l1, l2, l3, l4] st G h k ↔ zE 137 d Q 32 [some (.inr (.inr w9)), l1, l2, l3, l4] (.inr (.inr w9) :: st) G h k := E_aload_n (by rfl) rfl
theorem e137_32 : zE 137 d Q 32 [l0, l1, l2, l3, l4] st G h k ↔ zE 137 d Q 35 [l0, l1, l2, l3, l4] (zT 13 :: st) G h k := E_ldc_wS (by rfl) (by decide)
theorem e137_35 : zE 137 d Q 35 [l0, l1, l2, l3, l4] (v0 :: zR (some r) :: st) G h k ↔ (zsum st ≤ 8 ∧ G.2.1 r = 9 ∧ zRunD ztb zmt' d 128 [zR (some r), v0] G h (fun v G' h' => zE 137 d Q 38 [l0, l1, l2, l3, l4] (v.toList ++ st) G' h' k)) := E_invV2z (by rfl) (by decide) rfl
theorem e137_38 : zE 137 d Q 38 [l0, l1, l2, l3, l4] (zI x :: st) G h k ↔ ((¬ x = 0 → zE 137 d Q 46 [l0, l1, l2, l3, l4] st G h k) ∧ (¬ (¬ x = 0) → zE 137 d Q 41 [l0, l1, l2, l3, l4] st G h k)) := E_if_ne (by rfl)
theorem e137_41 : zE 137 d Q 41 [some (.inr (.inr w9)), l1, l2, l3, l4] st G h k ↔ zE 137 d Q 42 [some (.inr (.inr w9)), l1, l2, l3, l4] (.inr (.inr w9) :: st) G h k := E_aload_n (by rfl) rfl
theorem e137_42 : zE 137 d Q 42 [l0, l1, l2, l3, l4] st G h k ↔ zE 137 d Q 43 [l0, l1, l2, l3, l4] (zI 1 :: st) G h k := E_iconst (by rfl)
theorem e137_43 : zE 137 d Q 43 [l0, l1, l2, l3, l4] (v0 :: zR (some r) :: st) G h k ↔ (zsum st ≤ 8 ∧ G.2.1 r = 9 ∧ zRunD ztb zmt' d 126 [zR (some r), v0] G h (fun v G' h' => zE 137 d Q 46 [l0, l1, l2, l3, l4] (v.toList ++ st) G' h' k)) := E_invV2z (by rfl) (by decide) rfl
theorem e137_46 : zE 137 d Q 46 [some (.inr (.inr w9)), l1, l2, l3, l4] st G h k ↔ zE 137 d Q 47 [some (.inr (.inr w9)), l1, l2, l3, l4] (.inr (.inr w9) :: st) G h k := E_aload_n (by rfl) rfl
theorem e137_47 : zE 137 d Q 47 [l0, l1, l2, l3, l4] (zR (some r) :: st) G h k ↔ (G.2.1 r = 9 ∧ zE 137 d Q 50 [l0, l1, l2, l3, l4] (zR (G.2.2.2 r 4) :: st) G h k) := E_getR (by rfl) rfl
theorem e137_50 : zE 137 d Q 50 [l0, some (zI x), l2, l3, l4] st G h k ↔ zE 137 d Q 51 [l0, some (zI x), l2, l3, l4] (zI x :: st) G h k := E_iload_n (by rfl) rfl
theorem e137_51 : zE 137 d Q 51 [l0, l1, l2, l3, l4] (zI x :: zR (some r) :: st) G h k ↔ (G.2.1 r = 8 ∧ (x = 0 ∨ x = 1) ∧ zE 137 d Q 54 [l0, l1, l2, l3, l4] st G (zu h r 5 x) k) := E_putZ (by rfl) rfl
theorem e137_54 : zE 137 d Q 54 [some (.inr (.inr w9)), l1, l2, l3, l4] st G h k ↔ zE 137 d Q 55 [some (.inr (.inr w9)), l1, l2, l3, l4] (.inr (.inr w9) :: st) G h k := E_aload_n (by rfl) rfl
theorem e137_55 : zE 137 d Q 55 [l0, l1, l2, l3, l4] (zR (some r) :: st) G h k ↔ (zsum st ≤ 8 ∧ G.2.1 r = 9 ∧ zRunD ztb zmt' d 125 [zR (some r)] G h (fun v G' h' => zE 137 d Q 58 [l0, l1, l2, l3, l4] (v.toList ++ st) G' h' k)) := E_invV2z (by rfl) (by decide) rfl
theorem e137_58 : zE 137 d Q 58 [l0, l1, l2, l3, l4] st G h k ↔ zE 137 d Q 59 [l0, l1, l2, l3, l4] (zI 1 :: st) G h k := E_iconst (by rfl)
theorem e137_59 : zE 137 d Q 59 [l0, l1, l2, l3, l4] (zI x :: st) G h k ↔ zE 137 d Q 60 [l0, (zclr l1), some (zI x), l3, l4] st G h k := E_istore_n (by rfl) (by decide)
theorem e137_60 : zE 137 d Q 60 [l0, l1, some (zI x), l3, l4] st G h k ↔ zE 137 d Q 61 [l0, l1, some (zI x), l3, l4] (zI x :: st) G h k := E_iload_n (by rfl) rfl
theorem e137_61 : zE 137 d Q 61 [l0, l1, l2, l3, l4] (zI x :: st) G h k ↔ ((x = 0 → zE 137 d Q 177 [l0, l1, l2, l3, l4] st G h k) ∧ (¬ (x = 0) → zE 137 d Q 64 [l0, l1, l2, l3, l4] st G h k)) := E_if_eq (by rfl)
theorem e137_64 : zE 137 d Q 64 [some (.inr (.inr w9)), l1, l2, l3, l4] st G h k ↔ zE 137 d Q 65 [some (.inr (.inr w9)), l1, l2, l3, l4] (.inr (.inr w9) :: st) G h k := E_aload_n (by rfl) rfl
theorem e137_65 : zE 137 d Q 65 [l0, l1, l2, l3, l4] (zR (some r) :: st) G h k ↔ (G.2.1 r = 9 ∧ zE 137 d Q 68 [l0, l1, l2, l3, l4] (zI (h r 10) :: st) G h k) := E_getI (by rfl) (by decide)
theorem e137_68 : zE 137 d Q 68 [l0, l1, l2, l3, l4] (zI x :: st) G h k ↔ zE 137 d Q 69 [l0, l1, (zclr l2), some (zI x), l4] st G h k := E_istore_n (by rfl) (by decide)
theorem e137_69 : zE 137 d Q 69 [some (.inr (.inr w9)), l1, l2, l3, l4] st G h k ↔ zE 137 d Q 70 [some (.inr (.inr w9)), l1, l2, l3, l4] (.inr (.inr w9) :: st) G h k := E_aload_n (by rfl) rfl
theorem e137_70 : zE 137 d Q 70 [some (.inr (.inr w9)), l1, l2, l3, l4] st G h k ↔ zE 137 d Q 71 [some (.inr (.inr w9)), l1, l2, l3, l4] (.inr (.inr w9) :: st) G h k := E_aload_n (by rfl) rfl
theorem e137_71 : zE 137 d Q 71 [l0, l1, l2, l3, l4] (zR (some r) :: st) G h k ↔ (G.2.1 r = 9 ∧ zE 137 d Q 74 [l0, l1, l2, l3, l4] (zR (G.2.2.2 r 4) :: st) G h k) := E_getR (by rfl) rfl
theorem e137_74 : zE 137 d Q 74 [l0, l1, l2, l3, l4] (zR (some r) :: st) G h k ↔ (G.2.1 r = 8 ∧ zE 137 d Q 77 [l0, l1, l2, l3, l4] (zI (h r 2) :: st) G h k) := E_getI (by rfl) (by decide)
theorem e137_77 : zE 137 d Q 77 [l0, l1, l2, l3, l4] (zI x :: st) G h k ↔ ((¬ x = 0 → zE 137 d Q 84 [l0, l1, l2, l3, l4] st G h k) ∧ (¬ (¬ x = 0) → zE 137 d Q 80 [l0, l1, l2, l3, l4] st G h k)) := E_if_ne (by rfl)
theorem e137_80 : zE 137 d Q 80 [l0, l1, l2, l3, l4] st G h k ↔ zE 137 d Q 81 [l0, l1, l2, l3, l4] (zI 0 :: st) G h k := E_iconst (by rfl)
theorem e137_81 : zE 137 d Q 81 [l0, l1, l2, l3, l4] st G h k ↔ zE 137 d Q 103 [l0, l1, l2, l3, l4] st G h k := E_goto (by rfl)
theorem e137_84 : zE 137 d Q 84 [some (.inr (.inr w9)), l1, l2, l3, l4] st G h k ↔ zE 137 d Q 85 [some (.inr (.inr w9)), l1, l2, l3, l4] (.inr (.inr w9) :: st) G h k := E_aload_n (by rfl) rfl
theorem e137_85 : zE 137 d Q 85 [l0, l1, l2, l3, l4] (zR (some r) :: st) G h k ↔ (G.2.1 r = 9 ∧ zE 137 d Q 88 [l0, l1, l2, l3, l4] (zR (G.2.2.2 r 4) :: st) G h k) := E_getR (by rfl) rfl
theorem e137_88 : zE 137 d Q 88 [l0, l1, l2, l3, l4] (zR (some r) :: st) G h k ↔ (G.2.1 r = 8 ∧ zE 137 d Q 91 [l0, l1, l2, l3, l4] (zR (G.2.2.2 r 9) :: st) G h k) := E_getR (by rfl) rfl
theorem e137_91 : zE 137 d Q 91 [some (.inr (.inr w9)), l1, l2, l3, l4] st G h k ↔ zE 137 d Q 92 [some (.inr (.inr w9)), l1, l2, l3, l4] (.inr (.inr w9) :: st) G h k := E_aload_n (by rfl) rfl
theorem e137_92 : zE 137 d Q 92 [l0, l1, l2, l3, l4] (zR (some r) :: st) G h k ↔ (G.2.1 r = 9 ∧ zE 137 d Q 95 [l0, l1, l2, l3, l4] (zR (G.2.2.2 r 4) :: st) G h k) := E_getR (by rfl) rfl
theorem e137_95 : zE 137 d Q 95 [l0, l1, l2, l3, l4] (zR (some r) :: st) G h k ↔ (G.2.1 r = 8 ∧ zE 137 d Q 98 [l0, l1, l2, l3, l4] (zI (h r 2) :: st) G h k) := E_getI (by rfl) (by decide)
theorem e137_98 : zE 137 d Q 98 [l0, l1, l2, l3, l4] st G h k ↔ zE 137 d Q 99 [l0, l1, l2, l3, l4] (zI 1 :: st) G h k := E_iconst (by rfl)
theorem e137_99 : zE 137 d Q 99 [l0, l1, l2, l3, l4] (zI y :: zI x :: st) G h k ↔ zE 137 d Q 100 [l0, l1, l2, l3, l4] (zI (wr (x - y)) :: st) G h k := E_isub (by rfl)
theorem e137_100 : zE 137 d Q 100 [l0, l1, l2, l3, l4] (zI i :: zR (some r) :: st) G h k ↔ (G.2.1 r = 10 ∧ (0 ≤ i ∧ i < G.2.2.1 r) ∧ zE 137 d Q 101 [l0, l1, l2, l3, l4] (zI (h r i.toNat) :: st) G h k) := E_iaload (by rfl)
theorem e137_101 : zE 137 d Q 101 [l0, l1, l2, l3, l4] st G h k ↔ zE 137 d Q 102 [l0, l1, l2, l3, l4] (zI 1 :: st) G h k := E_iconst (by rfl)
theorem e137_102 : zE 137 d Q 102 [l0, l1, l2, l3, l4] (zI y :: zI x :: st) G h k ↔ zE 137 d Q 103 [l0, l1, l2, l3, l4] (zI (wr (x + y)) :: st) G h k := E_iadd (by rfl)
theorem e137_103 : zE 137 d Q 103 [l0, l1, l2, l3, l4] st G h k ↔ zE 137 d Q 106 [l0, l1, l2, l3, l4] (zI 199 :: st) G h k := E_sipush (by rfl)
theorem e137_106 : zE 137 d Q 106 [l0, l1, l2, l3, l4] (v1 :: v0 :: zR (some r) :: st) G h k ↔ (zsum st ≤ 8 ∧ G.2.1 r = 9 ∧ zRunD ztb zmt' d 130 [zR (some r), v0, v1] G h (fun v G' h' => zE 137 d Q 109 [l0, l1, l2, l3, l4] (v.toList ++ st) G' h' k)) := E_invV2z (by rfl) (by decide) rfl
theorem e137_109 : zE 137 d Q 109 [l0, l1, l2, l3, l4] (zI x :: st) G h k ↔ zE 137 d Q 111 [l0, l1, l2, (zclr l3), some (zI x)] st G h k := E_istore (by rfl) (by decide)
theorem e137_111 : zE 137 d Q 111 [some (.inr (.inr w9)), l1, l2, l3, l4] st G h k ↔ zE 137 d Q 112 [some (.inr (.inr w9)), l1, l2, l3, l4] (.inr (.inr w9) :: st) G h k := E_aload_n (by rfl) rfl
theorem e137_112 : zE 137 d Q 112 [l0, l1, l2, l3, l4] (zR (some r) :: st) G h k ↔ (G.2.1 r = 9 ∧ zE 137 d Q 115 [l0, l1, l2, l3, l4] (zR (G.2.2.2 r 4) :: st) G h k) := E_getR (by rfl) rfl
theorem e137_115 : zE 137 d Q 115 [l0, l1, l2, l3, l4] (zR (some r) :: st) G h k ↔ (G.2.1 r = 8 ∧ zE 137 d Q 118 [l0, l1, l2, l3, l4] (zI (h r 2) :: st) G h k) := E_getI (by rfl) (by decide)
theorem e137_118 : zE 137 d Q 118 [l0, l1, l2, l3, l4] st G h k ↔ zE 137 d Q 119 [l0, l1, l2, l3, l4] (zI 3 :: st) G h k := E_iconst (by rfl)
theorem e137_119 : zE 137 d Q 119 [l0, l1, l2, l3, l4] (zI y :: zI x :: st) G h k ↔ ((¬ x = y → zE 137 d Q 128 [l0, l1, l2, l3, l4] st G h k) ∧ (¬ (¬ x = y) → zE 137 d Q 122 [l0, l1, l2, l3, l4] st G h k)) := E_icmp_ne (by rfl)
theorem e137_122 : zE 137 d Q 122 [some (.inr (.inr w9)), l1, l2, l3, l4] st G h k ↔ zE 137 d Q 123 [some (.inr (.inr w9)), l1, l2, l3, l4] (.inr (.inr w9) :: st) G h k := E_aload_n (by rfl) rfl
theorem e137_123 : zE 137 d Q 123 [l0, l1, l2, l3, l4] st G h k ↔ zE 137 d Q 124 [l0, l1, l2, l3, l4] (zI 5 :: st) G h k := E_iconst (by rfl)
theorem e137_124 : zE 137 d Q 124 [l0, l1, l2, some (zI x), l4] st G h k ↔ zE 137 d Q 125 [l0, l1, l2, some (zI x), l4] (zI x :: st) G h k := E_iload_n (by rfl) rfl
theorem e137_125 : zE 137 d Q 125 [l0, l1, l2, l3, l4] (v1 :: v0 :: zR (some r) :: st) G h k ↔ (zsum st ≤ 8 ∧ G.2.1 r = 9 ∧ zRunD ztb zmt' d 127 [zR (some r), v0, v1] G h (fun v G' h' => zE 137 d Q 128 [l0, l1, l2, l3, l4] (v.toList ++ st) G' h' k)) := E_invV2z (by rfl) (by decide) rfl
theorem e137_128 : zE 137 d Q 128 [some (.inr (.inr w9)), l1, l2, l3, l4] st G h k ↔ zE 137 d Q 129 [some (.inr (.inr w9)), l1, l2, l3, l4] (.inr (.inr w9) :: st) G h k := E_aload_n (by rfl) rfl
theorem e137_129 : zE 137 d Q 129 [l0, l1, l2, l3, l4] (zR (some r) :: st) G h k ↔ (G.2.1 r = 9 ∧ zE 137 d Q 132 [l0, l1, l2, l3, l4] (zI (h r 9) :: st) G h k) := E_getI (by rfl) (by decide)
theorem e137_132 : zE 137 d Q 132 [l0, l1, l2, l3, l4] st G h k ↔ zE 137 d Q 133 [l0, l1, l2, l3, l4] (zI 5 :: st) G h k := E_iconst (by rfl)
theorem e137_133 : zE 137 d Q 133 [l0, l1, l2, l3, l4] (zI y :: zI x :: st) G h k ↔ ((¬ x = y → zE 137 d Q 137 [l0, l1, l2, l3, l4] st G h k) ∧ (¬ (¬ x = y) → zE 137 d Q 136 [l0, l1, l2, l3, l4] st G h k)) := E_icmp_ne (by rfl)
theorem e137_136 : zE 137 d Q 136 [l0, l1, l2, l3, l4] [] G h k ↔ Q none G h := E_vret (by rfl) rfl
theorem e137_137 : zE 137 d Q 137 [some (.inr (.inr w9)), l1, l2, l3, l4] st G h k ↔ zE 137 d Q 138 [some (.inr (.inr w9)), l1, l2, l3, l4] (.inr (.inr w9) :: st) G h k := E_aload_n (by rfl) rfl
theorem e137_138 : zE 137 d Q 138 [l0, l1, l2, l3, l4] (zR (some r) :: st) G h k ↔ (G.2.1 r = 9 ∧ zE 137 d Q 141 [l0, l1, l2, l3, l4] (zR (G.2.2.2 r 4) :: st) G h k) := E_getR (by rfl) rfl
theorem e137_141 : zE 137 d Q 141 [l0, l1, l2, l3, l4] (zR (some r) :: st) G h k ↔ (G.2.1 r = 8 ∧ zE 137 d Q 144 [l0, l1, l2, l3, l4] (zR (G.2.2.2 r 9) :: st) G h k) := E_getR (by rfl) rfl
theorem e137_144 : zE 137 d Q 144 [some (.inr (.inr w9)), l1, l2, l3, l4] st G h k ↔ zE 137 d Q 145 [some (.inr (.inr w9)), l1, l2, l3, l4] (.inr (.inr w9) :: st) G h k := E_aload_n (by rfl) rfl
theorem e137_145 : zE 137 d Q 145 [l0, l1, l2, l3, l4] (zR (some r) :: st) G h k ↔ (G.2.1 r = 9 ∧ zE 137 d Q 148 [l0, l1, l2, l3, l4] (zR (G.2.2.2 r 4) :: st) G h k) := E_getR (by rfl) rfl
theorem e137_148 : zE 137 d Q 148 [l0, l1, l2, l3, l4] (zR (some r) :: st) G h k ↔ (G.2.1 r = 8 ∧ zE 137 d Q 151 [l0, l1, l2, l3, l4] (zI (h r 2) :: st) G h k) := E_getI (by rfl) (by decide)
theorem e137_151 : zE 137 d Q 151 [l0, l1, l2, l3, some (zI x)] st G h k ↔ zE 137 d Q 153 [l0, l1, l2, l3, some (zI x)] (zI x :: st) G h k := E_iload (by rfl) rfl
theorem e137_153 : zE 137 d Q 153 [l0, l1, l2, l3, l4] (zI x :: zI i :: zR (some r) :: st) G h k ↔ (G.2.1 r = 10 ∧ (0 ≤ i ∧ i < G.2.2.1 r) ∧ zE 137 d Q 154 [l0, l1, l2, l3, l4] st G (zu h r i.toNat x) k) := E_iastore (by rfl)
theorem e137_154 : zE 137 d Q 154 [some (.inr (.inr w9)), l1, l2, l3, l4] st G h k ↔ zE 137 d Q 155 [some (.inr (.inr w9)), l1, l2, l3, l4] (.inr (.inr w9) :: st) G h k := E_aload_n (by rfl) rfl
theorem e137_155 : zE 137 d Q 155 [l0, l1, l2, l3, l4] (zR (some r) :: st) G h k ↔ (G.2.1 r = 9 ∧ zE 137 d Q 158 [l0, l1, l2, l3, l4] (zR (G.2.2.2 r 4) :: st) G h k) := E_getR (by rfl) rfl
theorem e137_158 : zE 137 d Q 158 [l0, l1, l2, l3, l4] (.inr (.inr w9) :: st) G h k ↔ zE 137 d Q 159 [l0, l1, l2, l3, l4] (.inr (.inr w9) :: .inr (.inr w9) :: st) G h k := E_dup (by rfl) rfl
theorem e137_159 : zE 137 d Q 159 [l0, l1, l2, l3, l4] (zR (some r) :: st) G h k ↔ (G.2.1 r = 8 ∧ zE 137 d Q 162 [l0, l1, l2, l3, l4] (zI (h r 2) :: st) G h k) := E_getI (by rfl) (by decide)
theorem e137_162 : zE 137 d Q 162 [l0, l1, l2, l3, l4] st G h k ↔ zE 137 d Q 163 [l0, l1, l2, l3, l4] (zI 1 :: st) G h k := E_iconst (by rfl)
theorem e137_163 : zE 137 d Q 163 [l0, l1, l2, l3, l4] (zI y :: zI x :: st) G h k ↔ zE 137 d Q 164 [l0, l1, l2, l3, l4] (zI (wr (x + y)) :: st) G h k := E_iadd (by rfl)
theorem e137_164 : zE 137 d Q 164 [l0, l1, l2, l3, l4] (zI x :: zR (some r) :: st) G h k ↔ (G.2.1 r = 8 ∧ zE 137 d Q 167 [l0, l1, l2, l3, l4] st G (zu h r 2 x) k) := E_putI (by rfl) rfl
theorem e137_167 : zE 137 d Q 167 [some (.inr (.inr w9)), l1, l2, l3, l4] st G h k ↔ zE 137 d Q 168 [some (.inr (.inr w9)), l1, l2, l3, l4] (.inr (.inr w9) :: st) G h k := E_aload_n (by rfl) rfl
theorem e137_168 : zE 137 d Q 168 [l0, l1, l2, l3, l4] st G h k ↔ zE 137 d Q 170 [l0, l1, l2, l3, l4] (zI 44 :: st) G h k := E_bipush (by rfl)
theorem e137_170 : zE 137 d Q 170 [l0, l1, l2, l3, l4] (v0 :: zR (some r) :: st) G h k ↔ (zsum st ≤ 8 ∧ G.2.1 r = 9 ∧ zRunD ztb zmt' d 129 [zR (some r), v0] G h (fun v G' h' => zE 137 d Q 173 [l0, l1, l2, l3, l4] (v.toList ++ st) G' h' k)) := E_invV2z (by rfl) (by decide) rfl
theorem e137_173 : zE 137 d Q 173 [l0, l1, l2, l3, l4] (zI x :: st) G h k ↔ zE 137 d Q 174 [l0, (zclr l1), some (zI x), l3, l4] st G h k := E_istore_n (by rfl) (by decide)
theorem e137_174 : zE 137 d Q 174 [l0, l1, l2, l3, l4] st G h k ↔ zE 137 d Q 60 [l0, l1, l2, l3, l4] st G h k := E_goto (by rfl)
theorem e137_177 : zE 137 d Q 177 [l0, l1, l2, l3, l4] [] G h k ↔ Q none G h := E_vret (by rfl) rfl
theorem e138_0 : zE 138 d Q 0 [some (.inr (.inr w9)), l1] st G h k ↔ zE 138 d Q 1 [some (.inr (.inr w9)), l1] (.inr (.inr w9) :: st) G h k := E_aload_n (by rfl) rfl
theorem e138_1 : zE 138 d Q 1 [l0, l1] (zR (some r) :: st) G h k ↔ (G.2.1 r = 9 ∧ zE 138 d Q 4 [l0, l1] (zR (G.2.2.2 r 4) :: st) G h k) := E_getR (by rfl) rfl
theorem e138_4 : zE 138 d Q 4 [l0, l1] (zR (some r) :: st) G h k ↔ (G.2.1 r = 8 ∧ zE 138 d Q 7 [l0, l1] (zI (h r 3) :: st) G h k) := E_getI (by rfl) (by decide)
theorem e138_7 : zE 138 d Q 7 [l0, l1] st G h k ↔ zE 138 d Q 8 [l0, l1] (zI (-1) :: st) G h k := E_iconst (by rfl)
theorem e138_8 : zE 138 d Q 8 [l0, l1] (zI y :: zI x :: st) G h k ↔ ((x = y → zE 138 d Q 16 [l0, l1] st G h k) ∧ (¬ (x = y) → zE 138 d Q 11 [l0, l1] st G h k)) := E_icmp_eq (by rfl)
theorem e138_11 : zE 138 d Q 11 [some (.inr (.inr w9)), l1] st G h k ↔ zE 138 d Q 12 [some (.inr (.inr w9)), l1] (.inr (.inr w9) :: st) G h k := E_aload_n (by rfl) rfl
theorem e138_12 : zE 138 d Q 12 [l0, l1] st G h k ↔ zE 138 d Q 13 [l0, l1] (zI 3 :: st) G h k := E_iconst (by rfl)
theorem e138_13 : zE 138 d Q 13 [l0, l1] (v0 :: zR (some r) :: st) G h k ↔ (zsum st ≤ 8 ∧ G.2.1 r = 9 ∧ zRunD ztb zmt' d 126 [zR (some r), v0] G h (fun v G' h' => zE 138 d Q 16 [l0, l1] (v.toList ++ st) G' h' k)) := E_invV2z (by rfl) (by decide) rfl
theorem e138_16 : zE 138 d Q 16 [some (.inr (.inr w9)), l1] st G h k ↔ zE 138 d Q 17 [some (.inr (.inr w9)), l1] (.inr (.inr w9) :: st) G h k := E_aload_n (by rfl) rfl
theorem e138_17 : zE 138 d Q 17 [l0, l1] (zR (some r) :: st) G h k ↔ (zsum st ≤ 8 ∧ G.2.1 r = 9 ∧ zRunD ztb zmt' d 125 [zR (some r)] G h (fun v G' h' => zE 138 d Q 20 [l0, l1] (v.toList ++ st) G' h' k)) := E_invV2z (by rfl) (by decide) rfl
theorem e138_20 : zE 138 d Q 20 [some (.inr (.inr w9)), l1] st G h k ↔ zE 138 d Q 21 [some (.inr (.inr w9)), l1] (.inr (.inr w9) :: st) G h k := E_aload_n (by rfl) rfl
theorem e138_21 : zE 138 d Q 21 [l0, l1] st G h k ↔ zE 138 d Q 22 [l0, l1] (zI 0 :: st) G h k := E_iconst (by rfl)
theorem e138_22 : zE 138 d Q 22 [l0, l1] st G h k ↔ zE 138 d Q 24 [l0, l1] (zI 100 :: st) G h k := E_bipush (by rfl)
theorem e138_24 : zE 138 d Q 24 [l0, l1] (v1 :: v0 :: zR (some r) :: st) G h k ↔ (zsum st ≤ 8 ∧ G.2.1 r = 9 ∧ zRunD ztb zmt' d 130 [zR (some r), v0, v1] G h (fun v G' h' => zE 138 d Q 27 [l0, l1] (v.toList ++ st) G' h' k)) := E_invV2z (by rfl) (by decide) rfl
theorem e138_27 : zE 138 d Q 27 [l0, l1] (zI x :: st) G h k ↔ zE 138 d Q 28 [(zclr l0), some (zI x)] st G h k := E_istore_n (by rfl) (by decide)
theorem e138_28 : zE 138 d Q 28 [some (.inr (.inr w9)), l1] st G h k ↔ zE 138 d Q 29 [some (.inr (.inr w9)), l1] (.inr (.inr w9) :: st) G h k := E_aload_n (by rfl) rfl
theorem e138_29 : zE 138 d Q 29 [l0, l1] (zR (some r) :: st) G h k ↔ (G.2.1 r = 9 ∧ zE 138 d Q 32 [l0, l1] (zI (h r 9) :: st) G h k) := E_getI (by rfl) (by decide)
theorem e138_32 : zE 138 d Q 32 [l0, l1] st G h k ↔ zE 138 d Q 33 [l0, l1] (zI 5 :: st) G h k := E_iconst (by rfl)
theorem e138_33 : zE 138 d Q 33 [l0, l1] (zI y :: zI x :: st) G h k ↔ ((x = y → zE 138 d Q 44 [l0, l1] st G h k) ∧ (¬ (x = y) → zE 138 d Q 36 [l0, l1] st G h k)) := E_icmp_eq (by rfl)
theorem e138_36 : zE 138 d Q 36 [some (.inr (.inr w9)), l1] st G h k ↔ zE 138 d Q 37 [some (.inr (.inr w9)), l1] (.inr (.inr w9) :: st) G h k := E_aload_n (by rfl) rfl
theorem e138_37 : zE 138 d Q 37 [l0, l1] (zR (some r) :: st) G h k ↔ (G.2.1 r = 9 ∧ zE 138 d Q 40 [l0, l1] (zR (G.2.2.2 r 4) :: st) G h k) := E_getR (by rfl) rfl
theorem e138_40 : zE 138 d Q 40 [l0, some (zI x)] st G h k ↔ zE 138 d Q 41 [l0, some (zI x)] (zI x :: st) G h k := E_iload_n (by rfl) rfl
theorem e138_41 : zE 138 d Q 41 [l0, l1] (zI x :: zR (some r) :: st) G h k ↔ (G.2.1 r = 8 ∧ zE 138 d Q 44 [l0, l1] st G (zu h r 3 x) k) := E_putI (by rfl) rfl
theorem e138_44 : zE 138 d Q 44 [l0, l1] [] G h k ↔ Q none G h := E_vret (by rfl) rfl
theorem e139_0 : zE 139 d Q 0 [some (.inr (.inr w9)), l1, l2, l3, l4, l5, l6, l7] st G h k ↔ zE 139 d Q 1 [some (.inr (.inr w9)), l1, l2, l3, l4, l5, l6, l7] (.inr (.inr w9) :: st) G h k := E_aload_n (by rfl) rfl
theorem e139_1 : zE 139 d Q 1 [l0, l1, l2, l3, l4, l5, l6, l7] st G h k ↔ zE 139 d Q 2 [l0, l1, l2, l3, l4, l5, l6, l7] (zI 0 :: st) G h k := E_iconst (by rfl)
theorem e139_2 : zE 139 d Q 2 [l0, l1, l2, l3, l4, l5, l6, l7] (zI x :: zR (some r) :: st) G h k ↔ (G.2.1 r = 9 ∧ zE 139 d Q 5 [l0, l1, l2, l3, l4, l5, l6, l7] st G (zu h r 0 x) k) := E_putI (by rfl) rfl
theorem e139_5 : zE 139 d Q 5 [some (.inr (.inr w9)), l1, l2, l3, l4, l5, l6, l7] st G h k ↔ zE 139 d Q 6 [some (.inr (.inr w9)), l1, l2, l3, l4, l5, l6, l7] (.inr (.inr w9) :: st) G h k := E_aload_n (by rfl) rfl
theorem e139_6 : zE 139 d Q 6 [l0, l1, l2, l3, l4, l5, l6, l7] (zR (some r) :: st) G h k ↔ (G.2.1 r = 9 ∧ zE 139 d Q 9 [l0, l1, l2, l3, l4, l5, l6, l7] (zI (h r 6) :: st) G h k) := E_getI (by rfl) (by decide)
theorem e139_9 : zE 139 d Q 9 [l0, l1, l2, l3, l4, l5, l6, l7] st G h k ↔ zE 139 d Q 11 [l0, l1, l2, l3, l4, l5, l6, l7] (zI 20 :: st) G h k := E_bipush (by rfl)
theorem e139_11 : zE 139 d Q 11 [l0, l1, l2, l3, l4, l5, l6, l7] (zI y :: zI x :: st) G h k ↔ zE 139 d Q 12 [l0, l1, l2, l3, l4, l5, l6, l7] (zI (wr (x + y)) :: st) G h k := E_iadd (by rfl)
theorem e139_12 : zE 139 d Q 12 [l0, l1, l2, l3, l4, l5, l6, l7] st G h k ↔ zE 139 d Q 15 [l0, l1, l2, l3, l4, l5, l6, l7] (zI 700 :: st) G h k := E_sipush (by rfl)
theorem e139_15 : zE 139 d Q 15 [l0, l1, l2, l3, l4, l5, l6, l7] (zI y :: zI x :: st) G h k ↔ ((x ≤ y → zE 139 d Q 20 [l0, l1, l2, l3, l4, l5, l6, l7] st G h k) ∧ (¬ (x ≤ y) → zE 139 d Q 18 [l0, l1, l2, l3, l4, l5, l6, l7] st G h k)) := E_icmp_le (by rfl)
theorem e139_18 : zE 139 d Q 18 [l0, l1, l2, l3, l4, l5, l6, l7] st G h k ↔ zE 139 d Q 19 [l0, l1, l2, l3, l4, l5, l6, l7] (zI (-1) :: st) G h k := E_iconst (by rfl)
theorem e139_19 : zE 139 d Q 19 [l0, l1, l2, l3, l4, l5, l6, l7] [zI x] G h k ↔ Q (some (zI x)) G h := E_iret (by rfl) rfl
theorem e139_20 : zE 139 d Q 20 [l0, l1, l2, l3, l4, l5, l6, l7] st G h k ↔ zE 139 d Q 21 [l0, l1, l2, l3, l4, l5, l6, l7] (zI 0 :: st) G h k := E_iconst (by rfl)
theorem e139_21 : zE 139 d Q 21 [l0, l1, l2, l3, l4, l5, l6, l7] (zI x :: st) G h k ↔ zE 139 d Q 23 [l0, l1, l2, l3, l4, (zclr l5), some (zI x), l7] st G h k := E_istore (by rfl) (by decide)
theorem e139_23 : zE 139 d Q 23 [l0, l1, l2, l3, l4, l5, some (zI x), l7] st G h k ↔ zE 139 d Q 25 [l0, l1, l2, l3, l4, l5, some (zI x), l7] (zI x :: st) G h k := E_iload (by rfl) rfl
theorem e139_25 : zE 139 d Q 25 [l0, l1, l2, l3, l4, l5, l6, l7] st G h k ↔ zE 139 d Q 27 [l0, l1, l2, l3, l4, l5, l6, l7] (zI 20 :: st) G h k := E_bipush (by rfl)
theorem e139_27 : zE 139 d Q 27 [l0, l1, l2, l3, l4, l5, l6, l7] (zI y :: zI x :: st) G h k ↔ ((y ≤ x → zE 139 d Q 117 [l0, l1, l2, l3, l4, l5, l6, l7] st G h k) ∧ (¬ (y ≤ x) → zE 139 d Q 30 [l0, l1, l2, l3, l4, l5, l6, l7] st G h k)) := E_icmp_ge (by rfl)
theorem e139_30 : zE 139 d Q 30 [l0, l1, l2, l3, l4, l5, some (zI x), l7] st G h k ↔ zE 139 d Q 32 [l0, l1, l2, l3, l4, l5, some (zI x), l7] (zI x :: st) G h k := E_iload (by rfl) rfl
theorem e139_32 : zE 139 d Q 32 [l0, l1, l2, l3, l4, l5, l6, l7] st G h k ↔ zE 139 d Q 33 [l0, l1, l2, l3, l4, l5, l6, l7] (zI 4 :: st) G h k := E_iconst (by rfl)
theorem e139_33 : zE 139 d Q 33 [l0, l1, l2, l3, l4, l5, l6, l7] (zI y :: zI x :: st) G h k ↔ ((y ≤ x → zE 139 d Q 40 [l0, l1, l2, l3, l4, l5, l6, l7] st G h k) ∧ (¬ (y ≤ x) → zE 139 d Q 36 [l0, l1, l2, l3, l4, l5, l6, l7] st G h k)) := E_icmp_ge (by rfl)
theorem e139_36 : zE 139 d Q 36 [l0, some (zI x), l2, l3, l4, l5, l6, l7] st G h k ↔ zE 139 d Q 37 [l0, some (zI x), l2, l3, l4, l5, l6, l7] (zI x :: st) G h k := E_iload_n (by rfl) rfl
theorem e139_37 : zE 139 d Q 37 [l0, l1, l2, l3, l4, l5, l6, l7] st G h k ↔ zE 139 d Q 76 [l0, l1, l2, l3, l4, l5, l6, l7] st G h k := E_goto (by rfl)
theorem e139_40 : zE 139 d Q 40 [l0, l1, l2, l3, l4, l5, some (zI x), l7] st G h k ↔ zE 139 d Q 42 [l0, l1, l2, l3, l4, l5, some (zI x), l7] (zI x :: st) G h k := E_iload (by rfl) rfl
theorem e139_42 : zE 139 d Q 42 [l0, l1, l2, l3, l4, l5, l6, l7] st G h k ↔ zE 139 d Q 44 [l0, l1, l2, l3, l4, l5, l6, l7] (zI 8 :: st) G h k := E_bipush (by rfl)
theorem e139_44 : zE 139 d Q 44 [l0, l1, l2, l3, l4, l5, l6, l7] (zI y :: zI x :: st) G h k ↔ ((y ≤ x → zE 139 d Q 51 [l0, l1, l2, l3, l4, l5, l6, l7] st G h k) ∧ (¬ (y ≤ x) → zE 139 d Q 47 [l0, l1, l2, l3, l4, l5, l6, l7] st G h k)) := E_icmp_ge (by rfl)
theorem e139_47 : zE 139 d Q 47 [l0, l1, some (zI x), l3, l4, l5, l6, l7] st G h k ↔ zE 139 d Q 48 [l0, l1, some (zI x), l3, l4, l5, l6, l7] (zI x :: st) G h k := E_iload_n (by rfl) rfl
theorem e139_48 : zE 139 d Q 48 [l0, l1, l2, l3, l4, l5, l6, l7] st G h k ↔ zE 139 d Q 76 [l0, l1, l2, l3, l4, l5, l6, l7] st G h k := E_goto (by rfl)
theorem e139_51 : zE 139 d Q 51 [l0, l1, l2, l3, l4, l5, some (zI x), l7] st G h k ↔ zE 139 d Q 53 [l0, l1, l2, l3, l4, l5, some (zI x), l7] (zI x :: st) G h k := E_iload (by rfl) rfl
theorem e139_53 : zE 139 d Q 53 [l0, l1, l2, l3, l4, l5, l6, l7] st G h k ↔ zE 139 d Q 55 [l0, l1, l2, l3, l4, l5, l6, l7] (zI 12 :: st) G h k := E_bipush (by rfl)
theorem e139_55 : zE 139 d Q 55 [l0, l1, l2, l3, l4, l5, l6, l7] (zI y :: zI x :: st) G h k ↔ ((y ≤ x → zE 139 d Q 62 [l0, l1, l2, l3, l4, l5, l6, l7] st G h k) ∧ (¬ (y ≤ x) → zE 139 d Q 58 [l0, l1, l2, l3, l4, l5, l6, l7] st G h k)) := E_icmp_ge (by rfl)
theorem e139_58 : zE 139 d Q 58 [l0, l1, l2, some (zI x), l4, l5, l6, l7] st G h k ↔ zE 139 d Q 59 [l0, l1, l2, some (zI x), l4, l5, l6, l7] (zI x :: st) G h k := E_iload_n (by rfl) rfl
theorem e139_59 : zE 139 d Q 59 [l0, l1, l2, l3, l4, l5, l6, l7] st G h k ↔ zE 139 d Q 76 [l0, l1, l2, l3, l4, l5, l6, l7] st G h k := E_goto (by rfl)
theorem e139_62 : zE 139 d Q 62 [l0, l1, l2, l3, l4, l5, some (zI x), l7] st G h k ↔ zE 139 d Q 64 [l0, l1, l2, l3, l4, l5, some (zI x), l7] (zI x :: st) G h k := E_iload (by rfl) rfl
theorem e139_64 : zE 139 d Q 64 [l0, l1, l2, l3, l4, l5, l6, l7] st G h k ↔ zE 139 d Q 66 [l0, l1, l2, l3, l4, l5, l6, l7] (zI 16 :: st) G h k := E_bipush (by rfl)
theorem e139_66 : zE 139 d Q 66 [l0, l1, l2, l3, l4, l5, l6, l7] (zI y :: zI x :: st) G h k ↔ ((y ≤ x → zE 139 d Q 74 [l0, l1, l2, l3, l4, l5, l6, l7] st G h k) ∧ (¬ (y ≤ x) → zE 139 d Q 69 [l0, l1, l2, l3, l4, l5, l6, l7] st G h k)) := E_icmp_ge (by rfl)
theorem e139_69 : zE 139 d Q 69 [l0, l1, l2, l3, some (zI x), l5, l6, l7] st G h k ↔ zE 139 d Q 71 [l0, l1, l2, l3, some (zI x), l5, l6, l7] (zI x :: st) G h k := E_iload (by rfl) rfl
theorem e139_71 : zE 139 d Q 71 [l0, l1, l2, l3, l4, l5, l6, l7] st G h k ↔ zE 139 d Q 76 [l0, l1, l2, l3, l4, l5, l6, l7] st G h k := E_goto (by rfl)
theorem e139_74 : zE 139 d Q 74 [l0, l1, l2, l3, l4, some (zI x), l6, l7] st G h k ↔ zE 139 d Q 76 [l0, l1, l2, l3, l4, some (zI x), l6, l7] (zI x :: st) G h k := E_iload (by rfl) rfl
theorem e139_76 : zE 139 d Q 76 [l0, l1, l2, l3, l4, l5, l6, l7] (zI x :: st) G h k ↔ zE 139 d Q 78 [l0, l1, l2, l3, l4, l5, (zclr l6), some (zI x)] st G h k := E_istore (by rfl) (by decide)
theorem e139_78 : zE 139 d Q 78 [some (.inr (.inr w9)), l1, l2, l3, l4, l5, l6, l7] st G h k ↔ zE 139 d Q 79 [some (.inr (.inr w9)), l1, l2, l3, l4, l5, l6, l7] (.inr (.inr w9) :: st) G h k := E_aload_n (by rfl) rfl
theorem e139_79 : zE 139 d Q 79 [l0, l1, l2, l3, l4, l5, l6, l7] (zR (some r) :: st) G h k ↔ (G.2.1 r = 9 ∧ zE 139 d Q 82 [l0, l1, l2, l3, l4, l5, l6, l7] (zR (G.2.2.2 r 5) :: st) G h k) := E_getR (by rfl) rfl
theorem e139_82 : zE 139 d Q 82 [some (.inr (.inr w9)), l1, l2, l3, l4, l5, l6, l7] st G h k ↔ zE 139 d Q 83 [some (.inr (.inr w9)), l1, l2, l3, l4, l5, l6, l7] (.inr (.inr w9) :: st) G h k := E_aload_n (by rfl) rfl
theorem e139_83 : zE 139 d Q 83 [l0, l1, l2, l3, l4, l5, l6, l7] (zR (some r) :: st) G h k ↔ (G.2.1 r = 9 ∧ zE 139 d Q 86 [l0, l1, l2, l3, l4, l5, l6, l7] (zI (h r 6) :: st) G h k) := E_getI (by rfl) (by decide)
theorem e139_86 : zE 139 d Q 86 [l0, l1, l2, l3, l4, l5, l6, some (zI x)] st G h k ↔ zE 139 d Q 88 [l0, l1, l2, l3, l4, l5, l6, some (zI x)] (zI x :: st) G h k := E_iload (by rfl) rfl
theorem e139_88 : zE 139 d Q 88 [l0, l1, l2, l3, l4, l5, l6, l7] st G h k ↔ zE 139 d Q 90 [l0, l1, l2, l3, l4, l5, l6, l7] (zI 24 :: st) G h k := E_bipush (by rfl)
theorem e139_90 : zE 139 d Q 90 [l0, l1, l2, l3, l4, l5, l6, l7] st G h k ↔ zE 139 d Q 92 [l0, l1, l2, l3, l4, l5, l6, l7] (zI 8 :: st) G h k := E_bipush (by rfl)
theorem e139_92 : zE 139 d Q 92 [l0, l1, l2, l3, l4, l5, some (zI x), l7] st G h k ↔ zE 139 d Q 94 [l0, l1, l2, l3, l4, l5, some (zI x), l7] (zI x :: st) G h k := E_iload (by rfl) rfl
theorem e139_94 : zE 139 d Q 94 [l0, l1, l2, l3, l4, l5, l6, l7] st G h k ↔ zE 139 d Q 95 [l0, l1, l2, l3, l4, l5, l6, l7] (zI 4 :: st) G h k := E_iconst (by rfl)
theorem e139_95 : zE 139 d Q 95 [l0, l1, l2, l3, l4, l5, l6, l7] (zI y :: zI x :: st) G h k ↔ (y ≠ 0 ∧ zE 139 d Q 96 [l0, l1, l2, l3, l4, l5, l6, l7] (zI (x.tmod y) :: st) G h k) := E_irem (by rfl)
theorem e139_96 : zE 139 d Q 96 [l0, l1, l2, l3, l4, l5, l6, l7] (zI y :: zI x :: st) G h k ↔ zE 139 d Q 97 [l0, l1, l2, l3, l4, l5, l6, l7] (zI (wr (x * y)) :: st) G h k := E_imul (by rfl)
theorem e139_97 : zE 139 d Q 97 [l0, l1, l2, l3, l4, l5, l6, l7] (zI y :: zI x :: st) G h k ↔ zE 139 d Q 98 [l0, l1, l2, l3, l4, l5, l6, l7] (zI (wr (x - y)) :: st) G h k := E_isub (by rfl)
theorem e139_98 : zE 139 d Q 98 [l0, l1, l2, l3, l4, l5, l6, l7] (zI y :: zI x :: st) G h k ↔ ((0 ≤ y ∧ y < 32) ∧ zE 139 d Q 99 [l0, l1, l2, l3, l4, l5, l6, l7] (zI (x / 2 ^ y.toNat) :: st) G h k) := E_ishr (by rfl)
theorem e139_99 : zE 139 d Q 99 [l0, l1, l2, l3, l4, l5, l6, l7] (zI x :: st) G h k ↔ zE 139 d Q 100 [l0, l1, l2, l3, l4, l5, l6, l7] (zI (wb x) :: st) G h k := E_i2b (by rfl)
theorem e139_100 : zE 139 d Q 100 [l0, l1, l2, l3, l4, l5, l6, l7] (zI x :: zI i :: zR (some r) :: st) G h k ↔ (G.2.1 r = 12 ∧ (0 ≤ i ∧ i < G.2.2.1 r) ∧ zE 139 d Q 101 [l0, l1, l2, l3, l4, l5, l6, l7] st G (zu h r i.toNat (wb x)) k) := E_bastoreB (by rfl) rfl
theorem e139_101 : zE 139 d Q 101 [some (.inr (.inr w9)), l1, l2, l3, l4, l5, l6, l7] st G h k ↔ zE 139 d Q 102 [some (.inr (.inr w9)), l1, l2, l3, l4, l5, l6, l7] (.inr (.inr w9) :: st) G h k := E_aload_n (by rfl) rfl
theorem e139_102 : zE 139 d Q 102 [l0, l1, l2, l3, l4, l5, l6, l7] (.inr (.inr w9) :: st) G h k ↔ zE 139 d Q 103 [l0, l1, l2, l3, l4, l5, l6, l7] (.inr (.inr w9) :: .inr (.inr w9) :: st) G h k := E_dup (by rfl) rfl
theorem e139_103 : zE 139 d Q 103 [l0, l1, l2, l3, l4, l5, l6, l7] (zR (some r) :: st) G h k ↔ (G.2.1 r = 9 ∧ zE 139 d Q 106 [l0, l1, l2, l3, l4, l5, l6, l7] (zI (h r 6) :: st) G h k) := E_getI (by rfl) (by decide)
theorem e139_106 : zE 139 d Q 106 [l0, l1, l2, l3, l4, l5, l6, l7] st G h k ↔ zE 139 d Q 107 [l0, l1, l2, l3, l4, l5, l6, l7] (zI 1 :: st) G h k := E_iconst (by rfl)
theorem e139_107 : zE 139 d Q 107 [l0, l1, l2, l3, l4, l5, l6, l7] (zI y :: zI x :: st) G h k ↔ zE 139 d Q 108 [l0, l1, l2, l3, l4, l5, l6, l7] (zI (wr (x + y)) :: st) G h k := E_iadd (by rfl)
theorem e139_108 : zE 139 d Q 108 [l0, l1, l2, l3, l4, l5, l6, l7] (zI x :: zR (some r) :: st) G h k ↔ (G.2.1 r = 9 ∧ zE 139 d Q 111 [l0, l1, l2, l3, l4, l5, l6, l7] st G (zu h r 6 x) k) := E_putI (by rfl) rfl
theorem e139_111 : zE 139 d Q 111 [l0, l1, l2, l3, l4, l5, some (zI x), l7] st G h k ↔ zE 139 d Q 114 [l0, l1, l2, l3, l4, (zclr l5), some (zI (wr (x + 1))), l7] st G h k := E_iinc (by rfl) rfl
theorem e139_114 : zE 139 d Q 114 [l0, l1, l2, l3, l4, l5, l6, l7] st G h k ↔ zE 139 d Q 23 [l0, l1, l2, l3, l4, l5, l6, l7] st G h k := E_goto (by rfl)
theorem e139_117 : zE 139 d Q 117 [some (.inr (.inr w9)), l1, l2, l3, l4, l5, l6, l7] st G h k ↔ zE 139 d Q 118 [some (.inr (.inr w9)), l1, l2, l3, l4, l5, l6, l7] (.inr (.inr w9) :: st) G h k := E_aload_n (by rfl) rfl
theorem e139_118 : zE 139 d Q 118 [l0, l1, l2, l3, l4, l5, l6, l7] (zR (some r) :: st) G h k ↔ (G.2.1 r = 9 ∧ zE 139 d Q 121 [l0, l1, l2, l3, l4, l5, l6, l7] (zI (h r 6) :: st) G h k) := E_getI (by rfl) (by decide)
theorem e139_121 : zE 139 d Q 121 [l0, l1, l2, l3, l4, l5, l6, l7] [zI x] G h k ↔ Q (some (zI x)) G h := E_iret (by rfl) rfl
theorem e140_0 : zE 140 d Q 0 [some (.inr (.inr w9)), l1, l2] st G h k ↔ zE 140 d Q 1 [some (.inr (.inr w9)), l1, l2] (.inr (.inr w9) :: st) G h k := E_aload_n (by rfl) rfl
theorem e140_1 : zE 140 d Q 1 [l0, l1, l2] st G h k ↔ zE 140 d Q 2 [l0, l1, l2] (zI 0 :: st) G h k := E_iconst (by rfl)
theorem e140_2 : zE 140 d Q 2 [l0, l1, l2] (zI x :: zR (some r) :: st) G h k ↔ (G.2.1 r = 9 ∧ zE 140 d Q 5 [l0, l1, l2] st G (zu h r 0 x) k) := E_putI (by rfl) rfl
theorem e140_5 : zE 140 d Q 5 [l0, some (zI x), l2] st G h k ↔ zE 140 d Q 6 [l0, some (zI x), l2] (zI x :: st) G h k := E_iload_n (by rfl) rfl
theorem e140_6 : zE 140 d Q 6 [l0, l1, l2] (zI x :: st) G h k ↔ ((x < 0 → zE 140 d Q 17 [l0, l1, l2] st G h k) ∧ (¬ (x < 0) → zE 140 d Q 9 [l0, l1, l2] st G h k)) := E_if_lt (by rfl)
theorem e140_9 : zE 140 d Q 9 [l0, some (zI x), l2] st G h k ↔ zE 140 d Q 10 [l0, some (zI x), l2] (zI x :: st) G h k := E_iload_n (by rfl) rfl
theorem e140_10 : zE 140 d Q 10 [some (.inr (.inr w9)), l1, l2] st G h k ↔ zE 140 d Q 11 [some (.inr (.inr w9)), l1, l2] (.inr (.inr w9) :: st) G h k := E_aload_n (by rfl) rfl
theorem e140_11 : zE 140 d Q 11 [l0, l1, l2] (zR (some r) :: st) G h k ↔ (G.2.1 r = 9 ∧ zE 140 d Q 14 [l0, l1, l2] (zI (h r 6) :: st) G h k) := E_getI (by rfl) (by decide)
theorem e140_14 : zE 140 d Q 14 [l0, l1, l2] (zI y :: zI x :: st) G h k ↔ ((x ≤ y → zE 140 d Q 23 [l0, l1, l2] st G h k) ∧ (¬ (x ≤ y) → zE 140 d Q 17 [l0, l1, l2] st G h k)) := E_icmp_le (by rfl)
theorem e140_17 : zE 140 d Q 17 [some (.inr (.inr w9)), l1, l2] st G h k ↔ zE 140 d Q 18 [some (.inr (.inr w9)), l1, l2] (.inr (.inr w9) :: st) G h k := E_aload_n (by rfl) rfl
theorem e140_18 : zE 140 d Q 18 [l0, l1, l2] st G h k ↔ zE 140 d Q 19 [l0, l1, l2] (zI 2 :: st) G h k := E_iconst (by rfl)
theorem e140_19 : zE 140 d Q 19 [l0, l1, l2] (v0 :: zR (some r) :: st) G h k ↔ (zsum st ≤ 8 ∧ G.2.1 r = 9 ∧ zRunD ztb zmt' d 114 [zR (some r), v0] G h (fun v G' h' => zE 140 d Q 22 [l0, l1, l2] (v.toList ++ st) G' h' k)) := E_invV2z (by rfl) (by decide) rfl
theorem e140_22 : zE 140 d Q 22 [l0, l1, l2] [zI x] G h k ↔ Q (some (zI x)) G h := E_iret (by rfl) rfl
theorem e140_23 : zE 140 d Q 23 [some (.inr (.inr w9)), l1, l2] st G h k ↔ zE 140 d Q 24 [some (.inr (.inr w9)), l1, l2] (.inr (.inr w9) :: st) G h k := E_aload_n (by rfl) rfl
theorem e140_24 : zE 140 d Q 24 [l0, some (zI x), l2] st G h k ↔ zE 140 d Q 25 [l0, some (zI x), l2] (zI x :: st) G h k := E_iload_n (by rfl) rfl
theorem e140_25 : zE 140 d Q 25 [l0, l1, l2] (zI x :: zR (some r) :: st) G h k ↔ (G.2.1 r = 9 ∧ zE 140 d Q 28 [l0, l1, l2] st G (zu h r 7 x) k) := E_putI (by rfl) rfl
theorem e140_28 : zE 140 d Q 28 [some (.inr (.inr w9)), l1, l2] st G h k ↔ zE 140 d Q 29 [some (.inr (.inr w9)), l1, l2] (.inr (.inr w9) :: st) G h k := E_aload_n (by rfl) rfl
theorem e140_29 : zE 140 d Q 29 [l0, l1, l2] st G h k ↔ zE 140 d Q 30 [l0, l1, l2] (zI 0 :: st) G h k := E_iconst (by rfl)
theorem e140_30 : zE 140 d Q 30 [l0, l1, l2] (zI x :: zR (some r) :: st) G h k ↔ (G.2.1 r = 9 ∧ zE 140 d Q 33 [l0, l1, l2] st G (zu h r 6 x) k) := E_putI (by rfl) rfl
theorem e140_33 : zE 140 d Q 33 [some (.inr (.inr w9)), l1, l2] st G h k ↔ zE 140 d Q 34 [some (.inr (.inr w9)), l1, l2] (.inr (.inr w9) :: st) G h k := E_aload_n (by rfl) rfl
theorem e140_34 : zE 140 d Q 34 [l0, l1, l2] st G h k ↔ zE 140 d Q 35 [l0, l1, l2] (zI 0 :: st) G h k := E_iconst (by rfl)
theorem e140_35 : zE 140 d Q 35 [l0, l1, l2] (zI x :: zR (some r) :: st) G h k ↔ (G.2.1 r = 9 ∧ zE 140 d Q 38 [l0, l1, l2] st G (zu h r 8 x) k) := E_putI (by rfl) rfl
theorem e140_38 : zE 140 d Q 38 [some (.inr (.inr w9)), l1, l2] st G h k ↔ zE 140 d Q 39 [some (.inr (.inr w9)), l1, l2] (.inr (.inr w9) :: st) G h k := E_aload_n (by rfl) rfl
theorem e140_39 : zE 140 d Q 39 [l0, l1, l2] st G h k ↔ zE 140 d Q 40 [l0, l1, l2] (zI 0 :: st) G h k := E_iconst (by rfl)
theorem e140_40 : zE 140 d Q 40 [l0, l1, l2] (zI x :: zR (some r) :: st) G h k ↔ (G.2.1 r = 9 ∧ zE 140 d Q 43 [l0, l1, l2] st G (zu h r 13 x) k) := E_putI (by rfl) rfl
theorem e140_43 : zE 140 d Q 43 [some (.inr (.inr w9)), l1, l2] st G h k ↔ zE 140 d Q 44 [some (.inr (.inr w9)), l1, l2] (.inr (.inr w9) :: st) G h k := E_aload_n (by rfl) rfl
theorem e140_44 : zE 140 d Q 44 [l0, l1, l2] st G h k ↔ (k.1 + 1 ≤ 11 ∧ k.2 + 16 ≤ 55 ∧ zE 140 d Q 47 [l0, l1, l2] (zR (some G.1) :: st) (zgn G 8 16) (zhn h G.1) (k.1 + 1, k.2 + 16)) := E_new (by rfl) (by decide)
theorem e140_47 : zE 140 d Q 47 [l0, l1, l2] (.inr (.inr w9) :: st) G h k ↔ zE 140 d Q 48 [l0, l1, l2] (.inr (.inr w9) :: .inr (.inr w9) :: st) G h k := E_dup (by rfl) rfl
theorem e140_48 : zE 140 d Q 48 [l0, l1, l2] (zR (some r) :: st) G h k ↔ (zsum st ≤ 8 ∧ G.2.1 r = 8 ∧ k.1 + 10 ≤ 11 ∧ k.2 + 39 ≤ 55 ∧ zRunD ztb zmt' d 110 [zR (some r)] G h (fun v G' h' => v = none ∧ zE 140 d Q 51 [l0, l1, l2] st G' h' (k.1 + 10, k.2 + 39))) := E_invI2b (by rfl) (by decide) rfl
theorem e140_51 : zE 140 d Q 51 [l0, l1, l2] (zR q9 :: zR (some r) :: st) G h k ↔ (G.2.1 r = 9 ∧ zE 140 d Q 54 [l0, l1, l2] st (zgu G r 4 q9) h k) := E_putR (by rfl) rfl
theorem e140_54 : zE 140 d Q 54 [some (.inr (.inr w9)), l1, l2] st G h k ↔ zE 140 d Q 55 [some (.inr (.inr w9)), l1, l2] (.inr (.inr w9) :: st) G h k := E_aload_n (by rfl) rfl
theorem e140_55 : zE 140 d Q 55 [l0, l1, l2] st G h k ↔ zE 140 d Q 56 [l0, l1, l2] (zI 0 :: st) G h k := E_iconst (by rfl)
theorem e140_56 : zE 140 d Q 56 [l0, l1, l2] (zI x :: zR (some r) :: st) G h k ↔ (G.2.1 r = 9 ∧ zE 140 d Q 59 [l0, l1, l2] st G (zu h r 9 x) k) := E_putI (by rfl) rfl
theorem e140_59 : zE 140 d Q 59 [some (.inr (.inr w9)), l1, l2] st G h k ↔ zE 140 d Q 60 [some (.inr (.inr w9)), l1, l2] (.inr (.inr w9) :: st) G h k := E_aload_n (by rfl) rfl
theorem e140_60 : zE 140 d Q 60 [l0, l1, l2] (zR (some r) :: st) G h k ↔ (zsum st ≤ 8 ∧ G.2.1 r = 9 ∧ zRunD ztb zmt' d 125 [zR (some r)] G h (fun v G' h' => zE 140 d Q 63 [l0, l1, l2] (v.toList ++ st) G' h' k)) := E_invV2z (by rfl) (by decide) rfl
theorem e140_63 : zE 140 d Q 63 [some (.inr (.inr w9)), l1, l2] st G h k ↔ zE 140 d Q 64 [some (.inr (.inr w9)), l1, l2] (.inr (.inr w9) :: st) G h k := E_aload_n (by rfl) rfl
theorem e140_64 : zE 140 d Q 64 [l0, l1, l2] (zR (some r) :: st) G h k ↔ (zsum st ≤ 8 ∧ G.2.1 r = 9 ∧ zRunD ztb zmt' d 132 [zR (some r)] G h (fun v G' h' => zE 140 d Q 67 [l0, l1, l2] (v.toList ++ st) G' h' k)) := E_invV2z (by rfl) (by decide) rfl
theorem e140_67 : zE 140 d Q 67 [some (.inr (.inr w9)), l1, l2] st G h k ↔ zE 140 d Q 68 [some (.inr (.inr w9)), l1, l2] (.inr (.inr w9) :: st) G h k := E_aload_n (by rfl) rfl
theorem e140_68 : zE 140 d Q 68 [l0, l1, l2] (zR (some r) :: st) G h k ↔ (G.2.1 r = 9 ∧ zE 140 d Q 71 [l0, l1, l2] (zI (h r 13) :: st) G h k) := E_getI (by rfl) (by decide)
theorem e140_71 : zE 140 d Q 71 [l0, l1, l2] (zI x :: st) G h k ↔ ((x ≤ 0 → zE 140 d Q 89 [l0, l1, l2] st G h k) ∧ (¬ (x ≤ 0) → zE 140 d Q 74 [l0, l1, l2] st G h k)) := E_if_le (by rfl)
theorem e140_74 : zE 140 d Q 74 [some (.inr (.inr w9)), l1, l2] st G h k ↔ zE 140 d Q 75 [some (.inr (.inr w9)), l1, l2] (.inr (.inr w9) :: st) G h k := E_aload_n (by rfl) rfl
theorem e140_75 : zE 140 d Q 75 [l0, l1, l2] st G h k ↔ zE 140 d Q 76 [l0, l1, l2] (zI 4 :: st) G h k := E_iconst (by rfl)
theorem e140_76 : zE 140 d Q 76 [l0, l1, l2] (zI x :: zR (some r) :: st) G h k ↔ (G.2.1 r = 9 ∧ zE 140 d Q 79 [l0, l1, l2] st G (zu h r 1 x) k) := E_putI (by rfl) rfl
theorem e140_79 : zE 140 d Q 79 [some (.inr (.inr w9)), l1, l2] st G h k ↔ zE 140 d Q 80 [some (.inr (.inr w9)), l1, l2] (.inr (.inr w9) :: st) G h k := E_aload_n (by rfl) rfl
theorem e140_80 : zE 140 d Q 80 [some (.inr (.inr w9)), l1, l2] st G h k ↔ zE 140 d Q 81 [some (.inr (.inr w9)), l1, l2] (.inr (.inr w9) :: st) G h k := E_aload_n (by rfl) rfl
theorem e140_81 : zE 140 d Q 81 [l0, l1, l2] (zR (some r) :: st) G h k ↔ (G.2.1 r = 9 ∧ zE 140 d Q 84 [l0, l1, l2] (zI (h r 14) :: st) G h k) := E_getI (by rfl) (by decide)
theorem e140_84 : zE 140 d Q 84 [l0, l1, l2] (zI x :: zR (some r) :: st) G h k ↔ (G.2.1 r = 9 ∧ zE 140 d Q 87 [l0, l1, l2] st G (zu h r 2 x) k) := E_putI (by rfl) rfl
theorem e140_87 : zE 140 d Q 87 [l0, l1, l2] st G h k ↔ zE 140 d Q 88 [l0, l1, l2] (zI (-1) :: st) G h k := E_iconst (by rfl)
theorem e140_88 : zE 140 d Q 88 [l0, l1, l2] [zI x] G h k ↔ Q (some (zI x)) G h := E_iret (by rfl) rfl
theorem e140_89 : zE 140 d Q 89 [some (.inr (.inr w9)), l1, l2] st G h k ↔ zE 140 d Q 90 [some (.inr (.inr w9)), l1, l2] (.inr (.inr w9) :: st) G h k := E_aload_n (by rfl) rfl
theorem e140_90 : zE 140 d Q 90 [some (.inr (.inr w9)), l1, l2] st G h k ↔ zE 140 d Q 91 [some (.inr (.inr w9)), l1, l2] (.inr (.inr w9) :: st) G h k := E_aload_n (by rfl) rfl
theorem e140_91 : zE 140 d Q 91 [l0, l1, l2] (zR (some r) :: st) G h k ↔ (G.2.1 r = 9 ∧ zE 140 d Q 94 [l0, l1, l2] (zR (G.2.2.2 r 4) :: st) G h k) := E_getR (by rfl) rfl
theorem e140_94 : zE 140 d Q 94 [l0, l1, l2] (zR q9 :: zR (some r) :: st) G h k ↔ (G.2.1 r = 9 ∧ zE 140 d Q 97 [l0, l1, l2] st (zgu G r 3 q9) h k) := E_putR (by rfl) rfl
theorem e140_97 : zE 140 d Q 97 [l0, l1, l2] st G h k ↔ zE 140 d Q 98 [l0, l1, l2] (zI 0 :: st) G h k := E_iconst (by rfl)
theorem e140_98 : zE 140 d Q 98 [l0, l1, l2] (zI x :: st) G h k ↔ zE 140 d Q 99 [l0, (zclr l1), some (zI x)] st G h k := E_istore_n (by rfl) (by decide)
theorem e140_99 : zE 140 d Q 99 [l0, l1, some (zI x)] st G h k ↔ zE 140 d Q 100 [l0, l1, some (zI x)] (zI x :: st) G h k := E_iload_n (by rfl) rfl
theorem e140_100 : zE 140 d Q 100 [l0, l1, l2] st G h k ↔ zE 140 d Q 102 [l0, l1, l2] (zI 12 :: st) G h k := E_bipush (by rfl)
theorem e140_102 : zE 140 d Q 102 [l0, l1, l2] (zI y :: zI x :: st) G h k ↔ ((y ≤ x → zE 140 d Q 118 [l0, l1, l2] st G h k) ∧ (¬ (y ≤ x) → zE 140 d Q 105 [l0, l1, l2] st G h k)) := E_icmp_ge (by rfl)
theorem e140_105 : zE 140 d Q 105 [some (.inr (.inr w9)), l1, l2] st G h k ↔ zE 140 d Q 106 [some (.inr (.inr w9)), l1, l2] (.inr (.inr w9) :: st) G h k := E_aload_n (by rfl) rfl
theorem e140_106 : zE 140 d Q 106 [l0, l1, l2] (zR (some r) :: st) G h k ↔ (G.2.1 r = 9 ∧ zE 140 d Q 109 [l0, l1, l2] (zR (G.2.2.2 r 32) :: st) G h k) := E_getR (by rfl) rfl
theorem e140_109 : zE 140 d Q 109 [l0, l1, some (zI x)] st G h k ↔ zE 140 d Q 110 [l0, l1, some (zI x)] (zI x :: st) G h k := E_iload_n (by rfl) rfl
theorem e140_110 : zE 140 d Q 110 [l0, l1, l2] st G h k ↔ zE 140 d Q 111 [l0, l1, l2] (zI 0 :: st) G h k := E_iconst (by rfl)
theorem e140_111 : zE 140 d Q 111 [l0, l1, l2] (zI x :: zI i :: zR (some r) :: st) G h k ↔ (G.2.1 r = 10 ∧ (0 ≤ i ∧ i < G.2.2.1 r) ∧ zE 140 d Q 112 [l0, l1, l2] st G (zu h r i.toNat x) k) := E_iastore (by rfl)
theorem e140_112 : zE 140 d Q 112 [l0, l1, some (zI x)] st G h k ↔ zE 140 d Q 115 [l0, (zclr l1), some (zI (wr (x + 1)))] st G h k := E_iinc (by rfl) rfl
theorem e140_115 : zE 140 d Q 115 [l0, l1, l2] st G h k ↔ zE 140 d Q 99 [l0, l1, l2] st G h k := E_goto (by rfl)
theorem e140_118 : zE 140 d Q 118 [l0, l1, l2] st G h k ↔ zE 140 d Q 119 [l0, l1, l2] (zI 0 :: st) G h k := E_iconst (by rfl)
theorem e140_119 : zE 140 d Q 119 [l0, l1, l2] (zI x :: st) G h k ↔ zE 140 d Q 120 [l0, (zclr l1), some (zI x)] st G h k := E_istore_n (by rfl) (by decide)
theorem e140_120 : zE 140 d Q 120 [l0, l1, some (zI x)] st G h k ↔ zE 140 d Q 121 [l0, l1, some (zI x)] (zI x :: st) G h k := E_iload_n (by rfl) rfl
theorem e140_121 : zE 140 d Q 121 [l0, l1, l2] st G h k ↔ zE 140 d Q 122 [l0, l1, l2] (zI 3 :: st) G h k := E_iconst (by rfl)
theorem e140_122 : zE 140 d Q 122 [l0, l1, l2] (zI y :: zI x :: st) G h k ↔ ((y ≤ x → zE 140 d Q 145 [l0, l1, l2] st G h k) ∧ (¬ (y ≤ x) → zE 140 d Q 125 [l0, l1, l2] st G h k)) := E_icmp_ge (by rfl)
theorem e140_125 : zE 140 d Q 125 [some (.inr (.inr w9)), l1, l2] st G h k ↔ zE 140 d Q 126 [some (.inr (.inr w9)), l1, l2] (.inr (.inr w9) :: st) G h k := E_aload_n (by rfl) rfl
theorem e140_126 : zE 140 d Q 126 [l0, l1, l2] (zR (some r) :: st) G h k ↔ (G.2.1 r = 9 ∧ zE 140 d Q 129 [l0, l1, l2] (zR (G.2.2.2 r 33) :: st) G h k) := E_getR (by rfl) rfl
theorem e140_129 : zE 140 d Q 129 [l0, l1, some (zI x)] st G h k ↔ zE 140 d Q 130 [l0, l1, some (zI x)] (zI x :: st) G h k := E_iload_n (by rfl) rfl
theorem e140_130 : zE 140 d Q 130 [l0, l1, l2] st G h k ↔ zE 140 d Q 131 [l0, l1, l2] (zI 0 :: st) G h k := E_iconst (by rfl)
theorem e140_131 : zE 140 d Q 131 [l0, l1, l2] (zI x :: zI i :: zR (some r) :: st) G h k ↔ (G.2.1 r = 10 ∧ (0 ≤ i ∧ i < G.2.2.1 r) ∧ zE 140 d Q 132 [l0, l1, l2] st G (zu h r i.toNat x) k) := E_iastore (by rfl)
theorem e140_132 : zE 140 d Q 132 [some (.inr (.inr w9)), l1, l2] st G h k ↔ zE 140 d Q 133 [some (.inr (.inr w9)), l1, l2] (.inr (.inr w9) :: st) G h k := E_aload_n (by rfl) rfl
theorem e140_133 : zE 140 d Q 133 [l0, l1, l2] (zR (some r) :: st) G h k ↔ (G.2.1 r = 9 ∧ zE 140 d Q 136 [l0, l1, l2] (zR (G.2.2.2 r 34) :: st) G h k) := E_getR (by rfl) rfl
theorem e140_136 : zE 140 d Q 136 [l0, l1, some (zI x)] st G h k ↔ zE 140 d Q 137 [l0, l1, some (zI x)] (zI x :: st) G h k := E_iload_n (by rfl) rfl
theorem e140_137 : zE 140 d Q 137 [l0, l1, l2] st G h k ↔ zE 140 d Q 138 [l0, l1, l2] (zI 0 :: st) G h k := E_iconst (by rfl)
theorem e140_138 : zE 140 d Q 138 [l0, l1, l2] (zI x :: zI i :: zR (some r) :: st) G h k ↔ (G.2.1 r = 10 ∧ (0 ≤ i ∧ i < G.2.2.1 r) ∧ zE 140 d Q 139 [l0, l1, l2] st G (zu h r i.toNat x) k) := E_iastore (by rfl)
theorem e140_139 : zE 140 d Q 139 [l0, l1, some (zI x)] st G h k ↔ zE 140 d Q 142 [l0, (zclr l1), some (zI (wr (x + 1)))] st G h k := E_iinc (by rfl) rfl
theorem e140_142 : zE 140 d Q 142 [l0, l1, l2] st G h k ↔ zE 140 d Q 120 [l0, l1, l2] st G h k := E_goto (by rfl)
theorem e140_145 : zE 140 d Q 145 [some (.inr (.inr w9)), l1, l2] st G h k ↔ zE 140 d Q 146 [some (.inr (.inr w9)), l1, l2] (.inr (.inr w9) :: st) G h k := E_aload_n (by rfl) rfl
theorem e140_146 : zE 140 d Q 146 [l0, l1, l2] st G h k ↔ zE 140 d Q 147 [l0, l1, l2] (zI 0 :: st) G h k := E_iconst (by rfl)
theorem e140_147 : zE 140 d Q 147 [l0, l1, l2] (zI x :: zR (some r) :: st) G h k ↔ (G.2.1 r = 9 ∧ zE 140 d Q 150 [l0, l1, l2] st G (zu h r 30 x) k) := E_putI (by rfl) rfl
theorem e140_150 : zE 140 d Q 150 [some (.inr (.inr w9)), l1, l2] st G h k ↔ zE 140 d Q 151 [some (.inr (.inr w9)), l1, l2] (.inr (.inr w9) :: st) G h k := E_aload_n (by rfl) rfl
theorem e140_151 : zE 140 d Q 151 [l0, l1, l2] st G h k ↔ zE 140 d Q 152 [l0, l1, l2] (zI 0 :: st) G h k := E_iconst (by rfl)
theorem e140_152 : zE 140 d Q 152 [l0, l1, l2] (zI x :: zR (some r) :: st) G h k ↔ (G.2.1 r = 9 ∧ zE 140 d Q 155 [l0, l1, l2] st G (zu h r 31 x) k) := E_putI (by rfl) rfl
theorem e140_155 : zE 140 d Q 155 [some (.inr (.inr w9)), l1, l2] st G h k ↔ zE 140 d Q 156 [some (.inr (.inr w9)), l1, l2] (.inr (.inr w9) :: st) G h k := E_aload_n (by rfl) rfl
theorem e140_156 : zE 140 d Q 156 [l0, l1, l2] st G h k ↔ zE 140 d Q 157 [l0, l1, l2] (zI 0 :: st) G h k := E_iconst (by rfl)
theorem e140_157 : zE 140 d Q 157 [l0, l1, l2] (zI x :: zR (some r) :: st) G h k ↔ (G.2.1 r = 9 ∧ (x = 0 ∨ x = 1) ∧ zE 140 d Q 160 [l0, l1, l2] st G (zu h r 47 x) k) := E_putZ (by rfl) rfl
theorem e140_160 : zE 140 d Q 160 [some (.inr (.inr w9)), l1, l2] st G h k ↔ zE 140 d Q 161 [some (.inr (.inr w9)), l1, l2] (.inr (.inr w9) :: st) G h k := E_aload_n (by rfl) rfl
theorem e140_161 : zE 140 d Q 161 [some (.inr (.inr w9)), l1, l2] st G h k ↔ zE 140 d Q 162 [some (.inr (.inr w9)), l1, l2] (.inr (.inr w9) :: st) G h k := E_aload_n (by rfl) rfl
theorem e140_162 : zE 140 d Q 162 [l0, l1, l2] (zR (some r) :: st) G h k ↔ (G.2.1 r = 9 ∧ zE 140 d Q 165 [l0, l1, l2] (zR (G.2.2.2 r 3) :: st) G h k) := E_getR (by rfl) rfl
theorem e140_165 : zE 140 d Q 165 [l0, l1, l2] (zR (some r) :: st) G h k ↔ (G.2.1 r = 8 ∧ zE 140 d Q 168 [l0, l1, l2] (zI (h r 0) :: st) G h k) := E_getI (by rfl) (by decide)
theorem e140_168 : zE 140 d Q 168 [l0, l1, l2] (v0 :: zR (some r) :: st) G h k ↔ (zsum st ≤ 8 ∧ G.2.1 r = 9 ∧ zRunD ztb zmt' d 117 [zR (some r), v0] G h (fun v G' h' => zE 140 d Q 171 [l0, l1, l2] (v.toList ++ st) G' h' k)) := E_invV2z (by rfl) (by decide) rfl
theorem e140_171 : zE 140 d Q 171 [l0, l1, l2] [zI x] G h k ↔ Q (some (zI x)) G h := E_iret (by rfl) rfl
theorem e141_0 : zE 141 d Q 0 [some (.inr (.inr w9))] st G h k ↔ zE 141 d Q 1 [some (.inr (.inr w9))] (.inr (.inr w9) :: st) G h k := E_aload_n (by rfl) rfl
theorem e141_1 : zE 141 d Q 1 [l0] st G h k ↔ zE 141 d Q 2 [l0] (zI 0 :: st) G h k := E_iconst (by rfl)
theorem e141_2 : zE 141 d Q 2 [l0] (zI x :: zR (some r) :: st) G h k ↔ (G.2.1 r = 9 ∧ zE 141 d Q 5 [l0] st G (zu h r 0 x) k) := E_putI (by rfl) rfl
theorem e141_5 : zE 141 d Q 5 [some (.inr (.inr w9))] st G h k ↔ zE 141 d Q 6 [some (.inr (.inr w9))] (.inr (.inr w9) :: st) G h k := E_aload_n (by rfl) rfl
theorem e141_6 : zE 141 d Q 6 [l0] (zR (some r) :: st) G h k ↔ (G.2.1 r = 9 ∧ zE 141 d Q 9 [l0] (zI (h r 13) :: st) G h k) := E_getI (by rfl) (by decide)
theorem e141_9 : zE 141 d Q 9 [l0] [zI x] G h k ↔ Q (some (zI x)) G h := E_iret (by rfl) rfl
theorem e142_0 : zE 142 d Q 0 [some (.inr (.inr w9))] st G h k ↔ zE 142 d Q 1 [some (.inr (.inr w9))] (.inr (.inr w9) :: st) G h k := E_aload_n (by rfl) rfl
theorem e142_1 : zE 142 d Q 1 [l0] st G h k ↔ zE 142 d Q 2 [l0] (zI 0 :: st) G h k := E_iconst (by rfl)
theorem e142_2 : zE 142 d Q 2 [l0] (zI x :: zR (some r) :: st) G h k ↔ (G.2.1 r = 9 ∧ zE 142 d Q 5 [l0] st G (zu h r 0 x) k) := E_putI (by rfl) rfl
theorem e142_5 : zE 142 d Q 5 [some (.inr (.inr w9))] st G h k ↔ zE 142 d Q 6 [some (.inr (.inr w9))] (.inr (.inr w9) :: st) G h k := E_aload_n (by rfl) rfl
theorem e142_6 : zE 142 d Q 6 [l0] (zR (some r) :: st) G h k ↔ (G.2.1 r = 9 ∧ zE 142 d Q 9 [l0] (zI (h r 2) :: st) G h k) := E_getI (by rfl) (by decide)
theorem e142_9 : zE 142 d Q 9 [l0] [zI x] G h k ↔ Q (some (zI x)) G h := E_iret (by rfl) rfl
theorem e143_0 : zE 143 d Q 0 [some (.inr (.inr w9)), l1, l2] st G h k ↔ zE 143 d Q 1 [some (.inr (.inr w9)), l1, l2] (.inr (.inr w9) :: st) G h k := E_aload_n (by rfl) rfl
theorem e143_1 : zE 143 d Q 1 [some (.inr (.inr w9)), l1, l2] st G h k ↔ zE 143 d Q 2 [some (.inr (.inr w9)), l1, l2] (.inr (.inr w9) :: st) G h k := E_aload_n (by rfl) rfl
theorem e143_2 : zE 143 d Q 2 [l0, l1, l2] (zR (some r) :: st) G h k ↔ (G.2.1 r = 9 ∧ zE 143 d Q 5 [l0, l1, l2] (zR (G.2.2.2 r 3) :: st) G h k) := E_getR (by rfl) rfl
theorem e143_5 : zE 143 d Q 5 [l0, l1, l2] (zR (some r) :: st) G h k ↔ (G.2.1 r = 8 ∧ zE 143 d Q 8 [l0, l1, l2] (zI (h r 5) :: st) G h k) := E_getI (by rfl) (by decide)
theorem e143_8 : zE 143 d Q 8 [l0, l1, l2] (zI x :: st) G h k ↔ ((x = 0 → zE 143 d Q 20 [l0, l1, l2] st G h k) ∧ (¬ (x = 0) → zE 143 d Q 11 [l0, l1, l2] st G h k)) := E_if_eq (by rfl)
theorem e143_11 : zE 143 d Q 11 [l0, some (zI x), l2] st G h k ↔ zE 143 d Q 12 [l0, some (zI x), l2] (zI x :: st) G h k := E_iload_n (by rfl) rfl
theorem e143_12 : zE 143 d Q 12 [l0, l1, l2] st G h k ↔ zE 143 d Q 13 [l0, l1, l2] (zI 1 :: st) G h k := E_iconst (by rfl)
theorem e143_13 : zE 143 d Q 13 [l0, l1, l2] (zI y :: zI x :: st) G h k ↔ ((x = y → zE 143 d Q 20 [l0, l1, l2] st G h k) ∧ (¬ (x = y) → zE 143 d Q 16 [l0, l1, l2] st G h k)) := E_icmp_eq (by rfl)
theorem e143_16 : zE 143 d Q 16 [l0, l1, l2] st G h k ↔ zE 143 d Q 17 [l0, l1, l2] (zI 1 :: st) G h k := E_iconst (by rfl)
theorem e143_17 : zE 143 d Q 17 [l0, l1, l2] st G h k ↔ zE 143 d Q 21 [l0, l1, l2] st G h k := E_goto (by rfl)
theorem e143_20 : zE 143 d Q 20 [l0, l1, l2] st G h k ↔ zE 143 d Q 21 [l0, l1, l2] (zI 0 :: st) G h k := E_iconst (by rfl)
theorem e143_21 : zE 143 d Q 21 [l0, l1, l2] (zI x :: zR (some r) :: st) G h k ↔ (G.2.1 r = 9 ∧ (x = 0 ∨ x = 1) ∧ zE 143 d Q 24 [l0, l1, l2] st G (zu h r 16 x) k) := E_putZ (by rfl) rfl
theorem e143_24 : zE 143 d Q 24 [some (.inr (.inr w9)), l1, l2] st G h k ↔ zE 143 d Q 25 [some (.inr (.inr w9)), l1, l2] (.inr (.inr w9) :: st) G h k := E_aload_n (by rfl) rfl
theorem e143_25 : zE 143 d Q 25 [l0, some (zI x), l2] st G h k ↔ zE 143 d Q 26 [l0, some (zI x), l2] (zI x :: st) G h k := E_iload_n (by rfl) rfl
theorem e143_26 : zE 143 d Q 26 [l0, l1, l2] st G h k ↔ zE 143 d Q 27 [l0, l1, l2] (zI 2 :: st) G h k := E_iconst (by rfl)
theorem e143_27 : zE 143 d Q 27 [l0, l1, l2] (zI y :: zI x :: st) G h k ↔ ((¬ x = y → zE 143 d Q 34 [l0, l1, l2] st G h k) ∧ (¬ (¬ x = y) → zE 143 d Q 30 [l0, l1, l2] st G h k)) := E_icmp_ne (by rfl)
theorem e143_30 : zE 143 d Q 30 [l0, l1, l2] st G h k ↔ zE 143 d Q 31 [l0, l1, l2] (zI 1 :: st) G h k := E_iconst (by rfl)
theorem e143_31 : zE 143 d Q 31 [l0, l1, l2] st G h k ↔ zE 143 d Q 44 [l0, l1, l2] st G h k := E_goto (by rfl)
theorem e143_34 : zE 143 d Q 34 [l0, some (zI x), l2] st G h k ↔ zE 143 d Q 35 [l0, some (zI x), l2] (zI x :: st) G h k := E_iload_n (by rfl) rfl
theorem e143_35 : zE 143 d Q 35 [l0, l1, l2] st G h k ↔ zE 143 d Q 36 [l0, l1, l2] (zI 3 :: st) G h k := E_iconst (by rfl)
theorem e143_36 : zE 143 d Q 36 [l0, l1, l2] (zI y :: zI x :: st) G h k ↔ ((¬ x = y → zE 143 d Q 43 [l0, l1, l2] st G h k) ∧ (¬ (¬ x = y) → zE 143 d Q 39 [l0, l1, l2] st G h k)) := E_icmp_ne (by rfl)
theorem e143_39 : zE 143 d Q 39 [l0, l1, l2] st G h k ↔ zE 143 d Q 40 [l0, l1, l2] (zI 2 :: st) G h k := E_iconst (by rfl)
theorem e143_40 : zE 143 d Q 40 [l0, l1, l2] st G h k ↔ zE 143 d Q 44 [l0, l1, l2] st G h k := E_goto (by rfl)
theorem e143_43 : zE 143 d Q 43 [l0, l1, l2] st G h k ↔ zE 143 d Q 44 [l0, l1, l2] (zI 0 :: st) G h k := E_iconst (by rfl)
theorem e143_44 : zE 143 d Q 44 [l0, l1, l2] (zI x :: zR (some r) :: st) G h k ↔ (G.2.1 r = 9 ∧ zE 143 d Q 47 [l0, l1, l2] st G (zu h r 17 x) k) := E_putI (by rfl) rfl
theorem e143_47 : zE 143 d Q 47 [some (.inr (.inr w9)), l1, l2] st G h k ↔ zE 143 d Q 48 [some (.inr (.inr w9)), l1, l2] (.inr (.inr w9) :: st) G h k := E_aload_n (by rfl) rfl
theorem e143_48 : zE 143 d Q 48 [l0, some (zI x), l2] st G h k ↔ zE 143 d Q 49 [l0, some (zI x), l2] (zI x :: st) G h k := E_iload_n (by rfl) rfl
theorem e143_49 : zE 143 d Q 49 [l0, l1, l2] st G h k ↔ zE 143 d Q 50 [l0, l1, l2] (zI 4 :: st) G h k := E_iconst (by rfl)
theorem e143_50 : zE 143 d Q 50 [l0, l1, l2] (zI y :: zI x :: st) G h k ↔ ((¬ x = y → zE 143 d Q 57 [l0, l1, l2] st G h k) ∧ (¬ (¬ x = y) → zE 143 d Q 53 [l0, l1, l2] st G h k)) := E_icmp_ne (by rfl)
theorem e143_53 : zE 143 d Q 53 [l0, l1, l2] st G h k ↔ zE 143 d Q 54 [l0, l1, l2] (zI 1 :: st) G h k := E_iconst (by rfl)
theorem e143_54 : zE 143 d Q 54 [l0, l1, l2] st G h k ↔ zE 143 d Q 67 [l0, l1, l2] st G h k := E_goto (by rfl)
theorem e143_57 : zE 143 d Q 57 [l0, some (zI x), l2] st G h k ↔ zE 143 d Q 58 [l0, some (zI x), l2] (zI x :: st) G h k := E_iload_n (by rfl) rfl
theorem e143_58 : zE 143 d Q 58 [l0, l1, l2] st G h k ↔ zE 143 d Q 59 [l0, l1, l2] (zI 5 :: st) G h k := E_iconst (by rfl)
theorem e143_59 : zE 143 d Q 59 [l0, l1, l2] (zI y :: zI x :: st) G h k ↔ ((¬ x = y → zE 143 d Q 66 [l0, l1, l2] st G h k) ∧ (¬ (¬ x = y) → zE 143 d Q 62 [l0, l1, l2] st G h k)) := E_icmp_ne (by rfl)
theorem e143_62 : zE 143 d Q 62 [l0, l1, l2] st G h k ↔ zE 143 d Q 63 [l0, l1, l2] (zI 2 :: st) G h k := E_iconst (by rfl)
theorem e143_63 : zE 143 d Q 63 [l0, l1, l2] st G h k ↔ zE 143 d Q 67 [l0, l1, l2] st G h k := E_goto (by rfl)
theorem e143_66 : zE 143 d Q 66 [l0, l1, l2] st G h k ↔ zE 143 d Q 67 [l0, l1, l2] (zI 0 :: st) G h k := E_iconst (by rfl)
theorem e143_67 : zE 143 d Q 67 [l0, l1, l2] (zI x :: zR (some r) :: st) G h k ↔ (G.2.1 r = 9 ∧ zE 143 d Q 70 [l0, l1, l2] st G (zu h r 18 x) k) := E_putI (by rfl) rfl
theorem e143_70 : zE 143 d Q 70 [some (.inr (.inr w9)), l1, l2] st G h k ↔ zE 143 d Q 71 [some (.inr (.inr w9)), l1, l2] (.inr (.inr w9) :: st) G h k := E_aload_n (by rfl) rfl
theorem e143_71 : zE 143 d Q 71 [l0, l1, l2] st G h k ↔ zE 143 d Q 72 [l0, l1, l2] (zI (-1) :: st) G h k := E_iconst (by rfl)
theorem e143_72 : zE 143 d Q 72 [l0, l1, l2] (zI x :: zR (some r) :: st) G h k ↔ (G.2.1 r = 9 ∧ zE 143 d Q 75 [l0, l1, l2] st G (zu h r 19 x) k) := E_putI (by rfl) rfl
theorem e143_75 : zE 143 d Q 75 [some (.inr (.inr w9)), l1, l2] st G h k ↔ zE 143 d Q 76 [some (.inr (.inr w9)), l1, l2] (.inr (.inr w9) :: st) G h k := E_aload_n (by rfl) rfl
theorem e143_76 : zE 143 d Q 76 [l0, l1, l2] st G h k ↔ zE 143 d Q 77 [l0, l1, l2] (zI (-1) :: st) G h k := E_iconst (by rfl)
theorem e143_77 : zE 143 d Q 77 [l0, l1, l2] (zI x :: zR (some r) :: st) G h k ↔ (G.2.1 r = 9 ∧ zE 143 d Q 80 [l0, l1, l2] st G (zu h r 20 x) k) := E_putI (by rfl) rfl
theorem e143_80 : zE 143 d Q 80 [some (.inr (.inr w9)), l1, l2] st G h k ↔ zE 143 d Q 81 [some (.inr (.inr w9)), l1, l2] (.inr (.inr w9) :: st) G h k := E_aload_n (by rfl) rfl
theorem e143_81 : zE 143 d Q 81 [l0, l1, l2] st G h k ↔ zE 143 d Q 82 [l0, l1, l2] (zI 0 :: st) G h k := E_iconst (by rfl)
theorem e143_82 : zE 143 d Q 82 [l0, l1, l2] (zI x :: zR (some r) :: st) G h k ↔ (G.2.1 r = 9 ∧ zE 143 d Q 85 [l0, l1, l2] st G (zu h r 21 x) k) := E_putI (by rfl) rfl
theorem e143_85 : zE 143 d Q 85 [l0, l1, l2] st G h k ↔ zE 143 d Q 86 [l0, l1, l2] (zI 0 :: st) G h k := E_iconst (by rfl)
theorem e143_86 : zE 143 d Q 86 [l0, l1, l2] (zI x :: st) G h k ↔ zE 143 d Q 87 [l0, (zclr l1), some (zI x)] st G h k := E_istore_n (by rfl) (by decide)
theorem e143_87 : zE 143 d Q 87 [l0, l1, some (zI x)] st G h k ↔ zE 143 d Q 88 [l0, l1, some (zI x)] (zI x :: st) G h k := E_iload_n (by rfl) rfl
theorem e143_88 : zE 143 d Q 88 [l0, l1, l2] st G h k ↔ zE 143 d Q 89 [l0, l1, l2] (zI 3 :: st) G h k := E_iconst (by rfl)
theorem e143_89 : zE 143 d Q 89 [l0, l1, l2] (zI y :: zI x :: st) G h k ↔ ((y ≤ x → zE 143 d Q 113 [l0, l1, l2] st G h k) ∧ (¬ (y ≤ x) → zE 143 d Q 92 [l0, l1, l2] st G h k)) := E_icmp_ge (by rfl)
theorem e143_92 : zE 143 d Q 92 [some (.inr (.inr w9)), l1, l2] st G h k ↔ zE 143 d Q 93 [some (.inr (.inr w9)), l1, l2] (.inr (.inr w9) :: st) G h k := E_aload_n (by rfl) rfl
theorem e143_93 : zE 143 d Q 93 [l0, l1, l2] (zR (some r) :: st) G h k ↔ (G.2.1 r = 9 ∧ zE 143 d Q 96 [l0, l1, l2] (zR (G.2.2.2 r 22) :: st) G h k) := E_getR (by rfl) rfl
theorem e143_96 : zE 143 d Q 96 [l0, l1, some (zI x)] st G h k ↔ zE 143 d Q 97 [l0, l1, some (zI x)] (zI x :: st) G h k := E_iload_n (by rfl) rfl
theorem e143_97 : zE 143 d Q 97 [some (.inr (.inr w9)), l1, l2] st G h k ↔ zE 143 d Q 98 [some (.inr (.inr w9)), l1, l2] (.inr (.inr w9) :: st) G h k := E_aload_n (by rfl) rfl
theorem e143_98 : zE 143 d Q 98 [l0, l1, l2] (zR (some r) :: st) G h k ↔ (G.2.1 r = 9 ∧ zE 143 d Q 101 [l0, l1, l2] (zR (G.2.2.2 r 3) :: st) G h k) := E_getR (by rfl) rfl
theorem e143_101 : zE 143 d Q 101 [l0, l1, l2] (zR (some r) :: st) G h k ↔ (G.2.1 r = 8 ∧ zE 143 d Q 104 [l0, l1, l2] (zR (G.2.2.2 r 7) :: st) G h k) := E_getR (by rfl) rfl
theorem e143_104 : zE 143 d Q 104 [l0, l1, some (zI x)] st G h k ↔ zE 143 d Q 105 [l0, l1, some (zI x)] (zI x :: st) G h k := E_iload_n (by rfl) rfl
theorem e143_105 : zE 143 d Q 105 [l0, l1, l2] (zI i :: zR (some r) :: st) G h k ↔ (G.2.1 r = 10 ∧ (0 ≤ i ∧ i < G.2.2.1 r) ∧ zE 143 d Q 106 [l0, l1, l2] (zI (h r i.toNat) :: st) G h k) := E_iaload (by rfl)
theorem e143_106 : zE 143 d Q 106 [l0, l1, l2] (zI x :: zI i :: zR (some r) :: st) G h k ↔ (G.2.1 r = 10 ∧ (0 ≤ i ∧ i < G.2.2.1 r) ∧ zE 143 d Q 107 [l0, l1, l2] st G (zu h r i.toNat x) k) := E_iastore (by rfl)
theorem e143_107 : zE 143 d Q 107 [l0, l1, some (zI x)] st G h k ↔ zE 143 d Q 110 [l0, (zclr l1), some (zI (wr (x + 1)))] st G h k := E_iinc (by rfl) rfl
theorem e143_110 : zE 143 d Q 110 [l0, l1, l2] st G h k ↔ zE 143 d Q 87 [l0, l1, l2] st G h k := E_goto (by rfl)
theorem e143_113 : zE 143 d Q 113 [l0, l1, l2] [] G h k ↔ Q none G h := E_vret (by rfl) rfl
theorem e144_0 : zE 144 d Q 0 [some (.inr (.inr w9)), l1] st G h k ↔ zE 144 d Q 1 [some (.inr (.inr w9)), l1] (.inr (.inr w9) :: st) G h k := E_aload_n (by rfl) rfl
theorem e144_1 : zE 144 d Q 1 [l0, l1] (zR (some r) :: st) G h k ↔ (G.2.1 r = 9 ∧ zE 144 d Q 4 [l0, l1] (zI (h r 18) :: st) G h k) := E_getI (by rfl) (by decide)
theorem e144_4 : zE 144 d Q 4 [l0, l1] st G h k ↔ zE 144 d Q 5 [l0, l1] (zI 1 :: st) G h k := E_iconst (by rfl)
theorem e144_5 : zE 144 d Q 5 [l0, l1] (zI y :: zI x :: st) G h k ↔ ((x = y → zE 144 d Q 27 [l0, l1] st G h k) ∧ (¬ (x = y) → zE 144 d Q 8 [l0, l1] st G h k)) := E_icmp_eq (by rfl)
theorem e144_8 : zE 144 d Q 8 [some (.inr (.inr w9)), l1] st G h k ↔ zE 144 d Q 9 [some (.inr (.inr w9)), l1] (.inr (.inr w9) :: st) G h k := E_aload_n (by rfl) rfl
theorem e144_9 : zE 144 d Q 9 [l0, l1] (zR (some r) :: st) G h k ↔ (G.2.1 r = 9 ∧ zE 144 d Q 12 [l0, l1] (zI (h r 18) :: st) G h k) := E_getI (by rfl) (by decide)
theorem e144_12 : zE 144 d Q 12 [l0, l1] (zI x :: st) G h k ↔ ((¬ x = 0 → zE 144 d Q 31 [l0, l1] st G h k) ∧ (¬ (¬ x = 0) → zE 144 d Q 15 [l0, l1] st G h k)) := E_if_ne (by rfl)
theorem e144_15 : zE 144 d Q 15 [some (.inr (.inr w9)), l1] st G h k ↔ zE 144 d Q 16 [some (.inr (.inr w9)), l1] (.inr (.inr w9) :: st) G h k := E_aload_n (by rfl) rfl
theorem e144_16 : zE 144 d Q 16 [l0, l1] (zR (some r) :: st) G h k ↔ (G.2.1 r = 9 ∧ zE 144 d Q 19 [l0, l1] (zR (G.2.2.2 r 3) :: st) G h k) := E_getR (by rfl) rfl
theorem e144_19 : zE 144 d Q 19 [l0, l1] (zR (some r) :: st) G h k ↔ (G.2.1 r = 8 ∧ zE 144 d Q 22 [l0, l1] (zR (G.2.2.2 r 14) :: st) G h k) := E_getR (by rfl) rfl
theorem e144_22 : zE 144 d Q 22 [l0, some (zI x)] st G h k ↔ zE 144 d Q 23 [l0, some (zI x)] (zI x :: st) G h k := E_iload_n (by rfl) rfl
theorem e144_23 : zE 144 d Q 23 [l0, l1] (zI i :: zR (some r) :: st) G h k ↔ (G.2.1 r = 13 ∧ (0 ≤ i ∧ i < G.2.2.1 r) ∧ zE 144 d Q 24 [l0, l1] (zI (h r i.toNat) :: st) G h k) := E_baload (by rfl) (by decide)
theorem e144_24 : zE 144 d Q 24 [l0, l1] (zI x :: st) G h k ↔ ((x = 0 → zE 144 d Q 31 [l0, l1] st G h k) ∧ (¬ (x = 0) → zE 144 d Q 27 [l0, l1] st G h k)) := E_if_eq (by rfl)
theorem e144_27 : zE 144 d Q 27 [l0, l1] st G h k ↔ zE 144 d Q 28 [l0, l1] (zI 1 :: st) G h k := E_iconst (by rfl)
theorem e144_28 : zE 144 d Q 28 [l0, l1] st G h k ↔ zE 144 d Q 32 [l0, l1] st G h k := E_goto (by rfl)
theorem e144_31 : zE 144 d Q 31 [l0, l1] st G h k ↔ zE 144 d Q 32 [l0, l1] (zI 0 :: st) G h k := E_iconst (by rfl)
theorem e144_32 : zE 144 d Q 32 [l0, l1] [zI x] G h k ↔ ((x = 0 ∨ x = 1) ∧ Q (some (zI x)) G h) := E_zret (by rfl) rfl
theorem e145_0 : zE 145 d Q 0 [l0, some (zI x), l2, l3, l4] st G h k ↔ zE 145 d Q 1 [l0, some (zI x), l2, l3, l4] (zI x :: st) G h k := E_iload_n (by rfl) rfl
theorem e145_1 : zE 145 d Q 1 [l0, l1, l2, l3, l4] st G h k ↔ zE 145 d Q 2 [l0, l1, l2, l3, l4] (zI (-1) :: st) G h k := E_iconst (by rfl)
theorem e145_2 : zE 145 d Q 2 [l0, l1, l2, l3, l4] (zI y :: zI x :: st) G h k ↔ ((x = y → zE 145 d Q 18 [l0, l1, l2, l3, l4] st G h k) ∧ (¬ (x = y) → zE 145 d Q 5 [l0, l1, l2, l3, l4] st G h k)) := E_icmp_eq (by rfl)
theorem e145_5 : zE 145 d Q 5 [l0, some (zI x), l2, l3, l4] st G h k ↔ zE 145 d Q 6 [l0, some (zI x), l2, l3, l4] (zI x :: st) G h k := E_iload_n (by rfl) rfl
theorem e145_6 : zE 145 d Q 6 [l0, l1, l2, some (zI x), l4] st G h k ↔ zE 145 d Q 7 [l0, l1, l2, some (zI x), l4] (zI x :: st) G h k := E_iload_n (by rfl) rfl
theorem e145_7 : zE 145 d Q 7 [l0, l1, l2, l3, l4] (zI y :: zI x :: st) G h k ↔ ((x = y → zE 145 d Q 18 [l0, l1, l2, l3, l4] st G h k) ∧ (¬ (x = y) → zE 145 d Q 10 [l0, l1, l2, l3, l4] st G h k)) := E_icmp_eq (by rfl)
theorem e145_10 : zE 145 d Q 10 [some (.inr (.inr w9)), l1, l2, l3, l4] st G h k ↔ zE 145 d Q 11 [some (.inr (.inr w9)), l1, l2, l3, l4] (.inr (.inr w9) :: st) G h k := E_aload_n (by rfl) rfl
theorem e145_11 : zE 145 d Q 11 [l0, l1, l2, l3, l4] (zR (some r) :: st) G h k ↔ (G.2.1 r = 9 ∧ zE 145 d Q 14 [l0, l1, l2, l3, l4] (zI (h r 17) :: st) G h k) := E_getI (by rfl) (by decide)
theorem e145_14 : zE 145 d Q 14 [l0, l1, l2, l3, l4] st G h k ↔ zE 145 d Q 15 [l0, l1, l2, l3, l4] (zI 2 :: st) G h k := E_iconst (by rfl)
theorem e145_15 : zE 145 d Q 15 [l0, l1, l2, l3, l4] (zI y :: zI x :: st) G h k ↔ ((¬ x = y → zE 145 d Q 20 [l0, l1, l2, l3, l4] st G h k) ∧ (¬ (¬ x = y) → zE 145 d Q 18 [l0, l1, l2, l3, l4] st G h k)) := E_icmp_ne (by rfl)
theorem e145_18 : zE 145 d Q 18 [l0, l1, l2, l3, l4] st G h k ↔ zE 145 d Q 19 [l0, l1, l2, l3, l4] (zI 0 :: st) G h k := E_iconst (by rfl)
theorem e145_19 : zE 145 d Q 19 [l0, l1, l2, l3, l4] [zI x] G h k ↔ Q (some (zI x)) G h := E_iret (by rfl) rfl
theorem e145_20 : zE 145 d Q 20 [some (.inr (.inr w9)), l1, l2, l3, l4] st G h k ↔ zE 145 d Q 21 [some (.inr (.inr w9)), l1, l2, l3, l4] (.inr (.inr w9) :: st) G h k := E_aload_n (by rfl) rfl
theorem e145_21 : zE 145 d Q 21 [l0, l1, l2, l3, l4] (zR (some r) :: st) G h k ↔ (G.2.1 r = 9 ∧ zE 145 d Q 24 [l0, l1, l2, l3, l4] (zI (h r 17) :: st) G h k) := E_getI (by rfl) (by decide)
theorem e145_24 : zE 145 d Q 24 [l0, l1, l2, l3, l4] st G h k ↔ zE 145 d Q 25 [l0, l1, l2, l3, l4] (zI 1 :: st) G h k := E_iconst (by rfl)
theorem e145_25 : zE 145 d Q 25 [l0, l1, l2, l3, l4] (zI y :: zI x :: st) G h k ↔ ((¬ x = y → zE 145 d Q 42 [l0, l1, l2, l3, l4] st G h k) ∧ (¬ (¬ x = y) → zE 145 d Q 28 [l0, l1, l2, l3, l4] st G h k)) := E_icmp_ne (by rfl)
theorem e145_28 : zE 145 d Q 28 [some (.inr (.inr w9)), l1, l2, l3, l4] st G h k ↔ zE 145 d Q 29 [some (.inr (.inr w9)), l1, l2, l3, l4] (.inr (.inr w9) :: st) G h k := E_aload_n (by rfl) rfl
theorem e145_29 : zE 145 d Q 29 [l0, l1, l2, l3, l4] (zR (some r) :: st) G h k ↔ (G.2.1 r = 9 ∧ zE 145 d Q 32 [l0, l1, l2, l3, l4] (zR (G.2.2.2 r 3) :: st) G h k) := E_getR (by rfl) rfl
theorem e145_32 : zE 145 d Q 32 [l0, l1, l2, l3, l4] (zR (some r) :: st) G h k ↔ (G.2.1 r = 8 ∧ zE 145 d Q 35 [l0, l1, l2, l3, l4] (zR (G.2.2.2 r 12) :: st) G h k) := E_getR (by rfl) rfl
theorem e145_35 : zE 145 d Q 35 [l0, l1, some (zI x), l3, l4] st G h k ↔ zE 145 d Q 36 [l0, l1, some (zI x), l3, l4] (zI x :: st) G h k := E_iload_n (by rfl) rfl
theorem e145_36 : zE 145 d Q 36 [l0, l1, l2, l3, l4] (zI i :: zR (some r) :: st) G h k ↔ (G.2.1 r = 10 ∧ (0 ≤ i ∧ i < G.2.2.1 r) ∧ zE 145 d Q 37 [l0, l1, l2, l3, l4] (zI (h r i.toNat) :: st) G h k) := E_iaload (by rfl)
theorem e145_37 : zE 145 d Q 37 [l0, l1, l2, l3, l4] st G h k ↔ zE 145 d Q 38 [l0, l1, l2, l3, l4] (zI 2 :: st) G h k := E_iconst (by rfl)
theorem e145_38 : zE 145 d Q 38 [l0, l1, l2, l3, l4] (zI y :: zI x :: st) G h k ↔ (y ≠ 0 ∧ zE 145 d Q 39 [l0, l1, l2, l3, l4] (zI (wr (x.tdiv y)) :: st) G h k) := E_idiv (by rfl)
theorem e145_39 : zE 145 d Q 39 [l0, l1, l2, l3, l4] st G h k ↔ zE 145 d Q 51 [l0, l1, l2, l3, l4] st G h k := E_goto (by rfl)
theorem e145_42 : zE 145 d Q 42 [some (.inr (.inr w9)), l1, l2, l3, l4] st G h k ↔ zE 145 d Q 43 [some (.inr (.inr w9)), l1, l2, l3, l4] (.inr (.inr w9) :: st) G h k := E_aload_n (by rfl) rfl
theorem e145_43 : zE 145 d Q 43 [l0, l1, l2, l3, l4] (zR (some r) :: st) G h k ↔ (G.2.1 r = 9 ∧ zE 145 d Q 46 [l0, l1, l2, l3, l4] (zR (G.2.2.2 r 3) :: st) G h k) := E_getR (by rfl) rfl
theorem e145_46 : zE 145 d Q 46 [l0, l1, l2, l3, l4] (zR (some r) :: st) G h k ↔ (G.2.1 r = 8 ∧ zE 145 d Q 49 [l0, l1, l2, l3, l4] (zR (G.2.2.2 r 12) :: st) G h k) := E_getR (by rfl) rfl
theorem e145_49 : zE 145 d Q 49 [l0, l1, some (zI x), l3, l4] st G h k ↔ zE 145 d Q 50 [l0, l1, some (zI x), l3, l4] (zI x :: st) G h k := E_iload_n (by rfl) rfl
theorem e145_50 : zE 145 d Q 50 [l0, l1, l2, l3, l4] (zI i :: zR (some r) :: st) G h k ↔ (G.2.1 r = 10 ∧ (0 ≤ i ∧ i < G.2.2.1 r) ∧ zE 145 d Q 51 [l0, l1, l2, l3, l4] (zI (h r i.toNat) :: st) G h k) := E_iaload (by rfl)
theorem e145_51 : zE 145 d Q 51 [l0, l1, l2, l3, l4] (zI x :: st) G h k ↔ zE 145 d Q 53 [l0, l1, l2, (zclr l3), some (zI x)] st G h k := E_istore (by rfl) (by decide)
theorem e145_53 : zE 145 d Q 53 [some (.inr (.inr w9)), l1, l2, l3, l4] st G h k ↔ zE 145 d Q 54 [some (.inr (.inr w9)), l1, l2, l3, l4] (.inr (.inr w9) :: st) G h k := E_aload_n (by rfl) rfl
theorem e145_54 : zE 145 d Q 54 [l0, l1, l2, l3, l4] (zR (some r) :: st) G h k ↔ (G.2.1 r = 9 ∧ zE 145 d Q 57 [l0, l1, l2, l3, l4] (zR (G.2.2.2 r 22) :: st) G h k) := E_getR (by rfl) rfl
theorem e145_57 : zE 145 d Q 57 [l0, some (zI x), l2, l3, l4] st G h k ↔ zE 145 d Q 58 [l0, some (zI x), l2, l3, l4] (zI x :: st) G h k := E_iload_n (by rfl) rfl
theorem e145_58 : zE 145 d Q 58 [l0, l1, l2, l3, l4] (zI i :: zR (some r) :: st) G h k ↔ (G.2.1 r = 10 ∧ (0 ≤ i ∧ i < G.2.2.1 r) ∧ zE 145 d Q 59 [l0, l1, l2, l3, l4] (zI (h r i.toNat) :: st) G h k) := E_iaload (by rfl)
theorem e145_59 : zE 145 d Q 59 [some (.inr (.inr w9)), l1, l2, l3, l4] st G h k ↔ zE 145 d Q 60 [some (.inr (.inr w9)), l1, l2, l3, l4] (.inr (.inr w9) :: st) G h k := E_aload_n (by rfl) rfl
theorem e145_60 : zE 145 d Q 60 [l0, l1, l2, l3, l4] (zR (some r) :: st) G h k ↔ (G.2.1 r = 9 ∧ zE 145 d Q 63 [l0, l1, l2, l3, l4] (zR (G.2.2.2 r 22) :: st) G h k) := E_getR (by rfl) rfl
theorem e145_63 : zE 145 d Q 63 [l0, l1, l2, some (zI x), l4] st G h k ↔ zE 145 d Q 64 [l0, l1, l2, some (zI x), l4] (zI x :: st) G h k := E_iload_n (by rfl) rfl
theorem e145_64 : zE 145 d Q 64 [l0, l1, l2, l3, l4] (zI i :: zR (some r) :: st) G h k ↔ (G.2.1 r = 10 ∧ (0 ≤ i ∧ i < G.2.2.1 r) ∧ zE 145 d Q 65 [l0, l1, l2, l3, l4] (zI (h r i.toNat) :: st) G h k) := E_iaload (by rfl)
theorem e145_65 : zE 145 d Q 65 [l0, l1, l2, l3, l4] (zI y :: zI x :: st) G h k ↔ ((¬ x = y → zE 145 d Q 75 [l0, l1, l2, l3, l4] st G h k) ∧ (¬ (¬ x = y) → zE 145 d Q 68 [l0, l1, l2, l3, l4] st G h k)) := E_icmp_ne (by rfl)
theorem e145_68 : zE 145 d Q 68 [l0, l1, l2, l3, some (zI x)] st G h k ↔ zE 145 d Q 70 [l0, l1, l2, l3, some (zI x)] (zI x :: st) G h k := E_iload (by rfl) rfl
theorem e145_70 : zE 145 d Q 70 [l0, l1, l2, l3, l4] st G h k ↔ zE 145 d Q 71 [l0, l1, l2, l3, l4] (zI 2 :: st) G h k := E_iconst (by rfl)
theorem e145_71 : zE 145 d Q 71 [l0, l1, l2, l3, l4] (zI y :: zI x :: st) G h k ↔ (y ≠ 0 ∧ zE 145 d Q 72 [l0, l1, l2, l3, l4] (zI (wr (x.tdiv y)) :: st) G h k) := E_idiv (by rfl)
theorem e145_72 : zE 145 d Q 72 [l0, l1, l2, l3, l4] st G h k ↔ zE 145 d Q 77 [l0, l1, l2, l3, l4] st G h k := E_goto (by rfl)
theorem e145_75 : zE 145 d Q 75 [l0, l1, l2, l3, some (zI x)] st G h k ↔ zE 145 d Q 77 [l0, l1, l2, l3, some (zI x)] (zI x :: st) G h k := E_iload (by rfl) rfl
theorem e145_77 : zE 145 d Q 77 [l0, l1, l2, l3, l4] [zI x] G h k ↔ Q (some (zI x)) G h := E_iret (by rfl) rfl
theorem e146_0 : zE 146 d Q 0 [l0, l1, l2, some (zI x)] st G h k ↔ zE 146 d Q 1 [l0, l1, l2, some (zI x)] (zI x :: st) G h k := E_iload_n (by rfl) rfl
theorem e146_1 : zE 146 d Q 1 [l0, l1, l2, l3] st G h k ↔ zE 146 d Q 3 [l0, l1, l2, l3] (zI (-2) :: st) G h k := E_bipush (by rfl)
theorem e146_3 : zE 146 d Q 3 [l0, l1, l2, l3] (zI y :: zI x :: st) G h k ↔ ((¬ x = y → zE 146 d Q 8 [l0, l1, l2, l3] st G h k) ∧ (¬ (¬ x = y) → zE 146 d Q 6 [l0, l1, l2, l3] st G h k)) := E_icmp_ne (by rfl)
theorem e146_6 : zE 146 d Q 6 [l0, l1, l2, l3] st G h k ↔ zE 146 d Q 7 [l0, l1, l2, l3] (zI 0 :: st) G h k := E_iconst (by rfl)
theorem e146_7 : zE 146 d Q 7 [l0, l1, l2, l3] [zI x] G h k ↔ Q (some (zI x)) G h := E_iret (by rfl) rfl
theorem e146_8 : zE 146 d Q 8 [some (.inr (.inr w9)), l1, l2, l3] st G h k ↔ zE 146 d Q 9 [some (.inr (.inr w9)), l1, l2, l3] (.inr (.inr w9) :: st) G h k := E_aload_n (by rfl) rfl
theorem e146_9 : zE 146 d Q 9 [l0, l1, l2, l3] (zR (some r) :: st) G h k ↔ (G.2.1 r = 9 ∧ zE 146 d Q 12 [l0, l1, l2, l3] (zR (G.2.2.2 r 3) :: st) G h k) := E_getR (by rfl) rfl
theorem e146_12 : zE 146 d Q 12 [l0, l1, l2, l3] (zR (some r) :: st) G h k ↔ (G.2.1 r = 8 ∧ zE 146 d Q 15 [l0, l1, l2, l3] (zR (G.2.2.2 r 11) :: st) G h k) := E_getR (by rfl) rfl
theorem e146_15 : zE 146 d Q 15 [l0, l1, some (zI x), l3] st G h k ↔ zE 146 d Q 16 [l0, l1, some (zI x), l3] (zI x :: st) G h k := E_iload_n (by rfl) rfl
theorem e146_16 : zE 146 d Q 16 [l0, l1, l2, l3] (zI i :: zR (some r) :: st) G h k ↔ (G.2.1 r = 10 ∧ (0 ≤ i ∧ i < G.2.2.1 r) ∧ zE 146 d Q 17 [l0, l1, l2, l3] (zI (h r i.toNat) :: st) G h k) := E_iaload (by rfl)
theorem e146_17 : zE 146 d Q 17 [l0, some (zI x), l2, l3] st G h k ↔ zE 146 d Q 18 [l0, some (zI x), l2, l3] (zI x :: st) G h k := E_iload_n (by rfl) rfl
theorem e146_18 : zE 146 d Q 18 [l0, l1, l2, some (zI x)] st G h k ↔ zE 146 d Q 19 [l0, l1, l2, some (zI x)] (zI x :: st) G h k := E_iload_n (by rfl) rfl
theorem e146_19 : zE 146 d Q 19 [l0, l1, l2, l3] (zI y :: zI x :: st) G h k ↔ ((¬ x = y → zE 146 d Q 31 [l0, l1, l2, l3] st G h k) ∧ (¬ (¬ x = y) → zE 146 d Q 22 [l0, l1, l2, l3] st G h k)) := E_icmp_ne (by rfl)
theorem e146_22 : zE 146 d Q 22 [some (.inr (.inr w9)), l1, l2, l3] st G h k ↔ zE 146 d Q 23 [some (.inr (.inr w9)), l1, l2, l3] (.inr (.inr w9) :: st) G h k := E_aload_n (by rfl) rfl
theorem e146_23 : zE 146 d Q 23 [l0, l1, l2, l3] (zR (some r) :: st) G h k ↔ (G.2.1 r = 9 ∧ zE 146 d Q 26 [l0, l1, l2, l3] (zR (G.2.2.2 r 23) :: st) G h k) := E_getR (by rfl) rfl
theorem e146_26 : zE 146 d Q 26 [l0, l1, l2, some (zI x)] st G h k ↔ zE 146 d Q 27 [l0, l1, l2, some (zI x)] (zI x :: st) G h k := E_iload_n (by rfl) rfl
theorem e146_27 : zE 146 d Q 27 [l0, l1, l2, l3] (zI i :: zR (some r) :: st) G h k ↔ (G.2.1 r = 10 ∧ (0 ≤ i ∧ i < G.2.2.1 r) ∧ zE 146 d Q 28 [l0, l1, l2, l3] (zI (h r i.toNat) :: st) G h k) := E_iaload (by rfl)
theorem e146_28 : zE 146 d Q 28 [l0, l1, l2, l3] st G h k ↔ zE 146 d Q 37 [l0, l1, l2, l3] st G h k := E_goto (by rfl)
theorem e146_31 : zE 146 d Q 31 [some (.inr (.inr w9)), l1, l2, l3] st G h k ↔ zE 146 d Q 32 [some (.inr (.inr w9)), l1, l2, l3] (.inr (.inr w9) :: st) G h k := E_aload_n (by rfl) rfl
theorem e146_32 : zE 146 d Q 32 [l0, l1, l2, l3] (zR (some r) :: st) G h k ↔ (G.2.1 r = 9 ∧ zE 146 d Q 35 [l0, l1, l2, l3] (zR (G.2.2.2 r 24) :: st) G h k) := E_getR (by rfl) rfl
theorem e146_35 : zE 146 d Q 35 [l0, l1, l2, some (zI x)] st G h k ↔ zE 146 d Q 36 [l0, l1, l2, some (zI x)] (zI x :: st) G h k := E_iload_n (by rfl) rfl
theorem e146_36 : zE 146 d Q 36 [l0, l1, l2, l3] (zI i :: zR (some r) :: st) G h k ↔ (G.2.1 r = 10 ∧ (0 ≤ i ∧ i < G.2.2.1 r) ∧ zE 146 d Q 37 [l0, l1, l2, l3] (zI (h r i.toNat) :: st) G h k) := E_iaload (by rfl)
theorem e146_37 : zE 146 d Q 37 [l0, l1, l2, l3] (zI y :: zI x :: st) G h k ↔ zE 146 d Q 38 [l0, l1, l2, l3] (zI (wr (x - y)) :: st) G h k := E_isub (by rfl)
theorem e146_38 : zE 146 d Q 38 [some (.inr (.inr w9)), l1, l2, l3] st G h k ↔ zE 146 d Q 39 [some (.inr (.inr w9)), l1, l2, l3] (.inr (.inr w9) :: st) G h k := E_aload_n (by rfl) rfl
theorem e146_39 : zE 146 d Q 39 [l0, some (zI x), l2, l3] st G h k ↔ zE 146 d Q 40 [l0, some (zI x), l2, l3] (zI x :: st) G h k := E_iload_n (by rfl) rfl
theorem e146_40 : zE 146 d Q 40 [l0, l1, some (zI x), l3] st G h k ↔ zE 146 d Q 41 [l0, l1, some (zI x), l3] (zI x :: st) G h k := E_iload_n (by rfl) rfl
theorem e146_41 : zE 146 d Q 41 [l0, l1, l2, some (zI x)] st G h k ↔ zE 146 d Q 42 [l0, l1, l2, some (zI x)] (zI x :: st) G h k := E_iload_n (by rfl) rfl
theorem e146_42 : zE 146 d Q 42 [l0, l1, l2, l3] (v2 :: v1 :: v0 :: zR (some r) :: st) G h k ↔ (zsum st ≤ 8 ∧ G.2.1 r = 9 ∧ zRunD ztb zmt' d 145 [zR (some r), v0, v1, v2] G h (fun v G' h' => zE 146 d Q 45 [l0, l1, l2, l3] (v.toList ++ st) G' h' k)) := E_invV2z (by rfl) (by decide) rfl
theorem e146_45 : zE 146 d Q 45 [l0, l1, l2, l3] (zI y :: zI x :: st) G h k ↔ zE 146 d Q 46 [l0, l1, l2, l3] (zI (wr (x - y)) :: st) G h k := E_isub (by rfl)
theorem e146_46 : zE 146 d Q 46 [l0, l1, l2, l3] [zI x] G h k ↔ Q (some (zI x)) G h := E_iret (by rfl) rfl
theorem e147_0 : zE 147 d Q 0 [l0, l1, l2, l3, l4] st G h k ↔ zE 147 d Q 1 [l0, l1, l2, l3, l4] (zI 0 :: st) G h k := E_iconst (by rfl)
theorem e147_1 : zE 147 d Q 1 [l0, l1, l2, l3, l4] (zI x :: st) G h k ↔ zE 147 d Q 2 [l0, l1, (zclr l2), some (zI x), l4] st G h k := E_istore_n (by rfl) (by decide)
theorem e147_2 : zE 147 d Q 2 [l0, l1, l2, l3, l4] st G h k ↔ zE 147 d Q 3 [l0, l1, l2, l3, l4] (zI 0 :: st) G h k := E_iconst (by rfl)
theorem e147_3 : zE 147 d Q 3 [l0, l1, l2, l3, l4] (zI x :: st) G h k ↔ zE 147 d Q 5 [l0, l1, l2, (zclr l3), some (zI x)] st G h k := E_istore (by rfl) (by decide)
theorem e147_5 : zE 147 d Q 5 [l0, l1, l2, l3, some (zI x)] st G h k ↔ zE 147 d Q 7 [l0, l1, l2, l3, some (zI x)] (zI x :: st) G h k := E_iload (by rfl) rfl
theorem e147_7 : zE 147 d Q 7 [some (.inr (.inr w9)), l1, l2, l3, l4] st G h k ↔ zE 147 d Q 8 [some (.inr (.inr w9)), l1, l2, l3, l4] (.inr (.inr w9) :: st) G h k := E_aload_n (by rfl) rfl
theorem e147_8 : zE 147 d Q 8 [l0, l1, l2, l3, l4] (zR (some r) :: st) G h k ↔ (G.2.1 r = 9 ∧ zE 147 d Q 11 [l0, l1, l2, l3, l4] (zR (G.2.2.2 r 3) :: st) G h k) := E_getR (by rfl) rfl
theorem e147_11 : zE 147 d Q 11 [l0, l1, l2, l3, l4] (zR (some r) :: st) G h k ↔ (G.2.1 r = 8 ∧ zE 147 d Q 14 [l0, l1, l2, l3, l4] (zI (h r 0) :: st) G h k) := E_getI (by rfl) (by decide)
theorem e147_14 : zE 147 d Q 14 [l0, l1, l2, l3, l4] (zI y :: zI x :: st) G h k ↔ ((y ≤ x → zE 147 d Q 48 [l0, l1, l2, l3, l4] st G h k) ∧ (¬ (y ≤ x) → zE 147 d Q 17 [l0, l1, l2, l3, l4] st G h k)) := E_icmp_ge (by rfl)
theorem e147_17 : zE 147 d Q 17 [some (.inr (.inr w9)), l1, l2, l3, l4] st G h k ↔ zE 147 d Q 18 [some (.inr (.inr w9)), l1, l2, l3, l4] (.inr (.inr w9) :: st) G h k := E_aload_n (by rfl) rfl
theorem e147_18 : zE 147 d Q 18 [l0, some (zI x), l2, l3, l4] st G h k ↔ zE 147 d Q 19 [l0, some (zI x), l2, l3, l4] (zI x :: st) G h k := E_iload_n (by rfl) rfl
theorem e147_19 : zE 147 d Q 19 [l0, l1, some (zI x), l3, l4] st G h k ↔ zE 147 d Q 20 [l0, l1, some (zI x), l3, l4] (zI x :: st) G h k := E_iload_n (by rfl) rfl
theorem e147_20 : zE 147 d Q 20 [l0, l1, l2, l3, some (zI x)] st G h k ↔ zE 147 d Q 22 [l0, l1, l2, l3, some (zI x)] (zI x :: st) G h k := E_iload (by rfl) rfl
theorem e147_22 : zE 147 d Q 22 [l0, l1, l2, l3, l4] (v2 :: v1 :: v0 :: zR (some r) :: st) G h k ↔ (zsum st ≤ 8 ∧ G.2.1 r = 9 ∧ zRunD ztb zmt' d 146 [zR (some r), v0, v1, v2] G h (fun v G' h' => zE 147 d Q 25 [l0, l1, l2, l3, l4] (v.toList ++ st) G' h' k)) := E_invV2z (by rfl) (by decide) rfl
theorem e147_25 : zE 147 d Q 25 [l0, l1, l2, some (zI x), l4] st G h k ↔ zE 147 d Q 26 [l0, l1, l2, some (zI x), l4] (zI x :: st) G h k := E_iload_n (by rfl) rfl
theorem e147_26 : zE 147 d Q 26 [l0, l1, l2, l3, l4] (zI y :: zI x :: st) G h k ↔ ((x ≤ y → zE 147 d Q 40 [l0, l1, l2, l3, l4] st G h k) ∧ (¬ (x ≤ y) → zE 147 d Q 29 [l0, l1, l2, l3, l4] st G h k)) := E_icmp_le (by rfl)
theorem e147_29 : zE 147 d Q 29 [some (.inr (.inr w9)), l1, l2, l3, l4] st G h k ↔ zE 147 d Q 30 [some (.inr (.inr w9)), l1, l2, l3, l4] (.inr (.inr w9) :: st) G h k := E_aload_n (by rfl) rfl
theorem e147_30 : zE 147 d Q 30 [l0, some (zI x), l2, l3, l4] st G h k ↔ zE 147 d Q 31 [l0, some (zI x), l2, l3, l4] (zI x :: st) G h k := E_iload_n (by rfl) rfl
theorem e147_31 : zE 147 d Q 31 [l0, l1, some (zI x), l3, l4] st G h k ↔ zE 147 d Q 32 [l0, l1, some (zI x), l3, l4] (zI x :: st) G h k := E_iload_n (by rfl) rfl
theorem e147_32 : zE 147 d Q 32 [l0, l1, l2, l3, some (zI x)] st G h k ↔ zE 147 d Q 34 [l0, l1, l2, l3, some (zI x)] (zI x :: st) G h k := E_iload (by rfl) rfl
theorem e147_34 : zE 147 d Q 34 [l0, l1, l2, l3, l4] (v2 :: v1 :: v0 :: zR (some r) :: st) G h k ↔ (zsum st ≤ 8 ∧ G.2.1 r = 9 ∧ zRunD ztb zmt' d 146 [zR (some r), v0, v1, v2] G h (fun v G' h' => zE 147 d Q 37 [l0, l1, l2, l3, l4] (v.toList ++ st) G' h' k)) := E_invV2z (by rfl) (by decide) rfl
theorem e147_37 : zE 147 d Q 37 [l0, l1, l2, l3, l4] st G h k ↔ zE 147 d Q 41 [l0, l1, l2, l3, l4] st G h k := E_goto (by rfl)
theorem e147_40 : zE 147 d Q 40 [l0, l1, l2, some (zI x), l4] st G h k ↔ zE 147 d Q 41 [l0, l1, l2, some (zI x), l4] (zI x :: st) G h k := E_iload_n (by rfl) rfl
theorem e147_41 : zE 147 d Q 41 [l0, l1, l2, l3, l4] (zI x :: st) G h k ↔ zE 147 d Q 42 [l0, l1, (zclr l2), some (zI x), l4] st G h k := E_istore_n (by rfl) (by decide)
theorem e147_42 : zE 147 d Q 42 [l0, l1, l2, l3, some (zI x)] st G h k ↔ zE 147 d Q 45 [l0, l1, l2, (zclr l3), some (zI (wr (x + 1)))] st G h k := E_iinc (by rfl) rfl
theorem e147_45 : zE 147 d Q 45 [l0, l1, l2, l3, l4] st G h k ↔ zE 147 d Q 5 [l0, l1, l2, l3, l4] st G h k := E_goto (by rfl)
theorem e147_48 : zE 147 d Q 48 [l0, l1, l2, some (zI x), l4] st G h k ↔ zE 147 d Q 49 [l0, l1, l2, some (zI x), l4] (zI x :: st) G h k := E_iload_n (by rfl) rfl
theorem e147_49 : zE 147 d Q 49 [l0, l1, l2, l3, l4] [zI x] G h k ↔ Q (some (zI x)) G h := E_iret (by rfl) rfl
theorem e148_0 : zE 148 d Q 0 [some (.inr (.inr w9)), l1, l2, l3, l4, l5] st G h k ↔ zE 148 d Q 1 [some (.inr (.inr w9)), l1, l2, l3, l4, l5] (.inr (.inr w9) :: st) G h k := E_aload_n (by rfl) rfl
theorem e148_1 : zE 148 d Q 1 [l0, some (zI x), l2, l3, l4, l5] st G h k ↔ zE 148 d Q 2 [l0, some (zI x), l2, l3, l4, l5] (zI x :: st) G h k := E_iload_n (by rfl) rfl
theorem e148_2 : zE 148 d Q 2 [l0, l1, some (zI x), l3, l4, l5] st G h k ↔ zE 148 d Q 3 [l0, l1, some (zI x), l3, l4, l5] (zI x :: st) G h k := E_iload_n (by rfl) rfl
theorem e148_3 : zE 148 d Q 3 [l0, l1, l2, some (zI x), l4, l5] st G h k ↔ zE 148 d Q 4 [l0, l1, l2, some (zI x), l4, l5] (zI x :: st) G h k := E_iload_n (by rfl) rfl
theorem e148_4 : zE 148 d Q 4 [l0, l1, l2, l3, l4, l5] (v2 :: v1 :: v0 :: zR (some r) :: st) G h k ↔ (zsum st ≤ 8 ∧ G.2.1 r = 9 ∧ zRunD ztb zmt' d 146 [zR (some r), v0, v1, v2] G h (fun v G' h' => zE 148 d Q 7 [l0, l1, l2, l3, l4, l5] (v.toList ++ st) G' h' k)) := E_invV2z (by rfl) (by decide) rfl
theorem e148_7 : zE 148 d Q 7 [l0, l1, l2, l3, l4, l5] (zI x :: st) G h k ↔ zE 148 d Q 9 [l0, l1, l2, l3, (zclr l4), some (zI x)] st G h k := E_istore (by rfl) (by decide)
theorem e148_9 : zE 148 d Q 9 [l0, l1, l2, l3, some (zI x), l5] st G h k ↔ zE 148 d Q 11 [l0, l1, l2, l3, some (zI x), l5] (zI x :: st) G h k := E_iload (by rfl) rfl
theorem e148_11 : zE 148 d Q 11 [l0, l1, l2, l3, l4, l5] (zI x :: st) G h k ↔ ((¬ x = 0 → zE 148 d Q 17 [l0, l1, l2, l3, l4, l5] st G h k) ∧ (¬ (¬ x = 0) → zE 148 d Q 14 [l0, l1, l2, l3, l4, l5] st G h k)) := E_if_ne (by rfl)
theorem e148_14 : zE 148 d Q 14 [l0, l1, l2, l3, l4, some (zI x)] st G h k ↔ zE 148 d Q 16 [l0, l1, l2, l3, l4, some (zI x)] (zI x :: st) G h k := E_iload (by rfl) rfl
theorem e148_16 : zE 148 d Q 16 [l0, l1, l2, l3, l4, l5] [zI x] G h k ↔ Q (some (zI x)) G h := E_iret (by rfl) rfl
theorem e148_17 : zE 148 d Q 17 [l0, l1, l2, l3, l4, some (zI x)] st G h k ↔ zE 148 d Q 19 [l0, l1, l2, l3, l4, some (zI x)] (zI x :: st) G h k := E_iload (by rfl) rfl
theorem e148_19 : zE 148 d Q 19 [some (.inr (.inr w9)), l1, l2, l3, l4, l5] st G h k ↔ zE 148 d Q 20 [some (.inr (.inr w9)), l1, l2, l3, l4, l5] (.inr (.inr w9) :: st) G h k := E_aload_n (by rfl) rfl
theorem e148_20 : zE 148 d Q 20 [l0, l1, l2, l3, l4, l5] (zR (some r) :: st) G h k ↔ (G.2.1 r = 9 ∧ zE 148 d Q 23 [l0, l1, l2, l3, l4, l5] (zR (G.2.2.2 r 3) :: st) G h k) := E_getR (by rfl) rfl
theorem e148_23 : zE 148 d Q 23 [l0, l1, l2, l3, l4, l5] (zR (some r) :: st) G h k ↔ (G.2.1 r = 8 ∧ zE 148 d Q 26 [l0, l1, l2, l3, l4, l5] (zI (h r 3) :: st) G h k) := E_getI (by rfl) (by decide)
theorem e148_26 : zE 148 d Q 26 [some (.inr (.inr w9)), l1, l2, l3, l4, l5] st G h k ↔ zE 148 d Q 27 [some (.inr (.inr w9)), l1, l2, l3, l4, l5] (.inr (.inr w9) :: st) G h k := E_aload_n (by rfl) rfl
theorem e148_27 : zE 148 d Q 27 [l0, l1, l2, some (zI x), l4, l5] st G h k ↔ zE 148 d Q 28 [l0, l1, l2, some (zI x), l4, l5] (zI x :: st) G h k := E_iload_n (by rfl) rfl
theorem e148_28 : zE 148 d Q 28 [l0, l1, l2, l3, l4, l5] st G h k ↔ zE 148 d Q 30 [l0, l1, l2, l3, l4, l5] (zI (-2) :: st) G h k := E_bipush (by rfl)
theorem e148_30 : zE 148 d Q 30 [l0, l1, l2, l3, l4, l5] (zI y :: zI x :: st) G h k ↔ ((¬ x = y → zE 148 d Q 37 [l0, l1, l2, l3, l4, l5] st G h k) ∧ (¬ (¬ x = y) → zE 148 d Q 33 [l0, l1, l2, l3, l4, l5] st G h k)) := E_icmp_ne (by rfl)
theorem e148_33 : zE 148 d Q 33 [l0, l1, l2, l3, l4, l5] st G h k ↔ zE 148 d Q 34 [l0, l1, l2, l3, l4, l5] (zI (-1) :: st) G h k := E_iconst (by rfl)
theorem e148_34 : zE 148 d Q 34 [l0, l1, l2, l3, l4, l5] st G h k ↔ zE 148 d Q 38 [l0, l1, l2, l3, l4, l5] st G h k := E_goto (by rfl)
theorem e148_37 : zE 148 d Q 37 [l0, l1, l2, some (zI x), l4, l5] st G h k ↔ zE 148 d Q 38 [l0, l1, l2, some (zI x), l4, l5] (zI x :: st) G h k := E_iload_n (by rfl) rfl
theorem e148_38 : zE 148 d Q 38 [l0, l1, some (zI x), l3, l4, l5] st G h k ↔ zE 148 d Q 39 [l0, l1, some (zI x), l3, l4, l5] (zI x :: st) G h k := E_iload_n (by rfl) rfl
theorem e148_39 : zE 148 d Q 39 [l0, l1, l2, l3, l4, l5] (v1 :: v0 :: zR (some r) :: st) G h k ↔ (zsum st ≤ 8 ∧ G.2.1 r = 9 ∧ zRunD ztb zmt' d 147 [zR (some r), v0, v1] G h (fun v G' h' => zE 148 d Q 42 [l0, l1, l2, l3, l4, l5] (v.toList ++ st) G' h' k)) := E_invV2z (by rfl) (by decide) rfl
theorem e148_42 : zE 148 d Q 42 [l0, l1, l2, l3, l4, l5] (zI y :: zI x :: st) G h k ↔ zE 148 d Q 43 [l0, l1, l2, l3, l4, l5] (zI (wr (x * y)) :: st) G h k := E_imul (by rfl)
theorem e148_43 : zE 148 d Q 43 [l0, l1, l2, l3, l4, l5] st G h k ↔ zE 148 d Q 45 [l0, l1, l2, l3, l4, l5] (zI 100 :: st) G h k := E_bipush (by rfl)
theorem e148_45 : zE 148 d Q 45 [l0, l1, l2, l3, l4, l5] (zI y :: zI x :: st) G h k ↔ (y ≠ 0 ∧ zE 148 d Q 46 [l0, l1, l2, l3, l4, l5] (zI (wr (x.tdiv y)) :: st) G h k) := E_idiv (by rfl)
theorem e148_46 : zE 148 d Q 46 [l0, l1, l2, l3, l4, l5] (zI y :: zI x :: st) G h k ↔ zE 148 d Q 47 [l0, l1, l2, l3, l4, l5] (zI (wr (x + y)) :: st) G h k := E_iadd (by rfl)
theorem e148_47 : zE 148 d Q 47 [l0, l1, l2, l3, l4, l5] [zI x] G h k ↔ Q (some (zI x)) G h := E_iret (by rfl) rfl
theorem e149_0 : zE 149 d Q 0 [l0, some (zI x), l2, l3, l4, l5, l6, l7] st G h k ↔ zE 149 d Q 1 [l0, some (zI x), l2, l3, l4, l5, l6, l7] (zI x :: st) G h k := E_iload_n (by rfl) rfl
theorem e149_1 : zE 149 d Q 1 [l0, l1, l2, l3, l4, l5, l6, l7] st G h k ↔ zE 149 d Q 2 [l0, l1, l2, l3, l4, l5, l6, l7] (zI (-1) :: st) G h k := E_iconst (by rfl)
theorem e149_2 : zE 149 d Q 2 [l0, l1, l2, l3, l4, l5, l6, l7] (zI y :: zI x :: st) G h k ↔ ((¬ x = y → zE 149 d Q 9 [l0, l1, l2, l3, l4, l5, l6, l7] st G h k) ∧ (¬ (¬ x = y) → zE 149 d Q 5 [l0, l1, l2, l3, l4, l5, l6, l7] st G h k)) := E_icmp_ne (by rfl)
theorem e149_5 : zE 149 d Q 5 [l0, l1, l2, l3, l4, l5, l6, l7] st G h k ↔ zE 149 d Q 6 [l0, l1, l2, l3, l4, l5, l6, l7] (zI 0 :: st) G h k := E_iconst (by rfl)
theorem e149_6 : zE 149 d Q 6 [l0, l1, l2, l3, l4, l5, l6, l7] st G h k ↔ zE 149 d Q 10 [l0, l1, l2, l3, l4, l5, l6, l7] st G h k := E_goto (by rfl)
theorem e149_9 : zE 149 d Q 9 [l0, some (zI x), l2, l3, l4, l5, l6, l7] st G h k ↔ zE 149 d Q 10 [l0, some (zI x), l2, l3, l4, l5, l6, l7] (zI x :: st) G h k := E_iload_n (by rfl) rfl
theorem e149_10 : zE 149 d Q 10 [l0, l1, l2, l3, l4, l5, l6, l7] (zI x :: st) G h k ↔ zE 149 d Q 12 [l0, l1, l2, (zclr l3), some (zI x), l5, l6, l7] st G h k := E_istore (by rfl) (by decide)
theorem e149_12 : zE 149 d Q 12 [some (.inr (.inr w9)), l1, l2, l3, l4, l5, l6, l7] st G h k ↔ zE 149 d Q 13 [some (.inr (.inr w9)), l1, l2, l3, l4, l5, l6, l7] (.inr (.inr w9) :: st) G h k := E_aload_n (by rfl) rfl
theorem e149_13 : zE 149 d Q 13 [l0, some (zI x), l2, l3, l4, l5, l6, l7] st G h k ↔ zE 149 d Q 14 [l0, some (zI x), l2, l3, l4, l5, l6, l7] (zI x :: st) G h k := E_iload_n (by rfl) rfl
theorem e149_14 : zE 149 d Q 14 [l0, l1, some (zI x), l3, l4, l5, l6, l7] st G h k ↔ zE 149 d Q 15 [l0, l1, some (zI x), l3, l4, l5, l6, l7] (zI x :: st) G h k := E_iload_n (by rfl) rfl
theorem e149_15 : zE 149 d Q 15 [l0, l1, l2, l3, some (zI x), l5, l6, l7] st G h k ↔ zE 149 d Q 17 [l0, l1, l2, l3, some (zI x), l5, l6, l7] (zI x :: st) G h k := E_iload (by rfl) rfl
theorem e149_17 : zE 149 d Q 17 [l0, l1, l2, some (zI x), l4, l5, l6, l7] st G h k ↔ zE 149 d Q 18 [l0, l1, l2, some (zI x), l4, l5, l6, l7] (zI x :: st) G h k := E_iload_n (by rfl) rfl
theorem e149_18 : zE 149 d Q 18 [l0, l1, l2, l3, l4, l5, l6, l7] (v3 :: v2 :: v1 :: v0 :: zR (some r) :: st) G h k ↔ (zsum st ≤ 8 ∧ G.2.1 r = 9 ∧ zRunD ztb zmt' d 148 [zR (some r), v0, v1, v2, v3] G h (fun v G' h' => zE 149 d Q 21 [l0, l1, l2, l3, l4, l5, l6, l7] (v.toList ++ st) G' h' k)) := E_invV2z (by rfl) (by decide) rfl
theorem e149_21 : zE 149 d Q 21 [l0, l1, l2, l3, l4, l5, l6, l7] (zI x :: st) G h k ↔ zE 149 d Q 23 [l0, l1, l2, l3, (zclr l4), some (zI x), l6, l7] st G h k := E_istore (by rfl) (by decide)
theorem e149_23 : zE 149 d Q 23 [l0, l1, l2, l3, l4, l5, l6, l7] st G h k ↔ zE 149 d Q 24 [l0, l1, l2, l3, l4, l5, l6, l7] (zI 0 :: st) G h k := E_iconst (by rfl)
theorem e149_24 : zE 149 d Q 24 [l0, l1, l2, l3, l4, l5, l6, l7] (zI x :: st) G h k ↔ zE 149 d Q 26 [l0, l1, l2, l3, l4, (zclr l5), some (zI x), l7] st G h k := E_istore (by rfl) (by decide)
theorem e149_26 : zE 149 d Q 26 [l0, l1, l2, l3, l4, l5, some (zI x), l7] st G h k ↔ zE 149 d Q 28 [l0, l1, l2, l3, l4, l5, some (zI x), l7] (zI x :: st) G h k := E_iload (by rfl) rfl
theorem e149_28 : zE 149 d Q 28 [some (.inr (.inr w9)), l1, l2, l3, l4, l5, l6, l7] st G h k ↔ zE 149 d Q 29 [some (.inr (.inr w9)), l1, l2, l3, l4, l5, l6, l7] (.inr (.inr w9) :: st) G h k := E_aload_n (by rfl) rfl
theorem e149_29 : zE 149 d Q 29 [l0, l1, l2, l3, l4, l5, l6, l7] (zR (some r) :: st) G h k ↔ (G.2.1 r = 9 ∧ zE 149 d Q 32 [l0, l1, l2, l3, l4, l5, l6, l7] (zR (G.2.2.2 r 3) :: st) G h k) := E_getR (by rfl) rfl
theorem e149_32 : zE 149 d Q 32 [l0, l1, l2, l3, l4, l5, l6, l7] (zR (some r) :: st) G h k ↔ (G.2.1 r = 8 ∧ zE 149 d Q 35 [l0, l1, l2, l3, l4, l5, l6, l7] (zI (h r 0) :: st) G h k) := E_getI (by rfl) (by decide)
theorem e149_35 : zE 149 d Q 35 [l0, l1, l2, l3, l4, l5, l6, l7] (zI y :: zI x :: st) G h k ↔ ((y ≤ x → zE 149 d Q 73 [l0, l1, l2, l3, l4, l5, l6, l7] st G h k) ∧ (¬ (y ≤ x) → zE 149 d Q 38 [l0, l1, l2, l3, l4, l5, l6, l7] st G h k)) := E_icmp_ge (by rfl)
theorem e149_38 : zE 149 d Q 38 [some (.inr (.inr w9)), l1, l2, l3, l4, l5, l6, l7] st G h k ↔ zE 149 d Q 39 [some (.inr (.inr w9)), l1, l2, l3, l4, l5, l6, l7] (.inr (.inr w9) :: st) G h k := E_aload_n (by rfl) rfl
theorem e149_39 : zE 149 d Q 39 [l0, some (zI x), l2, l3, l4, l5, l6, l7] st G h k ↔ zE 149 d Q 40 [l0, some (zI x), l2, l3, l4, l5, l6, l7] (zI x :: st) G h k := E_iload_n (by rfl) rfl
theorem e149_40 : zE 149 d Q 40 [l0, l1, some (zI x), l3, l4, l5, l6, l7] st G h k ↔ zE 149 d Q 41 [l0, l1, some (zI x), l3, l4, l5, l6, l7] (zI x :: st) G h k := E_iload_n (by rfl) rfl
theorem e149_41 : zE 149 d Q 41 [l0, l1, l2, l3, l4, l5, some (zI x), l7] st G h k ↔ zE 149 d Q 43 [l0, l1, l2, l3, l4, l5, some (zI x), l7] (zI x :: st) G h k := E_iload (by rfl) rfl
theorem e149_43 : zE 149 d Q 43 [l0, l1, l2, some (zI x), l4, l5, l6, l7] st G h k ↔ zE 149 d Q 44 [l0, l1, l2, some (zI x), l4, l5, l6, l7] (zI x :: st) G h k := E_iload_n (by rfl) rfl
theorem e149_44 : zE 149 d Q 44 [l0, l1, l2, l3, l4, l5, l6, l7] (v3 :: v2 :: v1 :: v0 :: zR (some r) :: st) G h k ↔ (zsum st ≤ 8 ∧ G.2.1 r = 9 ∧ zRunD ztb zmt' d 148 [zR (some r), v0, v1, v2, v3] G h (fun v G' h' => zE 149 d Q 47 [l0, l1, l2, l3, l4, l5, l6, l7] (v.toList ++ st) G' h' k)) := E_invV2z (by rfl) (by decide) rfl
theorem e149_47 : zE 149 d Q 47 [l0, l1, l2, l3, l4, l5, l6, l7] (zI x :: st) G h k ↔ zE 149 d Q 49 [l0, l1, l2, l3, l4, l5, (zclr l6), some (zI x)] st G h k := E_istore (by rfl) (by decide)
theorem e149_49 : zE 149 d Q 49 [l0, l1, l2, l3, l4, l5, l6, some (zI x)] st G h k ↔ zE 149 d Q 51 [l0, l1, l2, l3, l4, l5, l6, some (zI x)] (zI x :: st) G h k := E_iload (by rfl) rfl
theorem e149_51 : zE 149 d Q 51 [l0, l1, l2, l3, l4, some (zI x), l6, l7] st G h k ↔ zE 149 d Q 53 [l0, l1, l2, l3, l4, some (zI x), l6, l7] (zI x :: st) G h k := E_iload (by rfl) rfl
theorem e149_53 : zE 149 d Q 53 [l0, l1, l2, l3, l4, l5, l6, l7] (zI y :: zI x :: st) G h k ↔ ((y < x → zE 149 d Q 59 [l0, l1, l2, l3, l4, l5, l6, l7] st G h k) ∧ (¬ (y < x) → zE 149 d Q 56 [l0, l1, l2, l3, l4, l5, l6, l7] st G h k)) := E_icmp_gt (by rfl)
theorem e149_56 : zE 149 d Q 56 [l0, l1, l2, l3, l4, l5, l6, l7] st G h k ↔ zE 149 d Q 67 [l0, l1, l2, l3, l4, l5, l6, l7] st G h k := E_goto (by rfl)
theorem e149_59 : zE 149 d Q 59 [l0, l1, l2, l3, l4, l5, l6, some (zI x)] st G h k ↔ zE 149 d Q 61 [l0, l1, l2, l3, l4, l5, l6, some (zI x)] (zI x :: st) G h k := E_iload (by rfl) rfl
theorem e149_61 : zE 149 d Q 61 [l0, l1, l2, l3, l4, l5, l6, l7] (zI x :: st) G h k ↔ zE 149 d Q 63 [l0, l1, l2, l3, (zclr l4), some (zI x), l6, l7] st G h k := E_istore (by rfl) (by decide)
theorem e149_63 : zE 149 d Q 63 [l0, l1, l2, l3, l4, l5, some (zI x), l7] st G h k ↔ zE 149 d Q 65 [l0, l1, l2, l3, l4, l5, some (zI x), l7] (zI x :: st) G h k := E_iload (by rfl) rfl
theorem e149_65 : zE 149 d Q 65 [l0, l1, l2, l3, l4, l5, l6, l7] (zI x :: st) G h k ↔ zE 149 d Q 67 [l0, l1, l2, (zclr l3), some (zI x), l5, l6, l7] st G h k := E_istore (by rfl) (by decide)
theorem e149_67 : zE 149 d Q 67 [l0, l1, l2, l3, l4, l5, some (zI x), l7] st G h k ↔ zE 149 d Q 70 [l0, l1, l2, l3, l4, (zclr l5), some (zI (wr (x + 1))), l7] st G h k := E_iinc (by rfl) rfl
theorem e149_70 : zE 149 d Q 70 [l0, l1, l2, l3, l4, l5, l6, l7] st G h k ↔ zE 149 d Q 26 [l0, l1, l2, l3, l4, l5, l6, l7] st G h k := E_goto (by rfl)
theorem e149_73 : zE 149 d Q 73 [some (.inr (.inr w9)), l1, l2, l3, l4, l5, l6, l7] st G h k ↔ zE 149 d Q 74 [some (.inr (.inr w9)), l1, l2, l3, l4, l5, l6, l7] (.inr (.inr w9) :: st) G h k := E_aload_n (by rfl) rfl
theorem e149_74 : zE 149 d Q 74 [l0, some (zI x), l2, l3, l4, l5, l6, l7] st G h k ↔ zE 149 d Q 75 [l0, some (zI x), l2, l3, l4, l5, l6, l7] (zI x :: st) G h k := E_iload_n (by rfl) rfl
theorem e149_75 : zE 149 d Q 75 [l0, l1, some (zI x), l3, l4, l5, l6, l7] st G h k ↔ zE 149 d Q 76 [l0, l1, some (zI x), l3, l4, l5, l6, l7] (zI x :: st) G h k := E_iload_n (by rfl) rfl
theorem e149_76 : zE 149 d Q 76 [l0, l1, l2, l3, l4, l5, l6, l7] st G h k ↔ zE 149 d Q 78 [l0, l1, l2, l3, l4, l5, l6, l7] (zI (-2) :: st) G h k := E_bipush (by rfl)
theorem e149_78 : zE 149 d Q 78 [l0, l1, l2, some (zI x), l4, l5, l6, l7] st G h k ↔ zE 149 d Q 79 [l0, l1, l2, some (zI x), l4, l5, l6, l7] (zI x :: st) G h k := E_iload_n (by rfl) rfl
theorem e149_79 : zE 149 d Q 79 [l0, l1, l2, l3, l4, l5, l6, l7] (v3 :: v2 :: v1 :: v0 :: zR (some r) :: st) G h k ↔ (zsum st ≤ 8 ∧ G.2.1 r = 9 ∧ zRunD ztb zmt' d 148 [zR (some r), v0, v1, v2, v3] G h (fun v G' h' => zE 149 d Q 82 [l0, l1, l2, l3, l4, l5, l6, l7] (v.toList ++ st) G' h' k)) := E_invV2z (by rfl) (by decide) rfl
theorem e149_82 : zE 149 d Q 82 [l0, l1, l2, l3, l4, some (zI x), l6, l7] st G h k ↔ zE 149 d Q 84 [l0, l1, l2, l3, l4, some (zI x), l6, l7] (zI x :: st) G h k := E_iload (by rfl) rfl
theorem e149_84 : zE 149 d Q 84 [l0, l1, l2, l3, l4, l5, l6, l7] (zI y :: zI x :: st) G h k ↔ ((x ≤ y → zE 149 d Q 92 [l0, l1, l2, l3, l4, l5, l6, l7] st G h k) ∧ (¬ (x ≤ y) → zE 149 d Q 87 [l0, l1, l2, l3, l4, l5, l6, l7] st G h k)) := E_icmp_le (by rfl)
theorem e149_87 : zE 149 d Q 87 [l0, l1, l2, l3, l4, l5, l6, l7] st G h k ↔ zE 149 d Q 89 [l0, l1, l2, l3, l4, l5, l6, l7] (zI (-2) :: st) G h k := E_bipush (by rfl)
theorem e149_89 : zE 149 d Q 89 [l0, l1, l2, l3, l4, l5, l6, l7] st G h k ↔ zE 149 d Q 94 [l0, l1, l2, l3, l4, l5, l6, l7] st G h k := E_goto (by rfl)
theorem e149_92 : zE 149 d Q 92 [l0, l1, l2, l3, some (zI x), l5, l6, l7] st G h k ↔ zE 149 d Q 94 [l0, l1, l2, l3, some (zI x), l5, l6, l7] (zI x :: st) G h k := E_iload (by rfl) rfl
theorem e149_94 : zE 149 d Q 94 [l0, l1, l2, l3, l4, l5, l6, l7] [zI x] G h k ↔ Q (some (zI x)) G h := E_iret (by rfl) rfl
theorem e150_0 : zE 150 d Q 0 [l0, l1] st G h k ↔ zE 150 d Q 1 [l0, l1] (zI 3 :: st) G h k := E_iconst (by rfl)
theorem e150_1 : zE 150 d Q 1 [some (zI x), l1] st G h k ↔ zE 150 d Q 2 [some (zI x), l1] (zI x :: st) G h k := E_iload_n (by rfl) rfl
theorem e150_2 : zE 150 d Q 2 [l0, l1] (zI y :: zI x :: st) G h k ↔ zE 150 d Q 3 [l0, l1] (zI (wr (x * y)) :: st) G h k := E_imul (by rfl)
theorem e150_3 : zE 150 d Q 3 [l0, some (zI x)] st G h k ↔ zE 150 d Q 4 [l0, some (zI x)] (zI x :: st) G h k := E_iload_n (by rfl) rfl
theorem e150_4 : zE 150 d Q 4 [l0, l1] (zI y :: zI x :: st) G h k ↔ zE 150 d Q 5 [l0, l1] (zI (wr (x + y)) :: st) G h k := E_iadd (by rfl)
theorem e150_5 : zE 150 d Q 5 [l0, l1] [zI x] G h k ↔ Q (some (zI x)) G h := E_iret (by rfl) rfl
theorem e151_0 : zE 151 d Q 0 [l0, l1, l2, some (zI x), l4, l5, l6] st G h k ↔ zE 151 d Q 1 [l0, l1, l2, some (zI x), l4, l5, l6] (zI x :: st) G h k := E_iload_n (by rfl) rfl
theorem e151_1 : zE 151 d Q 1 [l0, l1, l2, l3, l4, l5, l6] (zI x :: st) G h k ↔ ((¬ x = 0 → zE 151 d Q 5 [l0, l1, l2, l3, l4, l5, l6] st G h k) ∧ (¬ (¬ x = 0) → zE 151 d Q 4 [l0, l1, l2, l3, l4, l5, l6] st G h k)) := E_if_ne (by rfl)
theorem e151_4 : zE 151 d Q 4 [l0, l1, l2, l3, l4, l5, l6] [] G h k ↔ Q none G h := E_vret (by rfl) rfl
theorem e151_5 : zE 151 d Q 5 [some (.inr (.inr w9)), l1, l2, l3, l4, l5, l6] st G h k ↔ zE 151 d Q 6 [some (.inr (.inr w9)), l1, l2, l3, l4, l5, l6] (.inr (.inr w9) :: st) G h k := E_aload_n (by rfl) rfl
theorem e151_6 : zE 151 d Q 6 [l0, some (zI x), l2, l3, l4, l5, l6] st G h k ↔ zE 151 d Q 7 [l0, some (zI x), l2, l3, l4, l5, l6] (zI x :: st) G h k := E_iload_n (by rfl) rfl
theorem e151_7 : zE 151 d Q 7 [l0, l1, some (zI x), l3, l4, l5, l6] st G h k ↔ zE 151 d Q 8 [l0, l1, some (zI x), l3, l4, l5, l6] (zI x :: st) G h k := E_iload_n (by rfl) rfl
theorem e151_8 : zE 151 d Q 8 [l0, l1, l2, l3, some (zI x), l5, l6] st G h k ↔ zE 151 d Q 10 [l0, l1, l2, l3, some (zI x), l5, l6] (zI x :: st) G h k := E_iload (by rfl) rfl
theorem e151_10 : zE 151 d Q 10 [l0, l1, l2, l3, l4, l5, l6] (v2 :: v1 :: v0 :: zR (some r) :: st) G h k ↔ (zsum st ≤ 8 ∧ G.2.1 r = 9 ∧ zRunD ztb zmt' d 149 [zR (some r), v0, v1, v2] G h (fun v G' h' => zE 151 d Q 13 [l0, l1, l2, l3, l4, l5, l6] (v.toList ++ st) G' h' k)) := E_invV2z (by rfl) (by decide) rfl
theorem e151_13 : zE 151 d Q 13 [l0, l1, l2, l3, l4, l5, l6] (zI x :: st) G h k ↔ zE 151 d Q 15 [l0, l1, l2, l3, (zclr l4), some (zI x), l6] st G h k := E_istore (by rfl) (by decide)
theorem e151_15 : zE 151 d Q 15 [l0, some (zI x), l2, l3, l4, l5, l6] st G h k ↔ zE 151 d Q 16 [l0, some (zI x), l2, l3, l4, l5, l6] (zI x :: st) G h k := E_iload_n (by rfl) rfl
theorem e151_16 : zE 151 d Q 16 [l0, l1, l2, l3, l4, l5, l6] st G h k ↔ zE 151 d Q 17 [l0, l1, l2, l3, l4, l5, l6] (zI (-1) :: st) G h k := E_iconst (by rfl)
theorem e151_17 : zE 151 d Q 17 [l0, l1, l2, l3, l4, l5, l6] (zI y :: zI x :: st) G h k ↔ ((x = y → zE 151 d Q 36 [l0, l1, l2, l3, l4, l5, l6] st G h k) ∧ (¬ (x = y) → zE 151 d Q 20 [l0, l1, l2, l3, l4, l5, l6] st G h k)) := E_icmp_eq (by rfl)
theorem e151_20 : zE 151 d Q 20 [l0, l1, l2, l3, l4, some (zI x), l6] st G h k ↔ zE 151 d Q 22 [l0, l1, l2, l3, l4, some (zI x), l6] (zI x :: st) G h k := E_iload (by rfl) rfl
theorem e151_22 : zE 151 d Q 22 [l0, some (zI x), l2, l3, l4, l5, l6] st G h k ↔ zE 151 d Q 23 [l0, some (zI x), l2, l3, l4, l5, l6] (zI x :: st) G h k := E_iload_n (by rfl) rfl
theorem e151_23 : zE 151 d Q 23 [l0, l1, l2, l3, l4, l5, l6] (zI y :: zI x :: st) G h k ↔ ((x = y → zE 151 d Q 36 [l0, l1, l2, l3, l4, l5, l6] st G h k) ∧ (¬ (x = y) → zE 151 d Q 26 [l0, l1, l2, l3, l4, l5, l6] st G h k)) := E_icmp_eq (by rfl)
theorem e151_26 : zE 151 d Q 26 [some (.inr (.inr w9)), l1, l2, l3, l4, l5, l6] st G h k ↔ zE 151 d Q 27 [some (.inr (.inr w9)), l1, l2, l3, l4, l5, l6] (.inr (.inr w9) :: st) G h k := E_aload_n (by rfl) rfl
theorem e151_27 : zE 151 d Q 27 [l0, l1, l2, l3, l4, l5, l6] (zR (some r) :: st) G h k ↔ (G.2.1 r = 9 ∧ zE 151 d Q 30 [l0, l1, l2, l3, l4, l5, l6] (zR (G.2.2.2 r 27) :: st) G h k) := E_getR (by rfl) rfl
theorem e151_30 : zE 151 d Q 30 [l0, l1, some (zI x), l3, l4, l5, l6] st G h k ↔ zE 151 d Q 31 [l0, l1, some (zI x), l3, l4, l5, l6] (zI x :: st) G h k := E_iload_n (by rfl) rfl
theorem e151_31 : zE 151 d Q 31 [l0, l1, l2, l3, l4, l5, l6] (zI x :: .inr (.inr w9) :: st) G h k ↔ zE 151 d Q 32 [l0, l1, l2, l3, l4, l5, l6] (zI x :: .inr (.inr w9) :: zI x :: .inr (.inr w9) :: st) G h k := E_dup2 (by rfl) rfl rfl
theorem e151_32 : zE 151 d Q 32 [l0, l1, l2, l3, l4, l5, l6] (zI i :: zR (some r) :: st) G h k ↔ (G.2.1 r = 10 ∧ (0 ≤ i ∧ i < G.2.2.1 r) ∧ zE 151 d Q 33 [l0, l1, l2, l3, l4, l5, l6] (zI (h r i.toNat) :: st) G h k) := E_iaload (by rfl)
theorem e151_33 : zE 151 d Q 33 [l0, l1, l2, some (zI x), l4, l5, l6] st G h k ↔ zE 151 d Q 34 [l0, l1, l2, some (zI x), l4, l5, l6] (zI x :: st) G h k := E_iload_n (by rfl) rfl
theorem e151_34 : zE 151 d Q 34 [l0, l1, l2, l3, l4, l5, l6] (zI y :: zI x :: st) G h k ↔ zE 151 d Q 35 [l0, l1, l2, l3, l4, l5, l6] (zI (wr (x + y)) :: st) G h k := E_iadd (by rfl)
theorem e151_35 : zE 151 d Q 35 [l0, l1, l2, l3, l4, l5, l6] (zI x :: zI i :: zR (some r) :: st) G h k ↔ (G.2.1 r = 10 ∧ (0 ≤ i ∧ i < G.2.2.1 r) ∧ zE 151 d Q 36 [l0, l1, l2, l3, l4, l5, l6] st G (zu h r i.toNat x) k) := E_iastore (by rfl)
theorem e151_36 : zE 151 d Q 36 [l0, l1, l2, l3, l4, some (zI x), l6] st G h k ↔ zE 151 d Q 38 [l0, l1, l2, l3, l4, some (zI x), l6] (zI x :: st) G h k := E_iload (by rfl) rfl
theorem e151_38 : zE 151 d Q 38 [l0, l1, l2, l3, l4, l5, l6] st G h k ↔ zE 151 d Q 40 [l0, l1, l2, l3, l4, l5, l6] (zI (-2) :: st) G h k := E_bipush (by rfl)
theorem e151_40 : zE 151 d Q 40 [l0, l1, l2, l3, l4, l5, l6] (zI y :: zI x :: st) G h k ↔ ((¬ x = y → zE 151 d Q 44 [l0, l1, l2, l3, l4, l5, l6] st G h k) ∧ (¬ (¬ x = y) → zE 151 d Q 43 [l0, l1, l2, l3, l4, l5, l6] st G h k)) := E_icmp_ne (by rfl)
theorem e151_43 : zE 151 d Q 43 [l0, l1, l2, l3, l4, l5, l6] [] G h k ↔ Q none G h := E_vret (by rfl) rfl
theorem e151_44 : zE 151 d Q 44 [l0, some (zI x), l2, l3, l4, l5, l6] st G h k ↔ zE 151 d Q 45 [l0, some (zI x), l2, l3, l4, l5, l6] (zI x :: st) G h k := E_iload_n (by rfl) rfl
theorem e151_45 : zE 151 d Q 45 [l0, l1, l2, l3, l4, some (zI x), l6] st G h k ↔ zE 151 d Q 47 [l0, l1, l2, l3, l4, some (zI x), l6] (zI x :: st) G h k := E_iload (by rfl) rfl
theorem e151_47 : zE 151 d Q 47 [l0, l1, l2, l3, l4, l5, l6] (zI y :: zI x :: st) G h k ↔ ((¬ x = y → zE 151 d Q 60 [l0, l1, l2, l3, l4, l5, l6] st G h k) ∧ (¬ (¬ x = y) → zE 151 d Q 50 [l0, l1, l2, l3, l4, l5, l6] st G h k)) := E_icmp_ne (by rfl)
theorem e151_50 : zE 151 d Q 50 [some (.inr (.inr w9)), l1, l2, l3, l4, l5, l6] st G h k ↔ zE 151 d Q 51 [some (.inr (.inr w9)), l1, l2, l3, l4, l5, l6] (.inr (.inr w9) :: st) G h k := E_aload_n (by rfl) rfl
theorem e151_51 : zE 151 d Q 51 [l0, l1, l2, l3, l4, l5, l6] (zR (some r) :: st) G h k ↔ (G.2.1 r = 9 ∧ zE 151 d Q 54 [l0, l1, l2, l3, l4, l5, l6] (zR (G.2.2.2 r 23) :: st) G h k) := E_getR (by rfl) rfl
theorem e151_54 : zE 151 d Q 54 [l0, l1, l2, l3, l4, some (zI x), l6] st G h k ↔ zE 151 d Q 56 [l0, l1, l2, l3, l4, some (zI x), l6] (zI x :: st) G h k := E_iload (by rfl) rfl
theorem e151_56 : zE 151 d Q 56 [l0, l1, l2, l3, l4, l5, l6] (zI i :: zR (some r) :: st) G h k ↔ (G.2.1 r = 10 ∧ (0 ≤ i ∧ i < G.2.2.1 r) ∧ zE 151 d Q 57 [l0, l1, l2, l3, l4, l5, l6] (zI (h r i.toNat) :: st) G h k) := E_iaload (by rfl)
theorem e151_57 : zE 151 d Q 57 [l0, l1, l2, l3, l4, l5, l6] st G h k ↔ zE 151 d Q 67 [l0, l1, l2, l3, l4, l5, l6] st G h k := E_goto (by rfl)
theorem e151_60 : zE 151 d Q 60 [some (.inr (.inr w9)), l1, l2, l3, l4, l5, l6] st G h k ↔ zE 151 d Q 61 [some (.inr (.inr w9)), l1, l2, l3, l4, l5, l6] (.inr (.inr w9) :: st) G h k := E_aload_n (by rfl) rfl
theorem e151_61 : zE 151 d Q 61 [l0, l1, l2, l3, l4, l5, l6] (zR (some r) :: st) G h k ↔ (G.2.1 r = 9 ∧ zE 151 d Q 64 [l0, l1, l2, l3, l4, l5, l6] (zR (G.2.2.2 r 24) :: st) G h k) := E_getR (by rfl) rfl
theorem e151_64 : zE 151 d Q 64 [l0, l1, l2, l3, l4, some (zI x), l6] st G h k ↔ zE 151 d Q 66 [l0, l1, l2, l3, l4, some (zI x), l6] (zI x :: st) G h k := E_iload (by rfl) rfl
theorem e151_66 : zE 151 d Q 66 [l0, l1, l2, l3, l4, l5, l6] (zI i :: zR (some r) :: st) G h k ↔ (G.2.1 r = 10 ∧ (0 ≤ i ∧ i < G.2.2.1 r) ∧ zE 151 d Q 67 [l0, l1, l2, l3, l4, l5, l6] (zI (h r i.toNat) :: st) G h k) := E_iaload (by rfl)
theorem e151_67 : zE 151 d Q 67 [l0, l1, l2, l3, l4, l5, l6] (zI x :: st) G h k ↔ zE 151 d Q 69 [l0, l1, l2, l3, l4, (zclr l5), some (zI x)] st G h k := E_istore (by rfl) (by decide)
theorem e151_69 : zE 151 d Q 69 [some (.inr (.inr w9)), l1, l2, l3, l4, l5, l6] st G h k ↔ zE 151 d Q 70 [some (.inr (.inr w9)), l1, l2, l3, l4, l5, l6] (.inr (.inr w9) :: st) G h k := E_aload_n (by rfl) rfl
theorem e151_70 : zE 151 d Q 70 [l0, l1, l2, l3, l4, l5, l6] (zR (some r) :: st) G h k ↔ (G.2.1 r = 9 ∧ zE 151 d Q 73 [l0, l1, l2, l3, l4, l5, l6] (zR (G.2.2.2 r 26) :: st) G h k) := E_getR (by rfl) rfl
theorem e151_73 : zE 151 d Q 73 [l0, l1, some (zI x), l3, l4, l5, l6] st G h k ↔ zE 151 d Q 74 [l0, l1, some (zI x), l3, l4, l5, l6] (zI x :: st) G h k := E_iload_n (by rfl) rfl
theorem e151_74 : zE 151 d Q 74 [l0, l1, l2, l3, l4, l5, l6] (zI x :: .inr (.inr w9) :: st) G h k ↔ zE 151 d Q 75 [l0, l1, l2, l3, l4, l5, l6] (zI x :: .inr (.inr w9) :: zI x :: .inr (.inr w9) :: st) G h k := E_dup2 (by rfl) rfl rfl
theorem e151_75 : zE 151 d Q 75 [l0, l1, l2, l3, l4, l5, l6] (zI i :: zR (some r) :: st) G h k ↔ (G.2.1 r = 10 ∧ (0 ≤ i ∧ i < G.2.2.1 r) ∧ zE 151 d Q 76 [l0, l1, l2, l3, l4, l5, l6] (zI (h r i.toNat) :: st) G h k) := E_iaload (by rfl)
theorem e151_76 : zE 151 d Q 76 [l0, l1, l2, some (zI x), l4, l5, l6] st G h k ↔ zE 151 d Q 77 [l0, l1, l2, some (zI x), l4, l5, l6] (zI x :: st) G h k := E_iload_n (by rfl) rfl
theorem e151_77 : zE 151 d Q 77 [l0, l1, l2, l3, l4, l5, some (zI x)] st G h k ↔ zE 151 d Q 79 [l0, l1, l2, l3, l4, l5, some (zI x)] (zI x :: st) G h k := E_iload (by rfl) rfl
theorem e151_79 : zE 151 d Q 79 [l0, l1, l2, l3, l4, l5, l6] (zI y :: zI x :: st) G h k ↔ zE 151 d Q 80 [l0, l1, l2, l3, l4, l5, l6] (zI (wr (x * y)) :: st) G h k := E_imul (by rfl)
theorem e151_80 : zE 151 d Q 80 [l0, l1, l2, l3, l4, l5, l6] (zI y :: zI x :: st) G h k ↔ zE 151 d Q 81 [l0, l1, l2, l3, l4, l5, l6] (zI (wr (x + y)) :: st) G h k := E_iadd (by rfl)
theorem e151_81 : zE 151 d Q 81 [l0, l1, l2, l3, l4, l5, l6] (zI x :: zI i :: zR (some r) :: st) G h k ↔ (G.2.1 r = 10 ∧ (0 ≤ i ∧ i < G.2.2.1 r) ∧ zE 151 d Q 82 [l0, l1, l2, l3, l4, l5, l6] st G (zu h r i.toNat x) k) := E_iastore (by rfl)
theorem e151_82 : zE 151 d Q 82 [some (.inr (.inr w9)), l1, l2, l3, l4, l5, l6] st G h k ↔ zE 151 d Q 83 [some (.inr (.inr w9)), l1, l2, l3, l4, l5, l6] (.inr (.inr w9) :: st) G h k := E_aload_n (by rfl) rfl
theorem e151_83 : zE 151 d Q 83 [l0, l1, l2, l3, l4, l5, l6] (zR (some r) :: st) G h k ↔ (G.2.1 r = 9 ∧ zE 151 d Q 86 [l0, l1, l2, l3, l4, l5, l6] (zR (G.2.2.2 r 25) :: st) G h k) := E_getR (by rfl) rfl
theorem e151_86 : zE 151 d Q 86 [l0, l1, l2, l3, l4, some (zI x), l6] st G h k ↔ zE 151 d Q 88 [l0, l1, l2, l3, l4, some (zI x), l6] (zI x :: st) G h k := E_iload (by rfl) rfl
theorem e151_88 : zE 151 d Q 88 [l0, l1, l2, l3, l4, l5, l6] (zI x :: .inr (.inr w9) :: st) G h k ↔ zE 151 d Q 89 [l0, l1, l2, l3, l4, l5, l6] (zI x :: .inr (.inr w9) :: zI x :: .inr (.inr w9) :: st) G h k := E_dup2 (by rfl) rfl rfl
theorem e151_89 : zE 151 d Q 89 [l0, l1, l2, l3, l4, l5, l6] (zI i :: zR (some r) :: st) G h k ↔ (G.2.1 r = 10 ∧ (0 ≤ i ∧ i < G.2.2.1 r) ∧ zE 151 d Q 90 [l0, l1, l2, l3, l4, l5, l6] (zI (h r i.toNat) :: st) G h k) := E_iaload (by rfl)
theorem e151_90 : zE 151 d Q 90 [l0, l1, l2, some (zI x), l4, l5, l6] st G h k ↔ zE 151 d Q 91 [l0, l1, l2, some (zI x), l4, l5, l6] (zI x :: st) G h k := E_iload_n (by rfl) rfl
theorem e151_91 : zE 151 d Q 91 [l0, l1, l2, l3, l4, l5, some (zI x)] st G h k ↔ zE 151 d Q 93 [l0, l1, l2, l3, l4, l5, some (zI x)] (zI x :: st) G h k := E_iload (by rfl) rfl
theorem e151_93 : zE 151 d Q 93 [some (.inr (.inr w9)), l1, l2, l3, l4, l5, l6] st G h k ↔ zE 151 d Q 94 [some (.inr (.inr w9)), l1, l2, l3, l4, l5, l6] (.inr (.inr w9) :: st) G h k := E_aload_n (by rfl) rfl
theorem e151_94 : zE 151 d Q 94 [l0, l1, l2, l3, l4, l5, l6] (zR (some r) :: st) G h k ↔ (G.2.1 r = 9 ∧ zE 151 d Q 97 [l0, l1, l2, l3, l4, l5, l6] (zR (G.2.2.2 r 3) :: st) G h k) := E_getR (by rfl) rfl
theorem e151_97 : zE 151 d Q 97 [l0, l1, l2, l3, l4, l5, l6] (zR (some r) :: st) G h k ↔ (G.2.1 r = 8 ∧ zE 151 d Q 100 [l0, l1, l2, l3, l4, l5, l6] (zR (G.2.2.2 r 6) :: st) G h k) := E_getR (by rfl) rfl
theorem e151_100 : zE 151 d Q 100 [l0, l1, l2, l3, l4, some (zI x), l6] st G h k ↔ zE 151 d Q 102 [l0, l1, l2, l3, l4, some (zI x), l6] (zI x :: st) G h k := E_iload (by rfl) rfl
theorem e151_102 : zE 151 d Q 102 [l0, l1, l2, l3, l4, l5, l6] (zI i :: zR (some r) :: st) G h k ↔ (G.2.1 r = 10 ∧ (0 ≤ i ∧ i < G.2.2.1 r) ∧ zE 151 d Q 103 [l0, l1, l2, l3, l4, l5, l6] (zI (h r i.toNat) :: st) G h k) := E_iaload (by rfl)
theorem e151_103 : zE 151 d Q 103 [l0, l1, l2, l3, l4, l5, l6] (zI y :: zI x :: st) G h k ↔ zE 151 d Q 104 [l0, l1, l2, l3, l4, l5, l6] (zI (wr (x - y)) :: st) G h k := E_isub (by rfl)
theorem e151_104 : zE 151 d Q 104 [l0, l1, l2, l3, l4, l5, l6] (zI y :: zI x :: st) G h k ↔ zE 151 d Q 105 [l0, l1, l2, l3, l4, l5, l6] (zI (wr (x * y)) :: st) G h k := E_imul (by rfl)
theorem e151_105 : zE 151 d Q 105 [l0, l1, l2, l3, l4, l5, l6] (zI y :: zI x :: st) G h k ↔ zE 151 d Q 106 [l0, l1, l2, l3, l4, l5, l6] (zI (wr (x + y)) :: st) G h k := E_iadd (by rfl)
theorem e151_106 : zE 151 d Q 106 [l0, l1, l2, l3, l4, l5, l6] (zI x :: zI i :: zR (some r) :: st) G h k ↔ (G.2.1 r = 10 ∧ (0 ≤ i ∧ i < G.2.2.1 r) ∧ zE 151 d Q 107 [l0, l1, l2, l3, l4, l5, l6] st G (zu h r i.toNat x) k) := E_iastore (by rfl)
theorem e151_107 : zE 151 d Q 107 [some (.inr (.inr w9)), l1, l2, l3, l4, l5, l6] st G h k ↔ zE 151 d Q 108 [some (.inr (.inr w9)), l1, l2, l3, l4, l5, l6] (.inr (.inr w9) :: st) G h k := E_aload_n (by rfl) rfl
theorem e151_108 : zE 151 d Q 108 [l0, l1, l2, l3, l4, l5, l6] (zR (some r) :: st) G h k ↔ (G.2.1 r = 9 ∧ zE 151 d Q 111 [l0, l1, l2, l3, l4, l5, l6] (zR (G.2.2.2 r 28) :: st) G h k) := E_getR (by rfl) rfl
theorem e151_111 : zE 151 d Q 111 [l0, l1, some (zI x), l3, l4, l5, l6] st G h k ↔ zE 151 d Q 112 [l0, l1, some (zI x), l3, l4, l5, l6] (zI x :: st) G h k := E_iload_n (by rfl) rfl
theorem e151_112 : zE 151 d Q 112 [l0, l1, l2, l3, l4, some (zI x), l6] st G h k ↔ zE 151 d Q 114 [l0, l1, l2, l3, l4, some (zI x), l6] (zI x :: st) G h k := E_iload (by rfl) rfl
theorem e151_114 : zE 151 d Q 114 [l0, l1, l2, l3, l4, l5, l6] (v1 :: v0 :: st) G h k ↔ (zsum st ≤ 8 ∧ zRunD ztb zmt' d 150 [v0, v1] G h (fun v G' h' => zE 151 d Q 117 [l0, l1, l2, l3, l4, l5, l6] (v.toList ++ st) G' h' k)) := E_invS2z (by rfl) (by decide) rfl
theorem e151_117 : zE 151 d Q 117 [l0, l1, l2, l3, l4, l5, l6] (zI x :: .inr (.inr w9) :: st) G h k ↔ zE 151 d Q 118 [l0, l1, l2, l3, l4, l5, l6] (zI x :: .inr (.inr w9) :: zI x :: .inr (.inr w9) :: st) G h k := E_dup2 (by rfl) rfl rfl
theorem e151_118 : zE 151 d Q 118 [l0, l1, l2, l3, l4, l5, l6] (zI i :: zR (some r) :: st) G h k ↔ (G.2.1 r = 10 ∧ (0 ≤ i ∧ i < G.2.2.1 r) ∧ zE 151 d Q 119 [l0, l1, l2, l3, l4, l5, l6] (zI (h r i.toNat) :: st) G h k) := E_iaload (by rfl)
theorem e151_119 : zE 151 d Q 119 [l0, l1, l2, some (zI x), l4, l5, l6] st G h k ↔ zE 151 d Q 120 [l0, l1, l2, some (zI x), l4, l5, l6] (zI x :: st) G h k := E_iload_n (by rfl) rfl
theorem e151_120 : zE 151 d Q 120 [l0, l1, l2, l3, l4, l5, l6] (zI y :: zI x :: st) G h k ↔ zE 151 d Q 121 [l0, l1, l2, l3, l4, l5, l6] (zI (wr (x + y)) :: st) G h k := E_iadd (by rfl)
theorem e151_121 : zE 151 d Q 121 [l0, l1, l2, l3, l4, l5, l6] (zI x :: zI i :: zR (some r) :: st) G h k ↔ (G.2.1 r = 10 ∧ (0 ≤ i ∧ i < G.2.2.1 r) ∧ zE 151 d Q 122 [l0, l1, l2, l3, l4, l5, l6] st G (zu h r i.toNat x) k) := E_iastore (by rfl)
theorem e151_122 : zE 151 d Q 122 [l0, l1, l2, l3, l4, l5, l6] [] G h k ↔ Q none G h := E_vret (by rfl) rfl
theorem e152_0 : zE 152 d Q 0 [l0, l1, l2, l3, l4, l5, l6] st G h k ↔ zE 152 d Q 1 [l0, l1, l2, l3, l4, l5, l6] (zI 0 :: st) G h k := E_iconst (by rfl)
theorem e152_1 : zE 152 d Q 1 [l0, l1, l2, l3, l4, l5, l6] (zI x :: st) G h k ↔ zE 152 d Q 3 [l0, l1, l2, (zclr l3), some (zI x), l5, l6] st G h k := E_istore (by rfl) (by decide)
theorem e152_3 : zE 152 d Q 3 [l0, l1, l2, l3, some (zI x), l5, l6] st G h k ↔ zE 152 d Q 5 [l0, l1, l2, l3, some (zI x), l5, l6] (zI x :: st) G h k := E_iload (by rfl) rfl
theorem e152_5 : zE 152 d Q 5 [l0, l1, l2, l3, l4, l5, l6] st G h k ↔ zE 152 d Q 6 [l0, l1, l2, l3, l4, l5, l6] (zI 3 :: st) G h k := E_iconst (by rfl)
theorem e152_6 : zE 152 d Q 6 [l0, l1, l2, l3, l4, l5, l6] (zI y :: zI x :: st) G h k ↔ ((y ≤ x → zE 152 d Q 23 [l0, l1, l2, l3, l4, l5, l6] st G h k) ∧ (¬ (y ≤ x) → zE 152 d Q 9 [l0, l1, l2, l3, l4, l5, l6] st G h k)) := E_icmp_ge (by rfl)
theorem e152_9 : zE 152 d Q 9 [some (.inr (.inr w9)), l1, l2, l3, l4, l5, l6] st G h k ↔ zE 152 d Q 10 [some (.inr (.inr w9)), l1, l2, l3, l4, l5, l6] (.inr (.inr w9) :: st) G h k := E_aload_n (by rfl) rfl
theorem e152_10 : zE 152 d Q 10 [l0, l1, l2, l3, l4, l5, l6] (zR (some r) :: st) G h k ↔ (G.2.1 r = 9 ∧ zE 152 d Q 13 [l0, l1, l2, l3, l4, l5, l6] (zR (G.2.2.2 r 25) :: st) G h k) := E_getR (by rfl) rfl
theorem e152_13 : zE 152 d Q 13 [l0, l1, l2, l3, some (zI x), l5, l6] st G h k ↔ zE 152 d Q 15 [l0, l1, l2, l3, some (zI x), l5, l6] (zI x :: st) G h k := E_iload (by rfl) rfl
theorem e152_15 : zE 152 d Q 15 [l0, l1, l2, l3, l4, l5, l6] st G h k ↔ zE 152 d Q 16 [l0, l1, l2, l3, l4, l5, l6] (zI 0 :: st) G h k := E_iconst (by rfl)
theorem e152_16 : zE 152 d Q 16 [l0, l1, l2, l3, l4, l5, l6] (zI x :: zI i :: zR (some r) :: st) G h k ↔ (G.2.1 r = 10 ∧ (0 ≤ i ∧ i < G.2.2.1 r) ∧ zE 152 d Q 17 [l0, l1, l2, l3, l4, l5, l6] st G (zu h r i.toNat x) k) := E_iastore (by rfl)
theorem e152_17 : zE 152 d Q 17 [l0, l1, l2, l3, some (zI x), l5, l6] st G h k ↔ zE 152 d Q 20 [l0, l1, l2, (zclr l3), some (zI (wr (x + 1))), l5, l6] st G h k := E_iinc (by rfl) rfl
theorem e152_20 : zE 152 d Q 20 [l0, l1, l2, l3, l4, l5, l6] st G h k ↔ zE 152 d Q 3 [l0, l1, l2, l3, l4, l5, l6] st G h k := E_goto (by rfl)
theorem e152_23 : zE 152 d Q 23 [l0, l1, l2, l3, l4, l5, l6] st G h k ↔ zE 152 d Q 24 [l0, l1, l2, l3, l4, l5, l6] (zI 0 :: st) G h k := E_iconst (by rfl)
theorem e152_24 : zE 152 d Q 24 [l0, l1, l2, l3, l4, l5, l6] (zI x :: st) G h k ↔ zE 152 d Q 26 [l0, l1, l2, (zclr l3), some (zI x), l5, l6] st G h k := E_istore (by rfl) (by decide)
theorem e152_26 : zE 152 d Q 26 [l0, l1, l2, l3, some (zI x), l5, l6] st G h k ↔ zE 152 d Q 28 [l0, l1, l2, l3, some (zI x), l5, l6] (zI x :: st) G h k := E_iload (by rfl) rfl
theorem e152_28 : zE 152 d Q 28 [l0, l1, l2, l3, l4, l5, l6] st G h k ↔ zE 152 d Q 30 [l0, l1, l2, l3, l4, l5, l6] (zI 12 :: st) G h k := E_bipush (by rfl)
theorem e152_30 : zE 152 d Q 30 [l0, l1, l2, l3, l4, l5, l6] (zI y :: zI x :: st) G h k ↔ ((y ≤ x → zE 152 d Q 47 [l0, l1, l2, l3, l4, l5, l6] st G h k) ∧ (¬ (y ≤ x) → zE 152 d Q 33 [l0, l1, l2, l3, l4, l5, l6] st G h k)) := E_icmp_ge (by rfl)
theorem e152_33 : zE 152 d Q 33 [some (.inr (.inr w9)), l1, l2, l3, l4, l5, l6] st G h k ↔ zE 152 d Q 34 [some (.inr (.inr w9)), l1, l2, l3, l4, l5, l6] (.inr (.inr w9) :: st) G h k := E_aload_n (by rfl) rfl
theorem e152_34 : zE 152 d Q 34 [l0, l1, l2, l3, l4, l5, l6] (zR (some r) :: st) G h k ↔ (G.2.1 r = 9 ∧ zE 152 d Q 37 [l0, l1, l2, l3, l4, l5, l6] (zR (G.2.2.2 r 28) :: st) G h k) := E_getR (by rfl) rfl
theorem e152_37 : zE 152 d Q 37 [l0, l1, l2, l3, some (zI x), l5, l6] st G h k ↔ zE 152 d Q 39 [l0, l1, l2, l3, some (zI x), l5, l6] (zI x :: st) G h k := E_iload (by rfl) rfl
theorem e152_39 : zE 152 d Q 39 [l0, l1, l2, l3, l4, l5, l6] st G h k ↔ zE 152 d Q 40 [l0, l1, l2, l3, l4, l5, l6] (zI 0 :: st) G h k := E_iconst (by rfl)
theorem e152_40 : zE 152 d Q 40 [l0, l1, l2, l3, l4, l5, l6] (zI x :: zI i :: zR (some r) :: st) G h k ↔ (G.2.1 r = 10 ∧ (0 ≤ i ∧ i < G.2.2.1 r) ∧ zE 152 d Q 41 [l0, l1, l2, l3, l4, l5, l6] st G (zu h r i.toNat x) k) := E_iastore (by rfl)
theorem e152_41 : zE 152 d Q 41 [l0, l1, l2, l3, some (zI x), l5, l6] st G h k ↔ zE 152 d Q 44 [l0, l1, l2, (zclr l3), some (zI (wr (x + 1))), l5, l6] st G h k := E_iinc (by rfl) rfl
theorem e152_44 : zE 152 d Q 44 [l0, l1, l2, l3, l4, l5, l6] st G h k ↔ zE 152 d Q 26 [l0, l1, l2, l3, l4, l5, l6] st G h k := E_goto (by rfl)
theorem e152_47 : zE 152 d Q 47 [l0, l1, l2, l3, l4, l5, l6] st G h k ↔ zE 152 d Q 48 [l0, l1, l2, l3, l4, l5, l6] (zI 0 :: st) G h k := E_iconst (by rfl)
theorem e152_48 : zE 152 d Q 48 [l0, l1, l2, l3, l4, l5, l6] (zI x :: st) G h k ↔ zE 152 d Q 50 [l0, l1, l2, (zclr l3), some (zI x), l5, l6] st G h k := E_istore (by rfl) (by decide)
theorem e152_50 : zE 152 d Q 50 [l0, l1, l2, l3, some (zI x), l5, l6] st G h k ↔ zE 152 d Q 52 [l0, l1, l2, l3, some (zI x), l5, l6] (zI x :: st) G h k := E_iload (by rfl) rfl
theorem e152_52 : zE 152 d Q 52 [some (.inr (.inr w9)), l1, l2, l3, l4, l5, l6] st G h k ↔ zE 152 d Q 53 [some (.inr (.inr w9)), l1, l2, l3, l4, l5, l6] (.inr (.inr w9) :: st) G h k := E_aload_n (by rfl) rfl
theorem e152_53 : zE 152 d Q 53 [l0, l1, l2, l3, l4, l5, l6] (zR (some r) :: st) G h k ↔ (G.2.1 r = 9 ∧ zE 152 d Q 56 [l0, l1, l2, l3, l4, l5, l6] (zR (G.2.2.2 r 3) :: st) G h k) := E_getR (by rfl) rfl
theorem e152_56 : zE 152 d Q 56 [l0, l1, l2, l3, l4, l5, l6] (zR (some r) :: st) G h k ↔ (G.2.1 r = 8 ∧ zE 152 d Q 59 [l0, l1, l2, l3, l4, l5, l6] (zI (h r 1) :: st) G h k) := E_getI (by rfl) (by decide)
theorem e152_59 : zE 152 d Q 59 [l0, l1, l2, l3, l4, l5, l6] (zI y :: zI x :: st) G h k ↔ ((y ≤ x → zE 152 d Q 222 [l0, l1, l2, l3, l4, l5, l6] st G h k) ∧ (¬ (y ≤ x) → zE 152 d Q 62 [l0, l1, l2, l3, l4, l5, l6] st G h k)) := E_icmp_ge (by rfl)
theorem e152_62 : zE 152 d Q 62 [some (.inr (.inr w9)), l1, l2, l3, l4, l5, l6] st G h k ↔ zE 152 d Q 63 [some (.inr (.inr w9)), l1, l2, l3, l4, l5, l6] (.inr (.inr w9) :: st) G h k := E_aload_n (by rfl) rfl
theorem e152_63 : zE 152 d Q 63 [l0, l1, l2, l3, l4, l5, l6] (zR (some r) :: st) G h k ↔ (G.2.1 r = 9 ∧ zE 152 d Q 66 [l0, l1, l2, l3, l4, l5, l6] (zR (G.2.2.2 r 26) :: st) G h k) := E_getR (by rfl) rfl
theorem e152_66 : zE 152 d Q 66 [l0, l1, l2, l3, some (zI x), l5, l6] st G h k ↔ zE 152 d Q 68 [l0, l1, l2, l3, some (zI x), l5, l6] (zI x :: st) G h k := E_iload (by rfl) rfl
theorem e152_68 : zE 152 d Q 68 [l0, l1, l2, l3, l4, l5, l6] st G h k ↔ zE 152 d Q 69 [l0, l1, l2, l3, l4, l5, l6] (zI 0 :: st) G h k := E_iconst (by rfl)
theorem e152_69 : zE 152 d Q 69 [l0, l1, l2, l3, l4, l5, l6] (zI x :: zI i :: zR (some r) :: st) G h k ↔ (G.2.1 r = 10 ∧ (0 ≤ i ∧ i < G.2.2.1 r) ∧ zE 152 d Q 70 [l0, l1, l2, l3, l4, l5, l6] st G (zu h r i.toNat x) k) := E_iastore (by rfl)
theorem e152_70 : zE 152 d Q 70 [some (.inr (.inr w9)), l1, l2, l3, l4, l5, l6] st G h k ↔ zE 152 d Q 71 [some (.inr (.inr w9)), l1, l2, l3, l4, l5, l6] (.inr (.inr w9) :: st) G h k := E_aload_n (by rfl) rfl
theorem e152_71 : zE 152 d Q 71 [l0, l1, l2, l3, l4, l5, l6] (zR (some r) :: st) G h k ↔ (G.2.1 r = 9 ∧ zE 152 d Q 74 [l0, l1, l2, l3, l4, l5, l6] (zR (G.2.2.2 r 27) :: st) G h k) := E_getR (by rfl) rfl
theorem e152_74 : zE 152 d Q 74 [l0, l1, l2, l3, some (zI x), l5, l6] st G h k ↔ zE 152 d Q 76 [l0, l1, l2, l3, some (zI x), l5, l6] (zI x :: st) G h k := E_iload (by rfl) rfl
theorem e152_76 : zE 152 d Q 76 [l0, l1, l2, l3, l4, l5, l6] st G h k ↔ zE 152 d Q 77 [l0, l1, l2, l3, l4, l5, l6] (zI 0 :: st) G h k := E_iconst (by rfl)
theorem e152_77 : zE 152 d Q 77 [l0, l1, l2, l3, l4, l5, l6] (zI x :: zI i :: zR (some r) :: st) G h k ↔ (G.2.1 r = 10 ∧ (0 ≤ i ∧ i < G.2.2.1 r) ∧ zE 152 d Q 78 [l0, l1, l2, l3, l4, l5, l6] st G (zu h r i.toNat x) k) := E_iastore (by rfl)
theorem e152_78 : zE 152 d Q 78 [some (.inr (.inr w9)), l1, l2, l3, l4, l5, l6] st G h k ↔ zE 152 d Q 79 [some (.inr (.inr w9)), l1, l2, l3, l4, l5, l6] (.inr (.inr w9) :: st) G h k := E_aload_n (by rfl) rfl
theorem e152_79 : zE 152 d Q 79 [l0, l1, l2, l3, l4, l5, l6] (zR (some r) :: st) G h k ↔ (G.2.1 r = 9 ∧ zE 152 d Q 82 [l0, l1, l2, l3, l4, l5, l6] (zI (h r 19) :: st) G h k) := E_getI (by rfl) (by decide)
theorem e152_82 : zE 152 d Q 82 [l0, l1, l2, l3, l4, l5, l6] st G h k ↔ zE 152 d Q 83 [l0, l1, l2, l3, l4, l5, l6] (zI (-1) :: st) G h k := E_iconst (by rfl)
theorem e152_83 : zE 152 d Q 83 [l0, l1, l2, l3, l4, l5, l6] (zI y :: zI x :: st) G h k ↔ ((¬ x = y → zE 152 d Q 99 [l0, l1, l2, l3, l4, l5, l6] st G h k) ∧ (¬ (¬ x = y) → zE 152 d Q 86 [l0, l1, l2, l3, l4, l5, l6] st G h k)) := E_icmp_ne (by rfl)
theorem e152_86 : zE 152 d Q 86 [some (.inr (.inr w9)), l1, l2, l3, l4, l5, l6] st G h k ↔ zE 152 d Q 87 [some (.inr (.inr w9)), l1, l2, l3, l4, l5, l6] (.inr (.inr w9) :: st) G h k := E_aload_n (by rfl) rfl
theorem e152_87 : zE 152 d Q 87 [l0, l1, l2, l3, some (zI x), l5, l6] st G h k ↔ zE 152 d Q 89 [l0, l1, l2, l3, some (zI x), l5, l6] (zI x :: st) G h k := E_iload (by rfl) rfl
theorem e152_89 : zE 152 d Q 89 [l0, l1, l2, l3, l4, l5, l6] (v0 :: zR (some r) :: st) G h k ↔ (zsum st ≤ 8 ∧ G.2.1 r = 9 ∧ zRunD ztb zmt' d 144 [zR (some r), v0] G h (fun v G' h' => zE 152 d Q 92 [l0, l1, l2, l3, l4, l5, l6] (v.toList ++ st) G' h' k)) := E_invV2z (by rfl) (by decide) rfl
theorem e152_92 : zE 152 d Q 92 [l0, l1, l2, l3, l4, l5, l6] (zI x :: st) G h k ↔ ((x = 0 → zE 152 d Q 99 [l0, l1, l2, l3, l4, l5, l6] st G h k) ∧ (¬ (x = 0) → zE 152 d Q 95 [l0, l1, l2, l3, l4, l5, l6] st G h k)) := E_if_eq (by rfl)
theorem e152_95 : zE 152 d Q 95 [l0, l1, l2, l3, l4, l5, l6] st G h k ↔ zE 152 d Q 96 [l0, l1, l2, l3, l4, l5, l6] (zI 1 :: st) G h k := E_iconst (by rfl)
theorem e152_96 : zE 152 d Q 96 [l0, l1, l2, l3, l4, l5, l6] st G h k ↔ zE 152 d Q 100 [l0, l1, l2, l3, l4, l5, l6] st G h k := E_goto (by rfl)
theorem e152_99 : zE 152 d Q 99 [l0, l1, l2, l3, l4, l5, l6] st G h k ↔ zE 152 d Q 100 [l0, l1, l2, l3, l4, l5, l6] (zI 0 :: st) G h k := E_iconst (by rfl)
theorem e152_100 : zE 152 d Q 100 [l0, l1, l2, l3, l4, l5, l6] (zI x :: st) G h k ↔ zE 152 d Q 102 [l0, l1, l2, l3, (zclr l4), some (zI x), l6] st G h k := E_istore (by rfl) (by decide)
theorem e152_102 : zE 152 d Q 102 [l0, l1, l2, l3, l4, l5, l6] st G h k ↔ zE 152 d Q 103 [l0, l1, l2, l3, l4, l5, l6] (zI 0 :: st) G h k := E_iconst (by rfl)
theorem e152_103 : zE 152 d Q 103 [l0, l1, l2, l3, l4, l5, l6] (zI x :: st) G h k ↔ zE 152 d Q 105 [l0, l1, l2, l3, l4, (zclr l5), some (zI x)] st G h k := E_istore (by rfl) (by decide)
theorem e152_105 : zE 152 d Q 105 [l0, l1, l2, l3, l4, l5, some (zI x)] st G h k ↔ zE 152 d Q 107 [l0, l1, l2, l3, l4, l5, some (zI x)] (zI x :: st) G h k := E_iload (by rfl) rfl
theorem e152_107 : zE 152 d Q 107 [some (.inr (.inr w9)), l1, l2, l3, l4, l5, l6] st G h k ↔ zE 152 d Q 108 [some (.inr (.inr w9)), l1, l2, l3, l4, l5, l6] (.inr (.inr w9) :: st) G h k := E_aload_n (by rfl) rfl
theorem e152_108 : zE 152 d Q 108 [l0, l1, l2, l3, l4, l5, l6] (zR (some r) :: st) G h k ↔ (G.2.1 r = 9 ∧ zE 152 d Q 111 [l0, l1, l2, l3, l4, l5, l6] (zR (G.2.2.2 r 3) :: st) G h k) := E_getR (by rfl) rfl
theorem e152_111 : zE 152 d Q 111 [l0, l1, l2, l3, l4, l5, l6] (zR (some r) :: st) G h k ↔ (G.2.1 r = 8 ∧ zE 152 d Q 114 [l0, l1, l2, l3, l4, l5, l6] (zI (h r 0) :: st) G h k) := E_getI (by rfl) (by decide)
theorem e152_114 : zE 152 d Q 114 [l0, l1, l2, l3, l4, l5, l6] (zI y :: zI x :: st) G h k ↔ ((y ≤ x → zE 152 d Q 144 [l0, l1, l2, l3, l4, l5, l6] st G h k) ∧ (¬ (y ≤ x) → zE 152 d Q 117 [l0, l1, l2, l3, l4, l5, l6] st G h k)) := E_icmp_ge (by rfl)
theorem e152_117 : zE 152 d Q 117 [some (.inr (.inr w9)), l1, l2, l3, l4, l5, l6] st G h k ↔ zE 152 d Q 118 [some (.inr (.inr w9)), l1, l2, l3, l4, l5, l6] (.inr (.inr w9) :: st) G h k := E_aload_n (by rfl) rfl
theorem e152_118 : zE 152 d Q 118 [l0, l1, l2, l3, l4, l5, some (zI x)] st G h k ↔ zE 152 d Q 120 [l0, l1, l2, l3, l4, l5, some (zI x)] (zI x :: st) G h k := E_iload (by rfl) rfl
theorem e152_120 : zE 152 d Q 120 [l0, l1, l2, l3, some (zI x), l5, l6] st G h k ↔ zE 152 d Q 122 [l0, l1, l2, l3, some (zI x), l5, l6] (zI x :: st) G h k := E_iload (by rfl) rfl
theorem e152_122 : zE 152 d Q 122 [l0, some (.inr (.inr w9)), l2, l3, l4, l5, l6] st G h k ↔ zE 152 d Q 123 [l0, some (.inr (.inr w9)), l2, l3, l4, l5, l6] (.inr (.inr w9) :: st) G h k := E_aload_n (by rfl) rfl
theorem e152_123 : zE 152 d Q 123 [l0, l1, some (zI x), l3, l4, l5, l6] st G h k ↔ zE 152 d Q 124 [l0, l1, some (zI x), l3, l4, l5, l6] (zI x :: st) G h k := E_iload_n (by rfl) rfl
theorem e152_124 : zE 152 d Q 124 [l0, l1, l2, l3, some (zI x), l5, l6] st G h k ↔ zE 152 d Q 126 [l0, l1, l2, l3, some (zI x), l5, l6] (zI x :: st) G h k := E_iload (by rfl) rfl
theorem e152_126 : zE 152 d Q 126 [l0, l1, l2, l3, l4, l5, some (zI x)] st G h k ↔ zE 152 d Q 128 [l0, l1, l2, l3, l4, l5, some (zI x)] (zI x :: st) G h k := E_iload (by rfl) rfl
theorem e152_128 : zE 152 d Q 128 [l0, l1, l2, l3, l4, l5, l6] (v1 :: v0 :: st) G h k ↔ (zsum st ≤ 8 ∧ zRunD ztb zmt' d 150 [v0, v1] G h (fun v G' h' => zE 152 d Q 131 [l0, l1, l2, l3, l4, l5, l6] (v.toList ++ st) G' h' k)) := E_invS2z (by rfl) (by decide) rfl
theorem e152_131 : zE 152 d Q 131 [l0, l1, l2, l3, l4, l5, l6] (zI y :: zI x :: st) G h k ↔ zE 152 d Q 132 [l0, l1, l2, l3, l4, l5, l6] (zI (wr (x + y)) :: st) G h k := E_iadd (by rfl)
theorem e152_132 : zE 152 d Q 132 [l0, l1, l2, l3, l4, l5, l6] (zI i :: zR (some r) :: st) G h k ↔ (G.2.1 r = 10 ∧ (0 ≤ i ∧ i < G.2.2.1 r) ∧ zE 152 d Q 133 [l0, l1, l2, l3, l4, l5, l6] (zI (h r i.toNat) :: st) G h k) := E_iaload (by rfl)
theorem e152_133 : zE 152 d Q 133 [l0, l1, l2, l3, l4, some (zI x), l6] st G h k ↔ zE 152 d Q 135 [l0, l1, l2, l3, l4, some (zI x), l6] (zI x :: st) G h k := E_iload (by rfl) rfl
theorem e152_135 : zE 152 d Q 135 [l0, l1, l2, l3, l4, l5, l6] (v3 :: v2 :: v1 :: v0 :: zR (some r) :: st) G h k ↔ (zsum st ≤ 8 ∧ G.2.1 r = 9 ∧ zRunD ztb zmt' d 151 [zR (some r), v0, v1, v2, v3] G h (fun v G' h' => zE 152 d Q 138 [l0, l1, l2, l3, l4, l5, l6] (v.toList ++ st) G' h' k)) := E_invV2z (by rfl) (by decide) rfl
theorem e152_138 : zE 152 d Q 138 [l0, l1, l2, l3, l4, l5, some (zI x)] st G h k ↔ zE 152 d Q 141 [l0, l1, l2, l3, l4, (zclr l5), some (zI (wr (x + 1)))] st G h k := E_iinc (by rfl) rfl
theorem e152_141 : zE 152 d Q 141 [l0, l1, l2, l3, l4, l5, l6] st G h k ↔ zE 152 d Q 105 [l0, l1, l2, l3, l4, l5, l6] st G h k := E_goto (by rfl)
theorem e152_144 : zE 152 d Q 144 [some (.inr (.inr w9)), l1, l2, l3, l4, l5, l6] st G h k ↔ zE 152 d Q 145 [some (.inr (.inr w9)), l1, l2, l3, l4, l5, l6] (.inr (.inr w9) :: st) G h k := E_aload_n (by rfl) rfl
theorem e152_145 : zE 152 d Q 145 [l0, l1, l2, l3, l4, l5, l6] (zR (some r) :: st) G h k ↔ (G.2.1 r = 9 ∧ zE 152 d Q 148 [l0, l1, l2, l3, l4, l5, l6] (zI (h r 19) :: st) G h k) := E_getI (by rfl) (by decide)
theorem e152_148 : zE 152 d Q 148 [l0, l1, l2, l3, l4, l5, l6] st G h k ↔ zE 152 d Q 149 [l0, l1, l2, l3, l4, l5, l6] (zI (-1) :: st) G h k := E_iconst (by rfl)
theorem e152_149 : zE 152 d Q 149 [l0, l1, l2, l3, l4, l5, l6] (zI y :: zI x :: st) G h k ↔ ((¬ x = y → zE 152 d Q 171 [l0, l1, l2, l3, l4, l5, l6] st G h k) ∧ (¬ (¬ x = y) → zE 152 d Q 152 [l0, l1, l2, l3, l4, l5, l6] st G h k)) := E_icmp_ne (by rfl)
theorem e152_152 : zE 152 d Q 152 [l0, l1, l2, l3, l4, some (zI x), l6] st G h k ↔ zE 152 d Q 154 [l0, l1, l2, l3, l4, some (zI x), l6] (zI x :: st) G h k := E_iload (by rfl) rfl
theorem e152_154 : zE 152 d Q 154 [l0, l1, l2, l3, l4, l5, l6] (zI x :: st) G h k ↔ ((x = 0 → zE 152 d Q 167 [l0, l1, l2, l3, l4, l5, l6] st G h k) ∧ (¬ (x = 0) → zE 152 d Q 157 [l0, l1, l2, l3, l4, l5, l6] st G h k)) := E_if_eq (by rfl)
theorem e152_157 : zE 152 d Q 157 [some (.inr (.inr w9)), l1, l2, l3, l4, l5, l6] st G h k ↔ zE 152 d Q 158 [some (.inr (.inr w9)), l1, l2, l3, l4, l5, l6] (.inr (.inr w9) :: st) G h k := E_aload_n (by rfl) rfl
theorem e152_158 : zE 152 d Q 158 [l0, l1, l2, l3, l4, l5, l6] (zR (some r) :: st) G h k ↔ (G.2.1 r = 9 ∧ zE 152 d Q 161 [l0, l1, l2, l3, l4, l5, l6] (zR (G.2.2.2 r 29) :: st) G h k) := E_getR (by rfl) rfl
theorem e152_161 : zE 152 d Q 161 [l0, l1, l2, l3, some (zI x), l5, l6] st G h k ↔ zE 152 d Q 163 [l0, l1, l2, l3, some (zI x), l5, l6] (zI x :: st) G h k := E_iload (by rfl) rfl
theorem e152_163 : zE 152 d Q 163 [l0, l1, l2, l3, l4, l5, l6] (zI i :: zR (some r) :: st) G h k ↔ (G.2.1 r = 10 ∧ (0 ≤ i ∧ i < G.2.2.1 r) ∧ zE 152 d Q 164 [l0, l1, l2, l3, l4, l5, l6] (zI (h r i.toNat) :: st) G h k) := E_iaload (by rfl)
theorem e152_164 : zE 152 d Q 164 [l0, l1, l2, l3, l4, l5, l6] st G h k ↔ zE 152 d Q 186 [l0, l1, l2, l3, l4, l5, l6] st G h k := E_goto (by rfl)
theorem e152_167 : zE 152 d Q 167 [l0, l1, l2, l3, l4, l5, l6] st G h k ↔ zE 152 d Q 168 [l0, l1, l2, l3, l4, l5, l6] (zI 0 :: st) G h k := E_iconst (by rfl)
theorem e152_168 : zE 152 d Q 168 [l0, l1, l2, l3, l4, l5, l6] st G h k ↔ zE 152 d Q 186 [l0, l1, l2, l3, l4, l5, l6] st G h k := E_goto (by rfl)
theorem e152_171 : zE 152 d Q 171 [some (.inr (.inr w9)), l1, l2, l3, l4, l5, l6] st G h k ↔ zE 152 d Q 172 [some (.inr (.inr w9)), l1, l2, l3, l4, l5, l6] (.inr (.inr w9) :: st) G h k := E_aload_n (by rfl) rfl
theorem e152_172 : zE 152 d Q 172 [l0, l1, l2, l3, l4, l5, l6] (zR (some r) :: st) G h k ↔ (G.2.1 r = 9 ∧ zE 152 d Q 175 [l0, l1, l2, l3, l4, l5, l6] (zR (G.2.2.2 r 29) :: st) G h k) := E_getR (by rfl) rfl
theorem e152_175 : zE 152 d Q 175 [l0, l1, l2, l3, some (zI x), l5, l6] st G h k ↔ zE 152 d Q 177 [l0, l1, l2, l3, some (zI x), l5, l6] (zI x :: st) G h k := E_iload (by rfl) rfl
theorem e152_177 : zE 152 d Q 177 [l0, l1, l2, l3, l4, l5, l6] (zI i :: zR (some r) :: st) G h k ↔ (G.2.1 r = 10 ∧ (0 ≤ i ∧ i < G.2.2.1 r) ∧ zE 152 d Q 178 [l0, l1, l2, l3, l4, l5, l6] (zI (h r i.toNat) :: st) G h k) := E_iaload (by rfl)
theorem e152_178 : zE 152 d Q 178 [some (.inr (.inr w9)), l1, l2, l3, l4, l5, l6] st G h k ↔ zE 152 d Q 179 [some (.inr (.inr w9)), l1, l2, l3, l4, l5, l6] (.inr (.inr w9) :: st) G h k := E_aload_n (by rfl) rfl
theorem e152_179 : zE 152 d Q 179 [l0, l1, l2, l3, l4, l5, l6] (zR (some r) :: st) G h k ↔ (G.2.1 r = 9 ∧ zE 152 d Q 182 [l0, l1, l2, l3, l4, l5, l6] (zI (h r 19) :: st) G h k) := E_getI (by rfl) (by decide)
theorem e152_182 : zE 152 d Q 182 [l0, l1, l2, l3, l4, l5, l6] (zI y :: zI x :: st) G h k ↔ zE 152 d Q 183 [l0, l1, l2, l3, l4, l5, l6] (zI (wr (x * y)) :: st) G h k := E_imul (by rfl)
theorem e152_183 : zE 152 d Q 183 [l0, l1, l2, l3, l4, l5, l6] st G h k ↔ zE 152 d Q 185 [l0, l1, l2, l3, l4, l5, l6] (zI 100 :: st) G h k := E_bipush (by rfl)
theorem e152_185 : zE 152 d Q 185 [l0, l1, l2, l3, l4, l5, l6] (zI y :: zI x :: st) G h k ↔ (y ≠ 0 ∧ zE 152 d Q 186 [l0, l1, l2, l3, l4, l5, l6] (zI (wr (x.tdiv y)) :: st) G h k) := E_idiv (by rfl)
theorem e152_186 : zE 152 d Q 186 [l0, l1, l2, l3, l4, l5, l6] (zI x :: st) G h k ↔ zE 152 d Q 188 [l0, l1, l2, l3, l4, (zclr l5), some (zI x)] st G h k := E_istore (by rfl) (by decide)
theorem e152_188 : zE 152 d Q 188 [some (.inr (.inr w9)), l1, l2, l3, l4, l5, l6] st G h k ↔ zE 152 d Q 189 [some (.inr (.inr w9)), l1, l2, l3, l4, l5, l6] (.inr (.inr w9) :: st) G h k := E_aload_n (by rfl) rfl
theorem e152_189 : zE 152 d Q 189 [l0, l1, l2, l3, l4, l5, l6] st G h k ↔ zE 152 d Q 190 [l0, l1, l2, l3, l4, l5, l6] (zI (-1) :: st) G h k := E_iconst (by rfl)
theorem e152_190 : zE 152 d Q 190 [l0, l1, l2, l3, some (zI x), l5, l6] st G h k ↔ zE 152 d Q 192 [l0, l1, l2, l3, some (zI x), l5, l6] (zI x :: st) G h k := E_iload (by rfl) rfl
theorem e152_192 : zE 152 d Q 192 [l0, l1, l2, l3, l4, l5, some (zI x)] st G h k ↔ zE 152 d Q 194 [l0, l1, l2, l3, l4, l5, some (zI x)] (zI x :: st) G h k := E_iload (by rfl) rfl
theorem e152_194 : zE 152 d Q 194 [l0, l1, l2, l3, l4, l5, l6] st G h k ↔ zE 152 d Q 195 [l0, l1, l2, l3, l4, l5, l6] (zI 1 :: st) G h k := E_iconst (by rfl)
theorem e152_195 : zE 152 d Q 195 [l0, l1, l2, l3, l4, l5, l6] (v3 :: v2 :: v1 :: v0 :: zR (some r) :: st) G h k ↔ (zsum st ≤ 8 ∧ G.2.1 r = 9 ∧ zRunD ztb zmt' d 151 [zR (some r), v0, v1, v2, v3] G h (fun v G' h' => zE 152 d Q 198 [l0, l1, l2, l3, l4, l5, l6] (v.toList ++ st) G' h' k)) := E_invV2z (by rfl) (by decide) rfl
theorem e152_198 : zE 152 d Q 198 [some (.inr (.inr w9)), l1, l2, l3, l4, l5, l6] st G h k ↔ zE 152 d Q 199 [some (.inr (.inr w9)), l1, l2, l3, l4, l5, l6] (.inr (.inr w9) :: st) G h k := E_aload_n (by rfl) rfl
theorem e152_199 : zE 152 d Q 199 [l0, l1, l2, l3, l4, l5, l6] st G h k ↔ zE 152 d Q 200 [l0, l1, l2, l3, l4, l5, l6] (zI (-1) :: st) G h k := E_iconst (by rfl)
theorem e152_200 : zE 152 d Q 200 [l0, l1, l2, l3, some (zI x), l5, l6] st G h k ↔ zE 152 d Q 202 [l0, l1, l2, l3, some (zI x), l5, l6] (zI x :: st) G h k := E_iload (by rfl) rfl
theorem e152_202 : zE 152 d Q 202 [some (.inr (.inr w9)), l1, l2, l3, l4, l5, l6] st G h k ↔ zE 152 d Q 203 [some (.inr (.inr w9)), l1, l2, l3, l4, l5, l6] (.inr (.inr w9) :: st) G h k := E_aload_n (by rfl) rfl
theorem e152_203 : zE 152 d Q 203 [l0, l1, l2, l3, l4, l5, l6] (zR (some r) :: st) G h k ↔ (G.2.1 r = 9 ∧ zE 152 d Q 206 [l0, l1, l2, l3, l4, l5, l6] (zR (G.2.2.2 r 29) :: st) G h k) := E_getR (by rfl) rfl
theorem e152_206 : zE 152 d Q 206 [l0, l1, l2, l3, some (zI x), l5, l6] st G h k ↔ zE 152 d Q 208 [l0, l1, l2, l3, some (zI x), l5, l6] (zI x :: st) G h k := E_iload (by rfl) rfl
theorem e152_208 : zE 152 d Q 208 [l0, l1, l2, l3, l4, l5, l6] (zI i :: zR (some r) :: st) G h k ↔ (G.2.1 r = 10 ∧ (0 ≤ i ∧ i < G.2.2.1 r) ∧ zE 152 d Q 209 [l0, l1, l2, l3, l4, l5, l6] (zI (h r i.toNat) :: st) G h k) := E_iaload (by rfl)
theorem e152_209 : zE 152 d Q 209 [l0, l1, l2, l3, l4, l5, some (zI x)] st G h k ↔ zE 152 d Q 211 [l0, l1, l2, l3, l4, l5, some (zI x)] (zI x :: st) G h k := E_iload (by rfl) rfl
theorem e152_211 : zE 152 d Q 211 [l0, l1, l2, l3, l4, l5, l6] (zI y :: zI x :: st) G h k ↔ zE 152 d Q 212 [l0, l1, l2, l3, l4, l5, l6] (zI (wr (x - y)) :: st) G h k := E_isub (by rfl)
theorem e152_212 : zE 152 d Q 212 [l0, l1, l2, l3, l4, l5, l6] st G h k ↔ zE 152 d Q 213 [l0, l1, l2, l3, l4, l5, l6] (zI 0 :: st) G h k := E_iconst (by rfl)
theorem e152_213 : zE 152 d Q 213 [l0, l1, l2, l3, l4, l5, l6] (v3 :: v2 :: v1 :: v0 :: zR (some r) :: st) G h k ↔ (zsum st ≤ 8 ∧ G.2.1 r = 9 ∧ zRunD ztb zmt' d 151 [zR (some r), v0, v1, v2, v3] G h (fun v G' h' => zE 152 d Q 216 [l0, l1, l2, l3, l4, l5, l6] (v.toList ++ st) G' h' k)) := E_invV2z (by rfl) (by decide) rfl
theorem e152_216 : zE 152 d Q 216 [l0, l1, l2, l3, some (zI x), l5, l6] st G h k ↔ zE 152 d Q 219 [l0, l1, l2, (zclr l3), some (zI (wr (x + 1))), l5, l6] st G h k := E_iinc (by rfl) rfl
theorem e152_219 : zE 152 d Q 219 [l0, l1, l2, l3, l4, l5, l6] st G h k ↔ zE 152 d Q 50 [l0, l1, l2, l3, l4, l5, l6] st G h k := E_goto (by rfl)
theorem e152_222 : zE 152 d Q 222 [l0, l1, l2, l3, l4, l5, l6] st G h k ↔ zE 152 d Q 223 [l0, l1, l2, l3, l4, l5, l6] (zI 0 :: st) G h k := E_iconst (by rfl)
theorem e152_223 : zE 152 d Q 223 [l0, l1, l2, l3, l4, l5, l6] (zI x :: st) G h k ↔ zE 152 d Q 225 [l0, l1, l2, (zclr l3), some (zI x), l5, l6] st G h k := E_istore (by rfl) (by decide)
theorem e152_225 : zE 152 d Q 225 [l0, l1, l2, l3, some (zI x), l5, l6] st G h k ↔ zE 152 d Q 227 [l0, l1, l2, l3, some (zI x), l5, l6] (zI x :: st) G h k := E_iload (by rfl) rfl
theorem e152_227 : zE 152 d Q 227 [l0, l1, l2, l3, l4, l5, l6] st G h k ↔ zE 152 d Q 228 [l0, l1, l2, l3, l4, l5, l6] (zI 4 :: st) G h k := E_iconst (by rfl)
theorem e152_228 : zE 152 d Q 228 [l0, l1, l2, l3, l4, l5, l6] (zI y :: zI x :: st) G h k ↔ ((y ≤ x → zE 152 d Q 305 [l0, l1, l2, l3, l4, l5, l6] st G h k) ∧ (¬ (y ≤ x) → zE 152 d Q 231 [l0, l1, l2, l3, l4, l5, l6] st G h k)) := E_icmp_ge (by rfl)
theorem e152_231 : zE 152 d Q 231 [l0, l1, l2, l3, l4, l5, l6] st G h k ↔ zE 152 d Q 232 [l0, l1, l2, l3, l4, l5, l6] (zI 0 :: st) G h k := E_iconst (by rfl)
theorem e152_232 : zE 152 d Q 232 [l0, l1, l2, l3, l4, l5, l6] (zI x :: st) G h k ↔ zE 152 d Q 234 [l0, l1, l2, l3, (zclr l4), some (zI x), l6] st G h k := E_istore (by rfl) (by decide)
theorem e152_234 : zE 152 d Q 234 [l0, l1, l2, l3, l4, some (zI x), l6] st G h k ↔ zE 152 d Q 236 [l0, l1, l2, l3, l4, some (zI x), l6] (zI x :: st) G h k := E_iload (by rfl) rfl
theorem e152_236 : zE 152 d Q 236 [l0, l1, l2, l3, l4, l5, l6] st G h k ↔ zE 152 d Q 237 [l0, l1, l2, l3, l4, l5, l6] (zI 3 :: st) G h k := E_iconst (by rfl)
theorem e152_237 : zE 152 d Q 237 [l0, l1, l2, l3, l4, l5, l6] (zI y :: zI x :: st) G h k ↔ ((y ≤ x → zE 152 d Q 299 [l0, l1, l2, l3, l4, l5, l6] st G h k) ∧ (¬ (y ≤ x) → zE 152 d Q 240 [l0, l1, l2, l3, l4, l5, l6] st G h k)) := E_icmp_ge (by rfl)
theorem e152_240 : zE 152 d Q 240 [l0, some (.inr (.inr w9)), l2, l3, l4, l5, l6] st G h k ↔ zE 152 d Q 241 [l0, some (.inr (.inr w9)), l2, l3, l4, l5, l6] (.inr (.inr w9) :: st) G h k := E_aload_n (by rfl) rfl
theorem e152_241 : zE 152 d Q 241 [l0, l1, l2, some (zI x), l4, l5, l6] st G h k ↔ zE 152 d Q 242 [l0, l1, l2, some (zI x), l4, l5, l6] (zI x :: st) G h k := E_iload_n (by rfl) rfl
theorem e152_242 : zE 152 d Q 242 [l0, l1, l2, l3, some (zI x), l5, l6] st G h k ↔ zE 152 d Q 244 [l0, l1, l2, l3, some (zI x), l5, l6] (zI x :: st) G h k := E_iload (by rfl) rfl
theorem e152_244 : zE 152 d Q 244 [l0, l1, l2, l3, l4, some (zI x), l6] st G h k ↔ zE 152 d Q 246 [l0, l1, l2, l3, l4, some (zI x), l6] (zI x :: st) G h k := E_iload (by rfl) rfl
theorem e152_246 : zE 152 d Q 246 [l0, l1, l2, l3, l4, l5, l6] (v1 :: v0 :: st) G h k ↔ (zsum st ≤ 8 ∧ zRunD ztb zmt' d 150 [v0, v1] G h (fun v G' h' => zE 152 d Q 249 [l0, l1, l2, l3, l4, l5, l6] (v.toList ++ st) G' h' k)) := E_invS2z (by rfl) (by decide) rfl
theorem e152_249 : zE 152 d Q 249 [l0, l1, l2, l3, l4, l5, l6] (zI y :: zI x :: st) G h k ↔ zE 152 d Q 250 [l0, l1, l2, l3, l4, l5, l6] (zI (wr (x + y)) :: st) G h k := E_iadd (by rfl)
theorem e152_250 : zE 152 d Q 250 [l0, l1, l2, l3, some (zI x), l5, l6] st G h k ↔ zE 152 d Q 252 [l0, l1, l2, l3, some (zI x), l5, l6] (zI x :: st) G h k := E_iload (by rfl) rfl
theorem e152_252 : zE 152 d Q 252 [some (.inr (.inr w9)), l1, l2, l3, l4, l5, l6] st G h k ↔ zE 152 d Q 253 [some (.inr (.inr w9)), l1, l2, l3, l4, l5, l6] (.inr (.inr w9) :: st) G h k := E_aload_n (by rfl) rfl
theorem e152_253 : zE 152 d Q 253 [l0, l1, l2, l3, l4, l5, l6] (zR (some r) :: st) G h k ↔ (G.2.1 r = 9 ∧ zE 152 d Q 256 [l0, l1, l2, l3, l4, l5, l6] (zR (G.2.2.2 r 3) :: st) G h k) := E_getR (by rfl) rfl
theorem e152_256 : zE 152 d Q 256 [l0, l1, l2, l3, l4, l5, l6] (zR (some r) :: st) G h k ↔ (G.2.1 r = 8 ∧ zE 152 d Q 259 [l0, l1, l2, l3, l4, l5, l6] (zI (h r 1) :: st) G h k) := E_getI (by rfl) (by decide)
theorem e152_259 : zE 152 d Q 259 [l0, l1, l2, l3, l4, l5, l6] (zI y :: zI x :: st) G h k ↔ ((y ≤ x → zE 152 d Q 291 [l0, l1, l2, l3, l4, l5, l6] st G h k) ∧ (¬ (y ≤ x) → zE 152 d Q 262 [l0, l1, l2, l3, l4, l5, l6] st G h k)) := E_icmp_ge (by rfl)
theorem e152_262 : zE 152 d Q 262 [some (.inr (.inr w9)), l1, l2, l3, l4, l5, l6] st G h k ↔ zE 152 d Q 263 [some (.inr (.inr w9)), l1, l2, l3, l4, l5, l6] (.inr (.inr w9) :: st) G h k := E_aload_n (by rfl) rfl
theorem e152_263 : zE 152 d Q 263 [l0, l1, l2, l3, l4, l5, l6] (zR (some r) :: st) G h k ↔ (G.2.1 r = 9 ∧ zE 152 d Q 266 [l0, l1, l2, l3, l4, l5, l6] (zR (G.2.2.2 r 28) :: st) G h k) := E_getR (by rfl) rfl
theorem e152_266 : zE 152 d Q 266 [l0, l1, l2, l3, some (zI x), l5, l6] st G h k ↔ zE 152 d Q 268 [l0, l1, l2, l3, some (zI x), l5, l6] (zI x :: st) G h k := E_iload (by rfl) rfl
theorem e152_268 : zE 152 d Q 268 [l0, l1, l2, l3, l4, some (zI x), l6] st G h k ↔ zE 152 d Q 270 [l0, l1, l2, l3, l4, some (zI x), l6] (zI x :: st) G h k := E_iload (by rfl) rfl
theorem e152_270 : zE 152 d Q 270 [l0, l1, l2, l3, l4, l5, l6] (v1 :: v0 :: st) G h k ↔ (zsum st ≤ 8 ∧ zRunD ztb zmt' d 150 [v0, v1] G h (fun v G' h' => zE 152 d Q 273 [l0, l1, l2, l3, l4, l5, l6] (v.toList ++ st) G' h' k)) := E_invS2z (by rfl) (by decide) rfl
theorem e152_273 : zE 152 d Q 273 [l0, l1, l2, l3, l4, l5, l6] (zI i :: zR (some r) :: st) G h k ↔ (G.2.1 r = 10 ∧ (0 ≤ i ∧ i < G.2.2.1 r) ∧ zE 152 d Q 274 [l0, l1, l2, l3, l4, l5, l6] (zI (h r i.toNat) :: st) G h k) := E_iaload (by rfl)
theorem e152_274 : zE 152 d Q 274 [some (.inr (.inr w9)), l1, l2, l3, l4, l5, l6] st G h k ↔ zE 152 d Q 275 [some (.inr (.inr w9)), l1, l2, l3, l4, l5, l6] (.inr (.inr w9) :: st) G h k := E_aload_n (by rfl) rfl
theorem e152_275 : zE 152 d Q 275 [l0, l1, l2, l3, l4, l5, l6] (zR (some r) :: st) G h k ↔ (G.2.1 r = 9 ∧ zE 152 d Q 278 [l0, l1, l2, l3, l4, l5, l6] (zR (G.2.2.2 r 3) :: st) G h k) := E_getR (by rfl) rfl
theorem e152_278 : zE 152 d Q 278 [l0, l1, l2, l3, l4, l5, l6] (zR (some r) :: st) G h k ↔ (G.2.1 r = 8 ∧ zE 152 d Q 281 [l0, l1, l2, l3, l4, l5, l6] (zR (G.2.2.2 r 13) :: st) G h k) := E_getR (by rfl) rfl
theorem e152_281 : zE 152 d Q 281 [l0, l1, l2, l3, some (zI x), l5, l6] st G h k ↔ zE 152 d Q 283 [l0, l1, l2, l3, some (zI x), l5, l6] (zI x :: st) G h k := E_iload (by rfl) rfl
theorem e152_283 : zE 152 d Q 283 [l0, l1, l2, l3, l4, l5, l6] (zI i :: zR (some r) :: st) G h k ↔ (G.2.1 r = 10 ∧ (0 ≤ i ∧ i < G.2.2.1 r) ∧ zE 152 d Q 284 [l0, l1, l2, l3, l4, l5, l6] (zI (h r i.toNat) :: st) G h k) := E_iaload (by rfl)
theorem e152_284 : zE 152 d Q 284 [l0, l1, l2, l3, l4, l5, l6] (zI y :: zI x :: st) G h k ↔ zE 152 d Q 285 [l0, l1, l2, l3, l4, l5, l6] (zI (wr (x * y)) :: st) G h k := E_imul (by rfl)
theorem e152_285 : zE 152 d Q 285 [l0, l1, l2, l3, l4, l5, l6] st G h k ↔ zE 152 d Q 287 [l0, l1, l2, l3, l4, l5, l6] (zI 100 :: st) G h k := E_bipush (by rfl)
theorem e152_287 : zE 152 d Q 287 [l0, l1, l2, l3, l4, l5, l6] (zI y :: zI x :: st) G h k ↔ (y ≠ 0 ∧ zE 152 d Q 288 [l0, l1, l2, l3, l4, l5, l6] (zI (wr (x.tdiv y)) :: st) G h k) := E_idiv (by rfl)
theorem e152_288 : zE 152 d Q 288 [l0, l1, l2, l3, l4, l5, l6] st G h k ↔ zE 152 d Q 292 [l0, l1, l2, l3, l4, l5, l6] st G h k := E_goto (by rfl)
theorem e152_291 : zE 152 d Q 291 [l0, l1, l2, l3, l4, l5, l6] st G h k ↔ zE 152 d Q 292 [l0, l1, l2, l3, l4, l5, l6] (zI 0 :: st) G h k := E_iconst (by rfl)
theorem e152_292 : zE 152 d Q 292 [l0, l1, l2, l3, l4, l5, l6] (zI x :: zI i :: zR (some r) :: st) G h k ↔ (G.2.1 r = 10 ∧ (0 ≤ i ∧ i < G.2.2.1 r) ∧ zE 152 d Q 293 [l0, l1, l2, l3, l4, l5, l6] st G (zu h r i.toNat x) k) := E_iastore (by rfl)
theorem e152_293 : zE 152 d Q 293 [l0, l1, l2, l3, l4, some (zI x), l6] st G h k ↔ zE 152 d Q 296 [l0, l1, l2, l3, (zclr l4), some (zI (wr (x + 1))), l6] st G h k := E_iinc (by rfl) rfl
theorem e152_296 : zE 152 d Q 296 [l0, l1, l2, l3, l4, l5, l6] st G h k ↔ zE 152 d Q 234 [l0, l1, l2, l3, l4, l5, l6] st G h k := E_goto (by rfl)
theorem e152_299 : zE 152 d Q 299 [l0, l1, l2, l3, some (zI x), l5, l6] st G h k ↔ zE 152 d Q 302 [l0, l1, l2, (zclr l3), some (zI (wr (x + 1))), l5, l6] st G h k := E_iinc (by rfl) rfl
theorem e152_302 : zE 152 d Q 302 [l0, l1, l2, l3, l4, l5, l6] st G h k ↔ zE 152 d Q 225 [l0, l1, l2, l3, l4, l5, l6] st G h k := E_goto (by rfl)
theorem e152_305 : zE 152 d Q 305 [l0, l1, l2, l3, l4, l5, l6] [] G h k ↔ Q none G h := E_vret (by rfl) rfl
end SITES
