section SITES
variable {d : Nat} {Q : zQ} {st : List zV} {G : zG} {h : zM} {k : zK} {x y i : Int} {r r1 r2 q : Nat} {w9 : Option Nat ⊕ Nat} {q9 : Option Nat} {v0 v1 v2 v3 v4 : zV} {l0 l1 l2 l3 l4 l5 l6 l7 l8 l9 l10 l11 l12 l13 l14 l15 : Option zV}
theorem e91_0 : zE 91 d Q 0 [some (.inr (.inr w9)), l1, l2, l3] st G h k ↔ zE 91 d Q 1 [some (.inr (.inr w9)), l1, l2, l3] (.inr (.inr w9) :: st) G h k := E_aload_n (by rfl) rfl
theorem e91_1 : zE 91 d Q 1 [l0, some (zI x), l2, l3] st G h k ↔ zE 91 d Q 2 [l0, some (zI x), l2, l3] (zI x :: st) G h k := E_iload_n (by rfl) rfl
theorem e91_2 : zE 91 d Q 2 [l0, l1, l2, l3] (v0 :: zR (some r) :: st) G h k ↔ (zsum st ≤ 8 ∧ G.2.1 r = 7 ∧ zRunD ztb zmt' d 98 [zR (some r), v0] G h (fun v G' h' => zE 91 d Q 5 [l0, l1, l2, l3] (v.toList ++ st) G' h' k)) := E_invV2z (by rfl) (by decide) rfl
theorem e91_5 : zE 91 d Q 5 [l0, l1, l2, l3] (zI x :: st) G h k ↔ ((¬ x = 0 → zE 91 d Q 17 [l0, l1, l2, l3] st G h k) ∧ (¬ (¬ x = 0) → zE 91 d Q 8 [l0, l1, l2, l3] st G h k)) := E_if_ne (by rfl)
theorem e91_8 : zE 91 d Q 8 [some (.inr (.inr w9)), l1, l2, l3] st G h k ↔ zE 91 d Q 9 [some (.inr (.inr w9)), l1, l2, l3] (.inr (.inr w9) :: st) G h k := E_aload_n (by rfl) rfl
theorem e91_9 : zE 91 d Q 9 [l0, l1, l2, l3] st G h k ↔ zE 91 d Q 10 [l0, l1, l2, l3] (zI 1 :: st) G h k := E_iconst (by rfl)
theorem e91_10 : zE 91 d Q 10 [l0, l1, l2, l3] (zI x :: zR (some r) :: st) G h k ↔ (G.2.1 r = 7 ∧ zE 91 d Q 13 [l0, l1, l2, l3] st G (zu h r 11 x) k) := E_putI (by rfl) rfl
theorem e91_13 : zE 91 d Q 13 [l0, l1, l2, l3] st G h k ↔ zE 91 d Q 16 [l0, l1, l2, l3] (zI (-1000) :: st) G h k := E_sipush (by rfl)
theorem e91_16 : zE 91 d Q 16 [l0, l1, l2, l3] [zI x] G h k ↔ Q (some (zI x)) G h := E_iret (by rfl) rfl
theorem e91_17 : zE 91 d Q 17 [l0, l1, some (zI x), l3] st G h k ↔ zE 91 d Q 18 [l0, l1, some (zI x), l3] (zI x :: st) G h k := E_iload_n (by rfl) rfl
theorem e91_18 : zE 91 d Q 18 [l0, l1, l2, l3] (zI x :: st) G h k ↔ ((x < 0 → zE 91 d Q 27 [l0, l1, l2, l3] st G h k) ∧ (¬ (x < 0) → zE 91 d Q 21 [l0, l1, l2, l3] st G h k)) := E_if_lt (by rfl)
theorem e91_21 : zE 91 d Q 21 [l0, l1, some (zI x), l3] st G h k ↔ zE 91 d Q 22 [l0, l1, some (zI x), l3] (zI x :: st) G h k := E_iload_n (by rfl) rfl
theorem e91_22 : zE 91 d Q 22 [l0, l1, l2, l3] st G h k ↔ zE 91 d Q 24 [l0, l1, l2, l3] (zI 99 :: st) G h k := E_bipush (by rfl)
theorem e92_0 : zE 92 d Q 0 [l0, l1, l2, l3] st G h k ↔ zE 92 d Q 1 [l0, l1, l2, l3] (zI 0 :: st) G h k := E_iconst (by rfl)
theorem e92_1 : zE 92 d Q 1 [l0, l1, l2, l3] (zI x :: st) G h k ↔ zE 92 d Q 2 [l0, (zclr l1), some (zI x), l3] st G h k := E_istore_n (by rfl) (by decide)
theorem e92_2 : zE 92 d Q 2 [l0, l1, l2, l3] st G h k ↔ zE 92 d Q 3 [l0, l1, l2, l3] (zI 0 :: st) G h k := E_iconst (by rfl)
theorem e92_3 : zE 92 d Q 3 [l0, l1, l2, l3] (zI x :: st) G h k ↔ zE 92 d Q 4 [l0, l1, (zclr l2), some (zI x)] st G h k := E_istore_n (by rfl) (by decide)
theorem e92_4 : zE 92 d Q 4 [l0, l1, l2, some (zI x)] st G h k ↔ zE 92 d Q 5 [l0, l1, l2, some (zI x)] (zI x :: st) G h k := E_iload_n (by rfl) rfl
theorem e92_5 : zE 92 d Q 5 [some (.inr (.inr w9)), l1, l2, l3] st G h k ↔ zE 92 d Q 6 [some (.inr (.inr w9)), l1, l2, l3] (.inr (.inr w9) :: st) G h k := E_aload_n (by rfl) rfl
theorem e92_6 : zE 92 d Q 6 [l0, l1, l2, l3] (zR (some r) :: st) G h k ↔ (G.2.1 r = 7 ∧ zE 92 d Q 9 [l0, l1, l2, l3] (zR (G.2.2.2 r 7) :: st) G h k) := E_getR (by rfl) rfl
theorem e92_9 : zE 92 d Q 9 [l0, l1, l2, l3] (zR (some r) :: st) G h k ↔ (G.2.1 r = 0 ∧ zE 92 d Q 12 [l0, l1, l2, l3] (zI (h r 0) :: st) G h k) := E_getI (by rfl) (by decide)
theorem e92_12 : zE 92 d Q 12 [l0, l1, l2, l3] (zI y :: zI x :: st) G h k ↔ ((y ≤ x → zE 92 d Q 43 [l0, l1, l2, l3] st G h k) ∧ (¬ (y ≤ x) → zE 92 d Q 15 [l0, l1, l2, l3] st G h k)) := E_icmp_ge (by rfl)
theorem e92_15 : zE 92 d Q 15 [some (.inr (.inr w9)), l1, l2, l3] st G h k ↔ zE 92 d Q 16 [some (.inr (.inr w9)), l1, l2, l3] (.inr (.inr w9) :: st) G h k := E_aload_n (by rfl) rfl
theorem e92_16 : zE 92 d Q 16 [l0, l1, l2, l3] (zR (some r) :: st) G h k ↔ (G.2.1 r = 7 ∧ zE 92 d Q 19 [l0, l1, l2, l3] (zR (G.2.2.2 r 7) :: st) G h k) := E_getR (by rfl) rfl
theorem e92_19 : zE 92 d Q 19 [l0, l1, l2, l3] (zR (some r) :: st) G h k ↔ (G.2.1 r = 0 ∧ zE 92 d Q 22 [l0, l1, l2, l3] (zR (G.2.2.2 r 6) :: st) G h k) := E_getR (by rfl) rfl
theorem e92_22 : zE 92 d Q 22 [l0, l1, l2, some (zI x)] st G h k ↔ zE 92 d Q 23 [l0, l1, l2, some (zI x)] (zI x :: st) G h k := E_iload_n (by rfl) rfl
theorem e92_23 : zE 92 d Q 23 [l0, l1, l2, l3] (zI i :: zR (some r) :: st) G h k ↔ (G.2.1 r = 10 ∧ (0 ≤ i ∧ i < G.2.2.1 r) ∧ zE 92 d Q 24 [l0, l1, l2, l3] (zI (h r i.toNat) :: st) G h k) := E_iaload (by rfl)
theorem e92_24 : zE 92 d Q 24 [l0, l1, l2, l3] (zI x :: st) G h k ↔ ((x ≤ 0 → zE 92 d Q 37 [l0, l1, l2, l3] st G h k) ∧ (¬ (x ≤ 0) → zE 92 d Q 27 [l0, l1, l2, l3] st G h k)) := E_if_le (by rfl)
theorem e92_27 : zE 92 d Q 27 [l0, l1, some (zI x), l3] st G h k ↔ zE 92 d Q 28 [l0, l1, some (zI x), l3] (zI x :: st) G h k := E_iload_n (by rfl) rfl
theorem e92_28 : zE 92 d Q 28 [l0, some (zI x), l2, l3] st G h k ↔ zE 92 d Q 29 [l0, some (zI x), l2, l3] (zI x :: st) G h k := E_iload_n (by rfl) rfl
theorem e92_29 : zE 92 d Q 29 [l0, l1, l2, l3] (zI y :: zI x :: st) G h k ↔ ((¬ x = y → zE 92 d Q 34 [l0, l1, l2, l3] st G h k) ∧ (¬ (¬ x = y) → zE 92 d Q 32 [l0, l1, l2, l3] st G h k)) := E_icmp_ne (by rfl)
theorem e92_32 : zE 92 d Q 32 [l0, l1, l2, some (zI x)] st G h k ↔ zE 92 d Q 33 [l0, l1, l2, some (zI x)] (zI x :: st) G h k := E_iload_n (by rfl) rfl
theorem e92_33 : zE 92 d Q 33 [l0, l1, l2, l3] [zI x] G h k ↔ Q (some (zI x)) G h := E_iret (by rfl) rfl
theorem e92_34 : zE 92 d Q 34 [l0, l1, some (zI x), l3] st G h k ↔ zE 92 d Q 37 [l0, (zclr l1), some (zI (wr (x + 1))), l3] st G h k := E_iinc (by rfl) rfl
theorem e92_37 : zE 92 d Q 37 [l0, l1, l2, some (zI x)] st G h k ↔ zE 92 d Q 40 [l0, l1, (zclr l2), some (zI (wr (x + 1)))] st G h k := E_iinc (by rfl) rfl
theorem e92_40 : zE 92 d Q 40 [l0, l1, l2, l3] st G h k ↔ zE 92 d Q 4 [l0, l1, l2, l3] st G h k := E_goto (by rfl)
theorem e92_43 : zE 92 d Q 43 [l0, l1, l2, l3] st G h k ↔ (k.1 + 1 ≤ 1 ∧ k.2 + 6 ≤ 6 ∧ Q (some (zT 2000)) G h) := E_throw (by rfl) rfl
theorem e93_0 : zE 93 d Q 0 [l0, some (zI x)] st G h k ↔ zE 93 d Q 1 [l0, some (zI x)] (zI x :: st) G h k := E_iload_n (by rfl) rfl
theorem e93_1 : zE 93 d Q 1 [l0, l1] (zI x :: st) G h k ↔ zE 93 d Q (ztsw 1 128 0 8 #[51, 59, 67, 75, 83, 91, 99, 115, 120] x) [l0, l1] st G h k := E_tableswitch (by rfl)
theorem e93_52 : zE 93 d Q 52 [some (.inr (.inr w9)), l1] st G h k ↔ zE 93 d Q 53 [some (.inr (.inr w9)), l1] (.inr (.inr w9) :: st) G h k := E_aload_n (by rfl) rfl
theorem e93_53 : zE 93 d Q 53 [l0, l1] (zR (some r) :: st) G h k ↔ (G.2.1 r = 7 ∧ zE 93 d Q 56 [l0, l1] (zR (G.2.2.2 r 6) :: st) G h k) := E_getR (by rfl) rfl
theorem e93_56 : zE 93 d Q 56 [l0, l1] (zR (some r) :: st) G h k ↔ (G.2.1 r = 5 ∧ zE 93 d Q 59 [l0, l1] (zI (h r 9) :: st) G h k) := E_getI (by rfl) (by decide)
theorem e93_59 : zE 93 d Q 59 [l0, l1] [zI x] G h k ↔ Q (some (zI x)) G h := E_iret (by rfl) rfl
theorem e93_60 : zE 93 d Q 60 [some (.inr (.inr w9)), l1] st G h k ↔ zE 93 d Q 61 [some (.inr (.inr w9)), l1] (.inr (.inr w9) :: st) G h k := E_aload_n (by rfl) rfl
theorem e93_61 : zE 93 d Q 61 [l0, l1] (zR (some r) :: st) G h k ↔ (G.2.1 r = 7 ∧ zE 93 d Q 64 [l0, l1] (zR (G.2.2.2 r 6) :: st) G h k) := E_getR (by rfl) rfl
theorem e93_64 : zE 93 d Q 64 [l0, l1] (zR (some r) :: st) G h k ↔ (G.2.1 r = 5 ∧ zE 93 d Q 67 [l0, l1] (zI (h r 10) :: st) G h k) := E_getI (by rfl) (by decide)
theorem e93_67 : zE 93 d Q 67 [l0, l1] [zI x] G h k ↔ Q (some (zI x)) G h := E_iret (by rfl) rfl
theorem e93_68 : zE 93 d Q 68 [some (.inr (.inr w9)), l1] st G h k ↔ zE 93 d Q 69 [some (.inr (.inr w9)), l1] (.inr (.inr w9) :: st) G h k := E_aload_n (by rfl) rfl
theorem e93_69 : zE 93 d Q 69 [l0, l1] (zR (some r) :: st) G h k ↔ (G.2.1 r = 7 ∧ zE 93 d Q 72 [l0, l1] (zR (G.2.2.2 r 6) :: st) G h k) := E_getR (by rfl) rfl
theorem e93_72 : zE 93 d Q 72 [l0, l1] (zR (some r) :: st) G h k ↔ (G.2.1 r = 5 ∧ zE 93 d Q 75 [l0, l1] (zI (h r 11) :: st) G h k) := E_getI (by rfl) (by decide)
theorem e93_75 : zE 93 d Q 75 [l0, l1] [zI x] G h k ↔ Q (some (zI x)) G h := E_iret (by rfl) rfl
theorem e93_76 : zE 93 d Q 76 [some (.inr (.inr w9)), l1] st G h k ↔ zE 93 d Q 77 [some (.inr (.inr w9)), l1] (.inr (.inr w9) :: st) G h k := E_aload_n (by rfl) rfl
theorem e93_77 : zE 93 d Q 77 [l0, l1] (zR (some r) :: st) G h k ↔ (G.2.1 r = 7 ∧ zE 93 d Q 80 [l0, l1] (zR (G.2.2.2 r 6) :: st) G h k) := E_getR (by rfl) rfl
theorem e93_80 : zE 93 d Q 80 [l0, l1] (zR (some r) :: st) G h k ↔ (G.2.1 r = 5 ∧ zE 93 d Q 83 [l0, l1] (zI (h r 12) :: st) G h k) := E_getI (by rfl) (by decide)
theorem e93_83 : zE 93 d Q 83 [l0, l1] [zI x] G h k ↔ Q (some (zI x)) G h := E_iret (by rfl) rfl
theorem e93_84 : zE 93 d Q 84 [some (.inr (.inr w9)), l1] st G h k ↔ zE 93 d Q 85 [some (.inr (.inr w9)), l1] (.inr (.inr w9) :: st) G h k := E_aload_n (by rfl) rfl
theorem e93_85 : zE 93 d Q 85 [l0, l1] (zR (some r) :: st) G h k ↔ (G.2.1 r = 7 ∧ zE 93 d Q 88 [l0, l1] (zR (G.2.2.2 r 6) :: st) G h k) := E_getR (by rfl) rfl
theorem e93_88 : zE 93 d Q 88 [l0, l1] (zR (some r) :: st) G h k ↔ (G.2.1 r = 5 ∧ zE 93 d Q 91 [l0, l1] (zI (h r 13) :: st) G h k) := E_getI (by rfl) (by decide)
theorem e93_91 : zE 93 d Q 91 [l0, l1] [zI x] G h k ↔ Q (some (zI x)) G h := E_iret (by rfl) rfl
theorem e93_92 : zE 93 d Q 92 [some (.inr (.inr w9)), l1] st G h k ↔ zE 93 d Q 93 [some (.inr (.inr w9)), l1] (.inr (.inr w9) :: st) G h k := E_aload_n (by rfl) rfl
theorem e93_93 : zE 93 d Q 93 [l0, l1] (zR (some r) :: st) G h k ↔ (G.2.1 r = 7 ∧ zE 93 d Q 96 [l0, l1] (zR (G.2.2.2 r 7) :: st) G h k) := E_getR (by rfl) rfl
theorem e93_96 : zE 93 d Q 96 [l0, l1] (zR (some r) :: st) G h k ↔ (G.2.1 r = 0 ∧ zE 93 d Q 99 [l0, l1] (zI (h r 0) :: st) G h k) := E_getI (by rfl) (by decide)
theorem e93_99 : zE 93 d Q 99 [l0, l1] [zI x] G h k ↔ Q (some (zI x)) G h := E_iret (by rfl) rfl
theorem e93_100 : zE 93 d Q 100 [some (.inr (.inr w9)), l1] st G h k ↔ zE 93 d Q 101 [some (.inr (.inr w9)), l1] (.inr (.inr w9) :: st) G h k := E_aload_n (by rfl) rfl
theorem e93_101 : zE 93 d Q 101 [l0, l1] (zR (some r) :: st) G h k ↔ (G.2.1 r = 7 ∧ zE 93 d Q 104 [l0, l1] (zR (G.2.2.2 r 7) :: st) G h k) := E_getR (by rfl) rfl
theorem e93_104 : zE 93 d Q 104 [l0, l1] (zR (some r) :: st) G h k ↔ (G.2.1 r = 0 ∧ zE 93 d Q 107 [l0, l1] (zR (G.2.2.2 r 4) :: st) G h k) := E_getR (by rfl) rfl
theorem e93_107 : zE 93 d Q 107 [some (.inr (.inr w9)), l1] st G h k ↔ zE 93 d Q 108 [some (.inr (.inr w9)), l1] (.inr (.inr w9) :: st) G h k := E_aload_n (by rfl) rfl
theorem e93_108 : zE 93 d Q 108 [l0, l1] (zR (some r) :: st) G h k ↔ (G.2.1 r = 7 ∧ zE 93 d Q 111 [l0, l1] (zR (G.2.2.2 r 7) :: st) G h k) := E_getR (by rfl) rfl
theorem e93_111 : zE 93 d Q 111 [l0, l1] (zR (some r) :: st) G h k ↔ (G.2.1 r = 0 ∧ zE 93 d Q 114 [l0, l1] (zI (h r 0) :: st) G h k) := E_getI (by rfl) (by decide)
theorem e93_114 : zE 93 d Q 114 [l0, l1] (zI i :: zR (some r) :: st) G h k ↔ (G.2.1 r = 10 ∧ (0 ≤ i ∧ i < G.2.2.1 r) ∧ zE 93 d Q 115 [l0, l1] (zI (h r i.toNat) :: st) G h k) := E_iaload (by rfl)
theorem e93_115 : zE 93 d Q 115 [l0, l1] [zI x] G h k ↔ Q (some (zI x)) G h := E_iret (by rfl) rfl
theorem e93_116 : zE 93 d Q 116 [some (.inr (.inr w9)), l1] st G h k ↔ zE 93 d Q 117 [some (.inr (.inr w9)), l1] (.inr (.inr w9) :: st) G h k := E_aload_n (by rfl) rfl
theorem e93_117 : zE 93 d Q 117 [l0, l1] (zR (some r) :: st) G h k ↔ (G.2.1 r = 7 ∧ zE 93 d Q 120 [l0, l1] (zI (h r 1) :: st) G h k) := E_getI (by rfl) (by decide)
theorem e93_120 : zE 93 d Q 120 [l0, l1] [zI x] G h k ↔ Q (some (zI x)) G h := E_iret (by rfl) rfl
theorem e93_121 : zE 93 d Q 121 [some (.inr (.inr w9)), l1] st G h k ↔ zE 93 d Q 122 [some (.inr (.inr w9)), l1] (.inr (.inr w9) :: st) G h k := E_aload_n (by rfl) rfl
theorem e93_122 : zE 93 d Q 122 [l0, l1] (zR (some r) :: st) G h k ↔ (G.2.1 r = 7 ∧ zE 93 d Q 125 [l0, l1] (zR (G.2.2.2 r 6) :: st) G h k) := E_getR (by rfl) rfl
theorem e93_125 : zE 93 d Q 125 [l0, l1] (zR (some r) :: st) G h k ↔ (zsum st ≤ 8 ∧ G.2.1 r = 5 ∧ zRunD ztb zmt' d 48 [zR (some r)] G h (fun v G' h' => zE 93 d Q 128 [l0, l1] (v.toList ++ st) G' h' k)) := E_invV2z (by rfl) (by decide) rfl
theorem e93_128 : zE 93 d Q 128 [l0, l1] [zI x] G h k ↔ Q (some (zI x)) G h := E_iret (by rfl) rfl
theorem e93_129 : zE 93 d Q 129 [l0, l1] st G h k ↔ zE 93 d Q 130 [l0, l1] (zI (-1) :: st) G h k := E_iconst (by rfl)
theorem e93_130 : zE 93 d Q 130 [l0, l1] [zI x] G h k ↔ Q (some (zI x)) G h := E_iret (by rfl) rfl
theorem e94_0 : zE 94 d Q 0 [some (.inr (.inr w9)), l1, l2] st G h k ↔ zE 94 d Q 1 [some (.inr (.inr w9)), l1, l2] (.inr (.inr w9) :: st) G h k := E_aload_n (by rfl) rfl
theorem e94_1 : zE 94 d Q 1 [l0, some (zI x), l2] st G h k ↔ zE 94 d Q 2 [l0, some (zI x), l2] (zI x :: st) G h k := E_iload_n (by rfl) rfl
theorem e94_2 : zE 94 d Q 2 [l0, l1, l2] (v0 :: zR (some r) :: st) G h k ↔ (zsum st ≤ 8 ∧ G.2.1 r = 7 ∧ zRunD ztb zmt' d 98 [zR (some r), v0] G h (fun v G' h' => zE 94 d Q 5 [l0, l1, l2] (v.toList ++ st) G' h' k)) := E_invV2z (by rfl) (by decide) rfl
theorem e94_5 : zE 94 d Q 5 [l0, l1, l2] (zI x :: st) G h k ↔ ((¬ x = 0 → zE 94 d Q 10 [l0, l1, l2] st G h k) ∧ (¬ (¬ x = 0) → zE 94 d Q 8 [l0, l1, l2] st G h k)) := E_if_ne (by rfl)
theorem e94_8 : zE 94 d Q 8 [l0, l1, l2] st G h k ↔ zE 94 d Q 9 [l0, l1, l2] (zI (-1) :: st) G h k := E_iconst (by rfl)
theorem e94_9 : zE 94 d Q 9 [l0, l1, l2] [zI x] G h k ↔ Q (some (zI x)) G h := E_iret (by rfl) rfl
theorem e94_10 : zE 94 d Q 10 [l0, l1, some (zI x)] st G h k ↔ zE 94 d Q 11 [l0, l1, some (zI x)] (zI x :: st) G h k := E_iload_n (by rfl) rfl
theorem e94_11 : zE 94 d Q 11 [l0, l1, l2] (zI x :: st) G h k ↔ zE 94 d Q (ztsw 11 97 0 4 #[33, 43, 53, 63, 80] x) [l0, l1, l2] st G h k := E_tableswitch (by rfl)
theorem e94_44 : zE 94 d Q 44 [some (.inr (.inr w9)), l1, l2] st G h k ↔ zE 94 d Q 45 [some (.inr (.inr w9)), l1, l2] (.inr (.inr w9) :: st) G h k := E_aload_n (by rfl) rfl
theorem e94_45 : zE 94 d Q 45 [l0, l1, l2] (zR (some r) :: st) G h k ↔ (G.2.1 r = 7 ∧ zE 94 d Q 48 [l0, l1, l2] (zR (G.2.2.2 r 6) :: st) G h k) := E_getR (by rfl) rfl
theorem e94_48 : zE 94 d Q 48 [l0, l1, l2] (zR (some r) :: st) G h k ↔ (G.2.1 r = 5 ∧ zE 94 d Q 51 [l0, l1, l2] (zR (G.2.2.2 r 0) :: st) G h k) := E_getR (by rfl) rfl
theorem e94_51 : zE 94 d Q 51 [l0, some (zI x), l2] st G h k ↔ zE 94 d Q 52 [l0, some (zI x), l2] (zI x :: st) G h k := E_iload_n (by rfl) rfl
theorem e94_52 : zE 94 d Q 52 [l0, l1, l2] (zI i :: zR (some r) :: st) G h k ↔ (G.2.1 r = 10 ∧ (0 ≤ i ∧ i < G.2.2.1 r) ∧ zE 94 d Q 53 [l0, l1, l2] (zI (h r i.toNat) :: st) G h k) := E_iaload (by rfl)
theorem e94_53 : zE 94 d Q 53 [l0, l1, l2] [zI x] G h k ↔ Q (some (zI x)) G h := E_iret (by rfl) rfl
theorem e94_54 : zE 94 d Q 54 [some (.inr (.inr w9)), l1, l2] st G h k ↔ zE 94 d Q 55 [some (.inr (.inr w9)), l1, l2] (.inr (.inr w9) :: st) G h k := E_aload_n (by rfl) rfl
theorem e94_55 : zE 94 d Q 55 [l0, l1, l2] (zR (some r) :: st) G h k ↔ (G.2.1 r = 7 ∧ zE 94 d Q 58 [l0, l1, l2] (zR (G.2.2.2 r 6) :: st) G h k) := E_getR (by rfl) rfl
theorem e94_58 : zE 94 d Q 58 [l0, l1, l2] (zR (some r) :: st) G h k ↔ (G.2.1 r = 5 ∧ zE 94 d Q 61 [l0, l1, l2] (zR (G.2.2.2 r 1) :: st) G h k) := E_getR (by rfl) rfl
theorem e94_61 : zE 94 d Q 61 [l0, some (zI x), l2] st G h k ↔ zE 94 d Q 62 [l0, some (zI x), l2] (zI x :: st) G h k := E_iload_n (by rfl) rfl
theorem e94_62 : zE 94 d Q 62 [l0, l1, l2] (zI i :: zR (some r) :: st) G h k ↔ (G.2.1 r = 10 ∧ (0 ≤ i ∧ i < G.2.2.1 r) ∧ zE 94 d Q 63 [l0, l1, l2] (zI (h r i.toNat) :: st) G h k) := E_iaload (by rfl)
theorem e94_63 : zE 94 d Q 63 [l0, l1, l2] [zI x] G h k ↔ Q (some (zI x)) G h := E_iret (by rfl) rfl
theorem e94_64 : zE 94 d Q 64 [some (.inr (.inr w9)), l1, l2] st G h k ↔ zE 94 d Q 65 [some (.inr (.inr w9)), l1, l2] (.inr (.inr w9) :: st) G h k := E_aload_n (by rfl) rfl
theorem e94_65 : zE 94 d Q 65 [l0, l1, l2] (zR (some r) :: st) G h k ↔ (G.2.1 r = 7 ∧ zE 94 d Q 68 [l0, l1, l2] (zR (G.2.2.2 r 6) :: st) G h k) := E_getR (by rfl) rfl
theorem e94_68 : zE 94 d Q 68 [l0, l1, l2] (zR (some r) :: st) G h k ↔ (G.2.1 r = 5 ∧ zE 94 d Q 71 [l0, l1, l2] (zR (G.2.2.2 r 2) :: st) G h k) := E_getR (by rfl) rfl
theorem e94_71 : zE 94 d Q 71 [l0, some (zI x), l2] st G h k ↔ zE 94 d Q 72 [l0, some (zI x), l2] (zI x :: st) G h k := E_iload_n (by rfl) rfl
theorem e94_72 : zE 94 d Q 72 [l0, l1, l2] (zI i :: zR (some r) :: st) G h k ↔ (G.2.1 r = 10 ∧ (0 ≤ i ∧ i < G.2.2.1 r) ∧ zE 94 d Q 73 [l0, l1, l2] (zI (h r i.toNat) :: st) G h k) := E_iaload (by rfl)
theorem e94_73 : zE 94 d Q 73 [l0, l1, l2] [zI x] G h k ↔ Q (some (zI x)) G h := E_iret (by rfl) rfl
theorem e94_74 : zE 94 d Q 74 [some (.inr (.inr w9)), l1, l2] st G h k ↔ zE 94 d Q 75 [some (.inr (.inr w9)), l1, l2] (.inr (.inr w9) :: st) G h k := E_aload_n (by rfl) rfl
theorem e94_75 : zE 94 d Q 75 [l0, l1, l2] (zR (some r) :: st) G h k ↔ (G.2.1 r = 7 ∧ zE 94 d Q 78 [l0, l1, l2] (zR (G.2.2.2 r 7) :: st) G h k) := E_getR (by rfl) rfl
theorem e94_78 : zE 94 d Q 78 [l0, l1, l2] (zR (some r) :: st) G h k ↔ (G.2.1 r = 0 ∧ zE 94 d Q 81 [l0, l1, l2] (zR (G.2.2.2 r 2) :: st) G h k) := E_getR (by rfl) rfl
theorem e94_81 : zE 94 d Q 81 [some (.inr (.inr w9)), l1, l2] st G h k ↔ zE 94 d Q 82 [some (.inr (.inr w9)), l1, l2] (.inr (.inr w9) :: st) G h k := E_aload_n (by rfl) rfl
theorem e94_82 : zE 94 d Q 82 [l0, l1, l2] (zR (some r) :: st) G h k ↔ (G.2.1 r = 7 ∧ zE 94 d Q 85 [l0, l1, l2] (zR (G.2.2.2 r 7) :: st) G h k) := E_getR (by rfl) rfl
theorem e94_85 : zE 94 d Q 85 [l0, some (zI x), l2] st G h k ↔ zE 94 d Q 86 [l0, some (zI x), l2] (zI x :: st) G h k := E_iload_n (by rfl) rfl
theorem e94_86 : zE 94 d Q 86 [l0, l1, l2] (v0 :: zR (some r) :: st) G h k ↔ (zsum st ≤ 8 ∧ G.2.1 r = 0 ∧ zRunD ztb zmt' d 3 [zR (some r), v0] G h (fun v G' h' => zE 94 d Q 89 [l0, l1, l2] (v.toList ++ st) G' h' k)) := E_invV2z (by rfl) (by decide) rfl
theorem e94_89 : zE 94 d Q 89 [l0, l1, l2] (zI i :: zR (some r) :: st) G h k ↔ (G.2.1 r = 10 ∧ (0 ≤ i ∧ i < G.2.2.1 r) ∧ zE 94 d Q 90 [l0, l1, l2] (zI (h r i.toNat) :: st) G h k) := E_iaload (by rfl)
theorem e94_90 : zE 94 d Q 90 [l0, l1, l2] [zI x] G h k ↔ Q (some (zI x)) G h := E_iret (by rfl) rfl
theorem e94_91 : zE 94 d Q 91 [some (.inr (.inr w9)), l1, l2] st G h k ↔ zE 94 d Q 92 [some (.inr (.inr w9)), l1, l2] (.inr (.inr w9) :: st) G h k := E_aload_n (by rfl) rfl
theorem e94_92 : zE 94 d Q 92 [l0, l1, l2] (zR (some r) :: st) G h k ↔ (G.2.1 r = 7 ∧ zE 94 d Q 95 [l0, l1, l2] (zR (G.2.2.2 r 7) :: st) G h k) := E_getR (by rfl) rfl
theorem e94_95 : zE 94 d Q 95 [l0, l1, l2] (zR (some r) :: st) G h k ↔ (G.2.1 r = 0 ∧ zE 94 d Q 98 [l0, l1, l2] (zR (G.2.2.2 r 3) :: st) G h k) := E_getR (by rfl) rfl
theorem e94_98 : zE 94 d Q 98 [some (.inr (.inr w9)), l1, l2] st G h k ↔ zE 94 d Q 99 [some (.inr (.inr w9)), l1, l2] (.inr (.inr w9) :: st) G h k := E_aload_n (by rfl) rfl
theorem e94_99 : zE 94 d Q 99 [l0, l1, l2] (zR (some r) :: st) G h k ↔ (G.2.1 r = 7 ∧ zE 94 d Q 102 [l0, l1, l2] (zR (G.2.2.2 r 7) :: st) G h k) := E_getR (by rfl) rfl
theorem e94_102 : zE 94 d Q 102 [l0, some (zI x), l2] st G h k ↔ zE 94 d Q 103 [l0, some (zI x), l2] (zI x :: st) G h k := E_iload_n (by rfl) rfl
theorem e94_103 : zE 94 d Q 103 [l0, l1, l2] (v0 :: zR (some r) :: st) G h k ↔ (zsum st ≤ 8 ∧ G.2.1 r = 0 ∧ zRunD ztb zmt' d 3 [zR (some r), v0] G h (fun v G' h' => zE 94 d Q 106 [l0, l1, l2] (v.toList ++ st) G' h' k)) := E_invV2z (by rfl) (by decide) rfl
theorem e94_106 : zE 94 d Q 106 [l0, l1, l2] (zI i :: zR (some r) :: st) G h k ↔ (G.2.1 r = 10 ∧ (0 ≤ i ∧ i < G.2.2.1 r) ∧ zE 94 d Q 107 [l0, l1, l2] (zI (h r i.toNat) :: st) G h k) := E_iaload (by rfl)
theorem e94_107 : zE 94 d Q 107 [l0, l1, l2] [zI x] G h k ↔ Q (some (zI x)) G h := E_iret (by rfl) rfl
theorem e94_108 : zE 94 d Q 108 [l0, l1, l2] st G h k ↔ zE 94 d Q 109 [l0, l1, l2] (zI (-1) :: st) G h k := E_iconst (by rfl)
theorem e94_109 : zE 94 d Q 109 [l0, l1, l2] [zI x] G h k ↔ Q (some (zI x)) G h := E_iret (by rfl) rfl
theorem e95_0 : zE 95 d Q 0 [some (.inr (.inr w9)), l1, l2] st G h k ↔ zE 95 d Q 1 [some (.inr (.inr w9)), l1, l2] (.inr (.inr w9) :: st) G h k := E_aload_n (by rfl) rfl
theorem e95_1 : zE 95 d Q 1 [l0, some (zI x), l2] st G h k ↔ zE 95 d Q 2 [l0, some (zI x), l2] (zI x :: st) G h k := E_iload_n (by rfl) rfl
theorem e95_2 : zE 95 d Q 2 [l0, l1, l2] (v0 :: zR (some r) :: st) G h k ↔ (zsum st ≤ 8 ∧ G.2.1 r = 7 ∧ zRunD ztb zmt' d 99 [zR (some r), v0] G h (fun v G' h' => zE 95 d Q 5 [l0, l1, l2] (v.toList ++ st) G' h' k)) := E_invV2z (by rfl) (by decide) rfl
theorem e95_5 : zE 95 d Q 5 [l0, l1, l2] (zI x :: st) G h k ↔ ((¬ x = 0 → zE 95 d Q 10 [l0, l1, l2] st G h k) ∧ (¬ (¬ x = 0) → zE 95 d Q 8 [l0, l1, l2] st G h k)) := E_if_ne (by rfl)
theorem e95_8 : zE 95 d Q 8 [l0, l1, l2] st G h k ↔ zE 95 d Q 9 [l0, l1, l2] (zI (-1) :: st) G h k := E_iconst (by rfl)
theorem e95_9 : zE 95 d Q 9 [l0, l1, l2] [zI x] G h k ↔ Q (some (zI x)) G h := E_iret (by rfl) rfl
theorem e95_10 : zE 95 d Q 10 [l0, l1, some (zI x)] st G h k ↔ zE 95 d Q 11 [l0, l1, some (zI x)] (zI x :: st) G h k := E_iload_n (by rfl) rfl
theorem e95_11 : zE 95 d Q 11 [l0, l1, l2] (zI x :: st) G h k ↔ zE 95 d Q (ztsw 11 83 0 4 #[33, 43, 53, 63, 73] x) [l0, l1, l2] st G h k := E_tableswitch (by rfl)
theorem e95_44 : zE 95 d Q 44 [some (.inr (.inr w9)), l1, l2] st G h k ↔ zE 95 d Q 45 [some (.inr (.inr w9)), l1, l2] (.inr (.inr w9) :: st) G h k := E_aload_n (by rfl) rfl
theorem e95_45 : zE 95 d Q 45 [l0, l1, l2] (zR (some r) :: st) G h k ↔ (G.2.1 r = 7 ∧ zE 95 d Q 48 [l0, l1, l2] (zR (G.2.2.2 r 6) :: st) G h k) := E_getR (by rfl) rfl
theorem e95_48 : zE 95 d Q 48 [l0, l1, l2] (zR (some r) :: st) G h k ↔ (G.2.1 r = 5 ∧ zE 95 d Q 51 [l0, l1, l2] (zR (G.2.2.2 r 3) :: st) G h k) := E_getR (by rfl) rfl
theorem e95_51 : zE 95 d Q 51 [l0, some (zI x), l2] st G h k ↔ zE 95 d Q 52 [l0, some (zI x), l2] (zI x :: st) G h k := E_iload_n (by rfl) rfl
theorem e95_52 : zE 95 d Q 52 [l0, l1, l2] (zI i :: zR (some r) :: st) G h k ↔ (G.2.1 r = 10 ∧ (0 ≤ i ∧ i < G.2.2.1 r) ∧ zE 95 d Q 53 [l0, l1, l2] (zI (h r i.toNat) :: st) G h k) := E_iaload (by rfl)
theorem e95_53 : zE 95 d Q 53 [l0, l1, l2] [zI x] G h k ↔ Q (some (zI x)) G h := E_iret (by rfl) rfl
theorem e95_54 : zE 95 d Q 54 [some (.inr (.inr w9)), l1, l2] st G h k ↔ zE 95 d Q 55 [some (.inr (.inr w9)), l1, l2] (.inr (.inr w9) :: st) G h k := E_aload_n (by rfl) rfl
theorem e95_55 : zE 95 d Q 55 [l0, l1, l2] (zR (some r) :: st) G h k ↔ (G.2.1 r = 7 ∧ zE 95 d Q 58 [l0, l1, l2] (zR (G.2.2.2 r 6) :: st) G h k) := E_getR (by rfl) rfl
theorem e95_58 : zE 95 d Q 58 [l0, l1, l2] (zR (some r) :: st) G h k ↔ (G.2.1 r = 5 ∧ zE 95 d Q 61 [l0, l1, l2] (zR (G.2.2.2 r 4) :: st) G h k) := E_getR (by rfl) rfl
theorem e95_61 : zE 95 d Q 61 [l0, some (zI x), l2] st G h k ↔ zE 95 d Q 62 [l0, some (zI x), l2] (zI x :: st) G h k := E_iload_n (by rfl) rfl
theorem e95_62 : zE 95 d Q 62 [l0, l1, l2] (zI i :: zR (some r) :: st) G h k ↔ (G.2.1 r = 10 ∧ (0 ≤ i ∧ i < G.2.2.1 r) ∧ zE 95 d Q 63 [l0, l1, l2] (zI (h r i.toNat) :: st) G h k) := E_iaload (by rfl)
theorem e95_63 : zE 95 d Q 63 [l0, l1, l2] [zI x] G h k ↔ Q (some (zI x)) G h := E_iret (by rfl) rfl
theorem e95_64 : zE 95 d Q 64 [some (.inr (.inr w9)), l1, l2] st G h k ↔ zE 95 d Q 65 [some (.inr (.inr w9)), l1, l2] (.inr (.inr w9) :: st) G h k := E_aload_n (by rfl) rfl
theorem e95_65 : zE 95 d Q 65 [l0, l1, l2] (zR (some r) :: st) G h k ↔ (G.2.1 r = 7 ∧ zE 95 d Q 68 [l0, l1, l2] (zR (G.2.2.2 r 6) :: st) G h k) := E_getR (by rfl) rfl
theorem e95_68 : zE 95 d Q 68 [l0, l1, l2] (zR (some r) :: st) G h k ↔ (G.2.1 r = 5 ∧ zE 95 d Q 71 [l0, l1, l2] (zR (G.2.2.2 r 5) :: st) G h k) := E_getR (by rfl) rfl
theorem e95_71 : zE 95 d Q 71 [l0, some (zI x), l2] st G h k ↔ zE 95 d Q 72 [l0, some (zI x), l2] (zI x :: st) G h k := E_iload_n (by rfl) rfl
theorem e95_72 : zE 95 d Q 72 [l0, l1, l2] (zI i :: zR (some r) :: st) G h k ↔ (G.2.1 r = 10 ∧ (0 ≤ i ∧ i < G.2.2.1 r) ∧ zE 95 d Q 73 [l0, l1, l2] (zI (h r i.toNat) :: st) G h k) := E_iaload (by rfl)
theorem e95_73 : zE 95 d Q 73 [l0, l1, l2] [zI x] G h k ↔ Q (some (zI x)) G h := E_iret (by rfl) rfl
theorem e95_74 : zE 95 d Q 74 [some (.inr (.inr w9)), l1, l2] st G h k ↔ zE 95 d Q 75 [some (.inr (.inr w9)), l1, l2] (.inr (.inr w9) :: st) G h k := E_aload_n (by rfl) rfl
theorem e95_75 : zE 95 d Q 75 [l0, l1, l2] (zR (some r) :: st) G h k ↔ (G.2.1 r = 7 ∧ zE 95 d Q 78 [l0, l1, l2] (zR (G.2.2.2 r 6) :: st) G h k) := E_getR (by rfl) rfl
theorem e95_78 : zE 95 d Q 78 [l0, l1, l2] (zR (some r) :: st) G h k ↔ (G.2.1 r = 5 ∧ zE 95 d Q 81 [l0, l1, l2] (zR (G.2.2.2 r 6) :: st) G h k) := E_getR (by rfl) rfl
theorem e95_81 : zE 95 d Q 81 [l0, some (zI x), l2] st G h k ↔ zE 95 d Q 82 [l0, some (zI x), l2] (zI x :: st) G h k := E_iload_n (by rfl) rfl
theorem e95_82 : zE 95 d Q 82 [l0, l1, l2] (zI i :: zR (some r) :: st) G h k ↔ (G.2.1 r = 10 ∧ (0 ≤ i ∧ i < G.2.2.1 r) ∧ zE 95 d Q 83 [l0, l1, l2] (zI (h r i.toNat) :: st) G h k) := E_iaload (by rfl)
theorem e95_83 : zE 95 d Q 83 [l0, l1, l2] [zI x] G h k ↔ Q (some (zI x)) G h := E_iret (by rfl) rfl
theorem e95_84 : zE 95 d Q 84 [some (.inr (.inr w9)), l1, l2] st G h k ↔ zE 95 d Q 85 [some (.inr (.inr w9)), l1, l2] (.inr (.inr w9) :: st) G h k := E_aload_n (by rfl) rfl
theorem e95_85 : zE 95 d Q 85 [l0, l1, l2] (zR (some r) :: st) G h k ↔ (G.2.1 r = 7 ∧ zE 95 d Q 88 [l0, l1, l2] (zR (G.2.2.2 r 6) :: st) G h k) := E_getR (by rfl) rfl
theorem e95_88 : zE 95 d Q 88 [l0, l1, l2] (zR (some r) :: st) G h k ↔ (G.2.1 r = 5 ∧ zE 95 d Q 91 [l0, l1, l2] (zR (G.2.2.2 r 7) :: st) G h k) := E_getR (by rfl) rfl
theorem e95_91 : zE 95 d Q 91 [l0, some (zI x), l2] st G h k ↔ zE 95 d Q 92 [l0, some (zI x), l2] (zI x :: st) G h k := E_iload_n (by rfl) rfl
theorem e95_92 : zE 95 d Q 92 [l0, l1, l2] (zI i :: zR (some r) :: st) G h k ↔ (G.2.1 r = 10 ∧ (0 ≤ i ∧ i < G.2.2.1 r) ∧ zE 95 d Q 93 [l0, l1, l2] (zI (h r i.toNat) :: st) G h k) := E_iaload (by rfl)
theorem e95_93 : zE 95 d Q 93 [l0, l1, l2] [zI x] G h k ↔ Q (some (zI x)) G h := E_iret (by rfl) rfl
theorem e95_94 : zE 95 d Q 94 [l0, l1, l2] st G h k ↔ zE 95 d Q 95 [l0, l1, l2] (zI (-1) :: st) G h k := E_iconst (by rfl)
theorem e95_95 : zE 95 d Q 95 [l0, l1, l2] [zI x] G h k ↔ Q (some (zI x)) G h := E_iret (by rfl) rfl
theorem e96_0 : zE 96 d Q 0 [some (.inr (.inr w9))] st G h k ↔ zE 96 d Q 1 [some (.inr (.inr w9))] (.inr (.inr w9) :: st) G h k := E_aload_n (by rfl) rfl
theorem e96_1 : zE 96 d Q 1 [l0] (zR (some r) :: st) G h k ↔ (G.2.1 r = 7 ∧ zE 96 d Q 4 [l0] (zI (h r 11) :: st) G h k) := E_getI (by rfl) (by decide)
theorem e96_4 : zE 96 d Q 4 [l0] [zI x] G h k ↔ Q (some (zI x)) G h := E_iret (by rfl) rfl
theorem e97_0 : zE 97 d Q 0 [some (.inr (.inr w9))] st G h k ↔ zE 97 d Q 1 [some (.inr (.inr w9))] (.inr (.inr w9) :: st) G h k := E_aload_n (by rfl) rfl
theorem e97_1 : zE 97 d Q 1 [l0] (zR (some r) :: st) G h k ↔ (G.2.1 r = 7 ∧ zE 97 d Q 4 [l0] (zR (G.2.2.2 r 6) :: st) G h k) := E_getR (by rfl) rfl
theorem e97_4 : zE 97 d Q 4 [l0] (zR (some r) :: st) G h k ↔ (G.2.1 r = 5 ∧ zE 97 d Q 7 [l0] (zI (h r 9) :: st) G h k) := E_getI (by rfl) (by decide)
theorem e97_7 : zE 97 d Q 7 [l0] (zI x :: st) G h k ↔ ((x ≤ 0 → zE 97 d Q 14 [l0] st G h k) ∧ (¬ (x ≤ 0) → zE 97 d Q 10 [l0] st G h k)) := E_if_le (by rfl)
theorem e97_10 : zE 97 d Q 10 [l0] st G h k ↔ zE 97 d Q 11 [l0] (zI 1 :: st) G h k := E_iconst (by rfl)
theorem e97_11 : zE 97 d Q 11 [l0] st G h k ↔ zE 97 d Q 15 [l0] st G h k := E_goto (by rfl)
theorem e97_14 : zE 97 d Q 14 [l0] st G h k ↔ zE 97 d Q 15 [l0] (zI 0 :: st) G h k := E_iconst (by rfl)
theorem e97_15 : zE 97 d Q 15 [l0] [zI x] G h k ↔ ((x = 0 ∨ x = 1) ∧ Q (some (zI x)) G h) := E_zret (by rfl) rfl
theorem e98_0 : zE 98 d Q 0 [l0, some (zI x)] st G h k ↔ zE 98 d Q 1 [l0, some (zI x)] (zI x :: st) G h k := E_iload_n (by rfl) rfl
theorem e98_1 : zE 98 d Q 1 [l0, l1] (zI x :: st) G h k ↔ ((x < 0 → zE 98 d Q 19 [l0, l1] st G h k) ∧ (¬ (x < 0) → zE 98 d Q 4 [l0, l1] st G h k)) := E_if_lt (by rfl)
theorem e98_4 : zE 98 d Q 4 [l0, some (zI x)] st G h k ↔ zE 98 d Q 5 [l0, some (zI x)] (zI x :: st) G h k := E_iload_n (by rfl) rfl
theorem e98_5 : zE 98 d Q 5 [some (.inr (.inr w9)), l1] st G h k ↔ zE 98 d Q 6 [some (.inr (.inr w9)), l1] (.inr (.inr w9) :: st) G h k := E_aload_n (by rfl) rfl
theorem e98_6 : zE 98 d Q 6 [l0, l1] (zR (some r) :: st) G h k ↔ (G.2.1 r = 7 ∧ zE 98 d Q 9 [l0, l1] (zR (G.2.2.2 r 6) :: st) G h k) := E_getR (by rfl) rfl
theorem e98_9 : zE 98 d Q 9 [l0, l1] (zR (some r) :: st) G h k ↔ (G.2.1 r = 5 ∧ zE 98 d Q 12 [l0, l1] (zI (h r 9) :: st) G h k) := E_getI (by rfl) (by decide)
theorem e98_12 : zE 98 d Q 12 [l0, l1] (zI y :: zI x :: st) G h k ↔ ((y ≤ x → zE 98 d Q 19 [l0, l1] st G h k) ∧ (¬ (y ≤ x) → zE 98 d Q 15 [l0, l1] st G h k)) := E_icmp_ge (by rfl)
theorem e98_15 : zE 98 d Q 15 [l0, l1] st G h k ↔ zE 98 d Q 16 [l0, l1] (zI 1 :: st) G h k := E_iconst (by rfl)
theorem e98_16 : zE 98 d Q 16 [l0, l1] st G h k ↔ zE 98 d Q 20 [l0, l1] st G h k := E_goto (by rfl)
theorem e98_19 : zE 98 d Q 19 [l0, l1] st G h k ↔ zE 98 d Q 20 [l0, l1] (zI 0 :: st) G h k := E_iconst (by rfl)
theorem e98_20 : zE 98 d Q 20 [l0, l1] [zI x] G h k ↔ ((x = 0 ∨ x = 1) ∧ Q (some (zI x)) G h) := E_zret (by rfl) rfl
theorem e99_0 : zE 99 d Q 0 [l0, some (zI x)] st G h k ↔ zE 99 d Q 1 [l0, some (zI x)] (zI x :: st) G h k := E_iload_n (by rfl) rfl
theorem e99_1 : zE 99 d Q 1 [l0, l1] (zI x :: st) G h k ↔ ((x < 0 → zE 99 d Q 19 [l0, l1] st G h k) ∧ (¬ (x < 0) → zE 99 d Q 4 [l0, l1] st G h k)) := E_if_lt (by rfl)
theorem e99_4 : zE 99 d Q 4 [l0, some (zI x)] st G h k ↔ zE 99 d Q 5 [l0, some (zI x)] (zI x :: st) G h k := E_iload_n (by rfl) rfl
theorem e99_5 : zE 99 d Q 5 [some (.inr (.inr w9)), l1] st G h k ↔ zE 99 d Q 6 [some (.inr (.inr w9)), l1] (.inr (.inr w9) :: st) G h k := E_aload_n (by rfl) rfl
theorem e99_6 : zE 99 d Q 6 [l0, l1] (zR (some r) :: st) G h k ↔ (G.2.1 r = 7 ∧ zE 99 d Q 9 [l0, l1] (zR (G.2.2.2 r 6) :: st) G h k) := E_getR (by rfl) rfl
theorem e99_9 : zE 99 d Q 9 [l0, l1] (zR (some r) :: st) G h k ↔ (G.2.1 r = 5 ∧ zE 99 d Q 12 [l0, l1] (zI (h r 10) :: st) G h k) := E_getI (by rfl) (by decide)
theorem e99_12 : zE 99 d Q 12 [l0, l1] (zI y :: zI x :: st) G h k ↔ ((y ≤ x → zE 99 d Q 19 [l0, l1] st G h k) ∧ (¬ (y ≤ x) → zE 99 d Q 15 [l0, l1] st G h k)) := E_icmp_ge (by rfl)
theorem e99_15 : zE 99 d Q 15 [l0, l1] st G h k ↔ zE 99 d Q 16 [l0, l1] (zI 1 :: st) G h k := E_iconst (by rfl)
theorem e99_16 : zE 99 d Q 16 [l0, l1] st G h k ↔ zE 99 d Q 20 [l0, l1] st G h k := E_goto (by rfl)
theorem e99_19 : zE 99 d Q 19 [l0, l1] st G h k ↔ zE 99 d Q 20 [l0, l1] (zI 0 :: st) G h k := E_iconst (by rfl)
theorem e99_20 : zE 99 d Q 20 [l0, l1] [zI x] G h k ↔ ((x = 0 ∨ x = 1) ∧ Q (some (zI x)) G h) := E_zret (by rfl) rfl
theorem e100_0 : zE 100 d Q 0 [l0, some (zI x)] st G h k ↔ zE 100 d Q 1 [l0, some (zI x)] (zI x :: st) G h k := E_iload_n (by rfl) rfl
theorem e100_1 : zE 100 d Q 1 [l0, l1] (zI x :: st) G h k ↔ ((x < 0 → zE 100 d Q 19 [l0, l1] st G h k) ∧ (¬ (x < 0) → zE 100 d Q 4 [l0, l1] st G h k)) := E_if_lt (by rfl)
theorem e100_4 : zE 100 d Q 4 [l0, some (zI x)] st G h k ↔ zE 100 d Q 5 [l0, some (zI x)] (zI x :: st) G h k := E_iload_n (by rfl) rfl
theorem e100_5 : zE 100 d Q 5 [some (.inr (.inr w9)), l1] st G h k ↔ zE 100 d Q 6 [some (.inr (.inr w9)), l1] (.inr (.inr w9) :: st) G h k := E_aload_n (by rfl) rfl
theorem e100_6 : zE 100 d Q 6 [l0, l1] (zR (some r) :: st) G h k ↔ (G.2.1 r = 7 ∧ zE 100 d Q 9 [l0, l1] (zR (G.2.2.2 r 6) :: st) G h k) := E_getR (by rfl) rfl
theorem e100_9 : zE 100 d Q 9 [l0, l1] (zR (some r) :: st) G h k ↔ (G.2.1 r = 5 ∧ zE 100 d Q 12 [l0, l1] (zI (h r 11) :: st) G h k) := E_getI (by rfl) (by decide)
theorem e100_12 : zE 100 d Q 12 [l0, l1] (zI y :: zI x :: st) G h k ↔ ((y ≤ x → zE 100 d Q 19 [l0, l1] st G h k) ∧ (¬ (y ≤ x) → zE 100 d Q 15 [l0, l1] st G h k)) := E_icmp_ge (by rfl)
theorem e100_15 : zE 100 d Q 15 [l0, l1] st G h k ↔ zE 100 d Q 16 [l0, l1] (zI 1 :: st) G h k := E_iconst (by rfl)
theorem e100_16 : zE 100 d Q 16 [l0, l1] st G h k ↔ zE 100 d Q 20 [l0, l1] st G h k := E_goto (by rfl)
theorem e100_19 : zE 100 d Q 19 [l0, l1] st G h k ↔ zE 100 d Q 20 [l0, l1] (zI 0 :: st) G h k := E_iconst (by rfl)
theorem e100_20 : zE 100 d Q 20 [l0, l1] [zI x] G h k ↔ ((x = 0 ∨ x = 1) ∧ Q (some (zI x)) G h) := E_zret (by rfl) rfl
theorem e101_0 : zE 101 d Q 0 [l0, some (zI x)] st G h k ↔ zE 101 d Q 1 [l0, some (zI x)] (zI x :: st) G h k := E_iload_n (by rfl) rfl
theorem e101_1 : zE 101 d Q 1 [l0, l1] (zI x :: st) G h k ↔ ((x < 0 → zE 101 d Q 13 [l0, l1] st G h k) ∧ (¬ (x < 0) → zE 101 d Q 4 [l0, l1] st G h k)) := E_if_lt (by rfl)
theorem e101_4 : zE 101 d Q 4 [l0, some (zI x)] st G h k ↔ zE 101 d Q 5 [l0, some (zI x)] (zI x :: st) G h k := E_iload_n (by rfl) rfl
theorem e101_5 : zE 101 d Q 5 [l0, l1] st G h k ↔ zE 101 d Q 6 [l0, l1] (zI 5 :: st) G h k := E_iconst (by rfl)
theorem e101_6 : zE 101 d Q 6 [l0, l1] (zI y :: zI x :: st) G h k ↔ ((y < x → zE 101 d Q 13 [l0, l1] st G h k) ∧ (¬ (y < x) → zE 101 d Q 9 [l0, l1] st G h k)) := E_icmp_gt (by rfl)
theorem e101_9 : zE 101 d Q 9 [l0, l1] st G h k ↔ zE 101 d Q 10 [l0, l1] (zI 1 :: st) G h k := E_iconst (by rfl)
theorem e101_10 : zE 101 d Q 10 [l0, l1] st G h k ↔ zE 101 d Q 14 [l0, l1] st G h k := E_goto (by rfl)
theorem e101_13 : zE 101 d Q 13 [l0, l1] st G h k ↔ zE 101 d Q 14 [l0, l1] (zI 0 :: st) G h k := E_iconst (by rfl)
theorem e101_14 : zE 101 d Q 14 [l0, l1] [zI x] G h k ↔ ((x = 0 ∨ x = 1) ∧ Q (some (zI x)) G h) := E_zret (by rfl) rfl
theorem e102_0 : zE 102 d Q 0 [l0, some (zI x), l2] st G h k ↔ zE 102 d Q 1 [l0, some (zI x), l2] (zI x :: st) G h k := E_iload_n (by rfl) rfl
theorem e102_1 : zE 102 d Q 1 [l0, l1, l2] st G h k ↔ zE 102 d Q 2 [l0, l1, l2] (zI (-1) :: st) G h k := E_iconst (by rfl)
theorem e102_2 : zE 102 d Q 2 [l0, l1, l2] (zI y :: zI x :: st) G h k ↔ ((x = y → zE 102 d Q 13 [l0, l1, l2] st G h k) ∧ (¬ (x = y) → zE 102 d Q 5 [l0, l1, l2] st G h k)) := E_icmp_eq (by rfl)
theorem e102_5 : zE 102 d Q 5 [some (.inr (.inr w9)), l1, l2] st G h k ↔ zE 102 d Q 6 [some (.inr (.inr w9)), l1, l2] (.inr (.inr w9) :: st) G h k := E_aload_n (by rfl) rfl
theorem e102_6 : zE 102 d Q 6 [l0, some (zI x), l2] st G h k ↔ zE 102 d Q 7 [l0, some (zI x), l2] (zI x :: st) G h k := E_iload_n (by rfl) rfl
theorem e102_7 : zE 102 d Q 7 [l0, l1, l2] (v0 :: zR (some r) :: st) G h k ↔ (zsum st ≤ 8 ∧ G.2.1 r = 7 ∧ zRunD ztb zmt' d 98 [zR (some r), v0] G h (fun v G' h' => zE 102 d Q 10 [l0, l1, l2] (v.toList ++ st) G' h' k)) := E_invV2z (by rfl) (by decide) rfl
theorem e102_10 : zE 102 d Q 10 [l0, l1, l2] (zI x :: st) G h k ↔ ((x = 0 → zE 102 d Q 25 [l0, l1, l2] st G h k) ∧ (¬ (x = 0) → zE 102 d Q 13 [l0, l1, l2] st G h k)) := E_if_eq (by rfl)
theorem e102_13 : zE 102 d Q 13 [some (.inr (.inr w9)), l1, l2] st G h k ↔ zE 102 d Q 14 [some (.inr (.inr w9)), l1, l2] (.inr (.inr w9) :: st) G h k := E_aload_n (by rfl) rfl
theorem e102_14 : zE 102 d Q 14 [l0, l1, some (zI x)] st G h k ↔ zE 102 d Q 15 [l0, l1, some (zI x)] (zI x :: st) G h k := E_iload_n (by rfl) rfl
theorem e102_15 : zE 102 d Q 15 [l0, l1, l2] (v0 :: zR (some r) :: st) G h k ↔ (zsum st ≤ 8 ∧ G.2.1 r = 7 ∧ zRunD ztb zmt' d 99 [zR (some r), v0] G h (fun v G' h' => zE 102 d Q 18 [l0, l1, l2] (v.toList ++ st) G' h' k)) := E_invV2z (by rfl) (by decide) rfl
theorem e102_18 : zE 102 d Q 18 [l0, l1, l2] (zI x :: st) G h k ↔ ((x = 0 → zE 102 d Q 25 [l0, l1, l2] st G h k) ∧ (¬ (x = 0) → zE 102 d Q 21 [l0, l1, l2] st G h k)) := E_if_eq (by rfl)
theorem e102_21 : zE 102 d Q 21 [l0, l1, l2] st G h k ↔ zE 102 d Q 22 [l0, l1, l2] (zI 1 :: st) G h k := E_iconst (by rfl)
theorem e102_22 : zE 102 d Q 22 [l0, l1, l2] st G h k ↔ zE 102 d Q 26 [l0, l1, l2] st G h k := E_goto (by rfl)
theorem e102_25 : zE 102 d Q 25 [l0, l1, l2] st G h k ↔ zE 102 d Q 26 [l0, l1, l2] (zI 0 :: st) G h k := E_iconst (by rfl)
theorem e102_26 : zE 102 d Q 26 [l0, l1, l2] [zI x] G h k ↔ ((x = 0 ∨ x = 1) ∧ Q (some (zI x)) G h) := E_zret (by rfl) rfl
theorem e103_0 : zE 103 d Q 0 [l0, some (zI x)] st G h k ↔ zE 103 d Q 1 [l0, some (zI x)] (zI x :: st) G h k := E_iload_n (by rfl) rfl
theorem e103_1 : zE 103 d Q 1 [l0, l1] st G h k ↔ zE 103 d Q 2 [l0, l1] (zI (-1) :: st) G h k := E_iconst (by rfl)
theorem e103_2 : zE 103 d Q 2 [l0, l1] (zI y :: zI x :: st) G h k ↔ ((¬ x = y → zE 103 d Q 9 [l0, l1] st G h k) ∧ (¬ (¬ x = y) → zE 103 d Q 5 [l0, l1] st G h k)) := E_icmp_ne (by rfl)
theorem e103_5 : zE 103 d Q 5 [l0, l1] st G h k ↔ zE 103 d Q 6 [l0, l1] (zI 3 :: st) G h k := E_iconst (by rfl)
theorem e103_6 : zE 103 d Q 6 [l0, l1] st G h k ↔ zE 103 d Q 10 [l0, l1] st G h k := E_goto (by rfl)
theorem e103_9 : zE 103 d Q 9 [l0, some (zI x)] st G h k ↔ zE 103 d Q 10 [l0, some (zI x)] (zI x :: st) G h k := E_iload_n (by rfl) rfl
theorem e103_10 : zE 103 d Q 10 [l0, l1] [zI x] G h k ↔ Q (some (zI x)) G h := E_iret (by rfl) rfl
theorem e104_0 : zE 104 d Q 0 [l0, some (zI x), l2, l3, l4, l5] st G h k ↔ zE 104 d Q 1 [l0, some (zI x), l2, l3, l4, l5] (zI x :: st) G h k := E_iload_n (by rfl) rfl
theorem e104_1 : zE 104 d Q 1 [l0, l1, l2, l3, l4, l5] st G h k ↔ zE 104 d Q 2 [l0, l1, l2, l3, l4, l5] (zI 1 :: st) G h k := E_iconst (by rfl)
theorem e104_2 : zE 104 d Q 2 [l0, l1, l2, l3, l4, l5] (zI y :: zI x :: st) G h k ↔ ((x < y → zE 104 d Q 10 [l0, l1, l2, l3, l4, l5] st G h k) ∧ (¬ (x < y) → zE 104 d Q 5 [l0, l1, l2, l3, l4, l5] st G h k)) := E_icmp_lt (by rfl)
theorem e104_5 : zE 104 d Q 5 [l0, some (zI x), l2, l3, l4, l5] st G h k ↔ zE 104 d Q 6 [l0, some (zI x), l2, l3, l4, l5] (zI x :: st) G h k := E_iload_n (by rfl) rfl
theorem e104_6 : zE 104 d Q 6 [l0, l1, l2, l3, l4, l5] st G h k ↔ zE 104 d Q 7 [l0, l1, l2, l3, l4, l5] (zI 3 :: st) G h k := E_iconst (by rfl)
theorem e104_7 : zE 104 d Q 7 [l0, l1, l2, l3, l4, l5] (zI y :: zI x :: st) G h k ↔ ((x ≤ y → zE 104 d Q 12 [l0, l1, l2, l3, l4, l5] st G h k) ∧ (¬ (x ≤ y) → zE 104 d Q 10 [l0, l1, l2, l3, l4, l5] st G h k)) := E_icmp_le (by rfl)
theorem e104_10 : zE 104 d Q 10 [l0, l1, l2, l3, l4, l5] st G h k ↔ zE 104 d Q 11 [l0, l1, l2, l3, l4, l5] (zI 2 :: st) G h k := E_iconst (by rfl)
theorem e104_11 : zE 104 d Q 11 [l0, l1, l2, l3, l4, l5] [zI x] G h k ↔ Q (some (zI x)) G h := E_iret (by rfl) rfl
theorem e104_12 : zE 104 d Q 12 [l0, l1, some (zI x), l3, l4, l5] st G h k ↔ zE 104 d Q 13 [l0, l1, some (zI x), l3, l4, l5] (zI x :: st) G h k := E_iload_n (by rfl) rfl
theorem e104_13 : zE 104 d Q 13 [l0, l1, l2, l3, l4, l5] st G h k ↔ zE 104 d Q 14 [l0, l1, l2, l3, l4, l5] (zI 1 :: st) G h k := E_iconst (by rfl)
theorem e104_14 : zE 104 d Q 14 [l0, l1, l2, l3, l4, l5] (zI y :: zI x :: st) G h k ↔ ((¬ x = y → zE 104 d Q 27 [l0, l1, l2, l3, l4, l5] st G h k) ∧ (¬ (¬ x = y) → zE 104 d Q 17 [l0, l1, l2, l3, l4, l5] st G h k)) := E_icmp_ne (by rfl)
theorem e104_17 : zE 104 d Q 17 [some (.inr (.inr w9)), l1, l2, l3, l4, l5] st G h k ↔ zE 104 d Q 18 [some (.inr (.inr w9)), l1, l2, l3, l4, l5] (.inr (.inr w9) :: st) G h k := E_aload_n (by rfl) rfl
theorem e104_18 : zE 104 d Q 18 [l0, l1, l2, l3, l4, l5] (zR (some r) :: st) G h k ↔ (G.2.1 r = 7 ∧ zE 104 d Q 21 [l0, l1, l2, l3, l4, l5] (zR (G.2.2.2 r 6) :: st) G h k) := E_getR (by rfl) rfl
theorem e104_21 : zE 104 d Q 21 [l0, l1, l2, l3, l4, l5] (zR (some r) :: st) G h k ↔ (G.2.1 r = 5 ∧ zE 104 d Q 24 [l0, l1, l2, l3, l4, l5] (zI (h r 11) :: st) G h k) := E_getI (by rfl) (by decide)
theorem e104_24 : zE 104 d Q 24 [l0, l1, l2, l3, l4, l5] st G h k ↔ zE 104 d Q 34 [l0, l1, l2, l3, l4, l5] st G h k := E_goto (by rfl)
theorem e104_27 : zE 104 d Q 27 [some (.inr (.inr w9)), l1, l2, l3, l4, l5] st G h k ↔ zE 104 d Q 28 [some (.inr (.inr w9)), l1, l2, l3, l4, l5] (.inr (.inr w9) :: st) G h k := E_aload_n (by rfl) rfl
theorem e104_28 : zE 104 d Q 28 [l0, l1, l2, l3, l4, l5] (zR (some r) :: st) G h k ↔ (G.2.1 r = 7 ∧ zE 104 d Q 31 [l0, l1, l2, l3, l4, l5] (zR (G.2.2.2 r 6) :: st) G h k) := E_getR (by rfl) rfl
theorem e104_31 : zE 104 d Q 31 [l0, l1, l2, l3, l4, l5] (zR (some r) :: st) G h k ↔ (zsum st ≤ 8 ∧ G.2.1 r = 5 ∧ zRunD ztb zmt' d 48 [zR (some r)] G h (fun v G' h' => zE 104 d Q 34 [l0, l1, l2, l3, l4, l5] (v.toList ++ st) G' h' k)) := E_invV2z (by rfl) (by decide) rfl
theorem e104_34 : zE 104 d Q 34 [l0, l1, l2, l3, l4, l5] (zI x :: st) G h k ↔ zE 104 d Q 35 [l0, l1, (zclr l2), some (zI x), l4, l5] st G h k := E_istore_n (by rfl) (by decide)
theorem e104_35 : zE 104 d Q 35 [l0, l1, l2, l3, l4, l5] st G h k ↔ zE 104 d Q 36 [l0, l1, l2, l3, l4, l5] (zI 1 :: st) G h k := E_iconst (by rfl)
theorem e104_36 : zE 104 d Q 36 [l0, l1, l2, l3, l4, l5] (zI x :: st) G h k ↔ zE 104 d Q 38 [l0, l1, l2, (zclr l3), some (zI x), l5] st G h k := E_istore (by rfl) (by decide)
theorem e104_38 : zE 104 d Q 38 [l0, l1, l2, l3, l4, l5] st G h k ↔ zE 104 d Q 39 [l0, l1, l2, l3, l4, l5] (zI 0 :: st) G h k := E_iconst (by rfl)
theorem e104_39 : zE 104 d Q 39 [l0, l1, l2, l3, l4, l5] (zI x :: st) G h k ↔ zE 104 d Q 41 [l0, l1, l2, l3, (zclr l4), some (zI x)] st G h k := E_istore (by rfl) (by decide)
theorem e104_41 : zE 104 d Q 41 [l0, l1, l2, l3, l4, some (zI x)] st G h k ↔ zE 104 d Q 43 [l0, l1, l2, l3, l4, some (zI x)] (zI x :: st) G h k := E_iload (by rfl) rfl
theorem e104_43 : zE 104 d Q 43 [l0, some (zI x), l2, l3, l4, l5] st G h k ↔ zE 104 d Q 44 [l0, some (zI x), l2, l3, l4, l5] (zI x :: st) G h k := E_iload_n (by rfl) rfl
theorem e104_44 : zE 104 d Q 44 [some (.inr (.inr w9)), l1, l2, l3, l4, l5] st G h k ↔ zE 104 d Q 45 [some (.inr (.inr w9)), l1, l2, l3, l4, l5] (.inr (.inr w9) :: st) G h k := E_aload_n (by rfl) rfl
theorem e104_45 : zE 104 d Q 45 [l0, l1, l2, l3, l4, l5] (zR (some r) :: st) G h k ↔ (G.2.1 r = 7 ∧ zE 104 d Q 48 [l0, l1, l2, l3, l4, l5] (zR (G.2.2.2 r 6) :: st) G h k) := E_getR (by rfl) rfl
theorem e104_48 : zE 104 d Q 48 [l0, l1, l2, l3, l4, l5] (zR (some r) :: st) G h k ↔ (G.2.1 r = 5 ∧ zE 104 d Q 51 [l0, l1, l2, l3, l4, l5] (zI (h r 9) :: st) G h k) := E_getI (by rfl) (by decide)
theorem e104_51 : zE 104 d Q 51 [l0, l1, l2, l3, l4, l5] (zI y :: zI x :: st) G h k ↔ zE 104 d Q 52 [l0, l1, l2, l3, l4, l5] (zI (wr (x * y)) :: st) G h k := E_imul (by rfl)
theorem e104_52 : zE 104 d Q 52 [l0, l1, l2, l3, l4, l5] (zI y :: zI x :: st) G h k ↔ ((y ≤ x → zE 104 d Q 77 [l0, l1, l2, l3, l4, l5] st G h k) ∧ (¬ (y ≤ x) → zE 104 d Q 55 [l0, l1, l2, l3, l4, l5] st G h k)) := E_icmp_ge (by rfl)
theorem e104_55 : zE 104 d Q 55 [l0, l1, l2, l3, some (zI x), l5] st G h k ↔ zE 104 d Q 57 [l0, l1, l2, l3, some (zI x), l5] (zI x :: st) G h k := E_iload (by rfl) rfl
theorem e104_57 : zE 104 d Q 57 [l0, l1, l2, some (zI x), l4, l5] st G h k ↔ zE 104 d Q 58 [l0, l1, l2, some (zI x), l4, l5] (zI x :: st) G h k := E_iload_n (by rfl) rfl
theorem e104_58 : zE 104 d Q 58 [l0, l1, l2, l3, l4, l5] (zI y :: zI x :: st) G h k ↔ zE 104 d Q 59 [l0, l1, l2, l3, l4, l5] (zI (wr (x * y)) :: st) G h k := E_imul (by rfl)
theorem e104_59 : zE 104 d Q 59 [l0, l1, l2, l3, l4, l5] (zI x :: st) G h k ↔ zE 104 d Q 61 [l0, l1, l2, (zclr l3), some (zI x), l5] st G h k := E_istore (by rfl) (by decide)
theorem e104_61 : zE 104 d Q 61 [l0, l1, l2, l3, some (zI x), l5] st G h k ↔ zE 104 d Q 63 [l0, l1, l2, l3, some (zI x), l5] (zI x :: st) G h k := E_iload (by rfl) rfl
theorem e104_63 : zE 104 d Q 63 [l0, l1, l2, l3, l4, l5] st G h k ↔ zE 104 d Q 66 [l0, l1, l2, l3, l4, l5] (zI 20000 :: st) G h k := E_sipush (by rfl)
theorem e104_66 : zE 104 d Q 66 [l0, l1, l2, l3, l4, l5] (zI y :: zI x :: st) G h k ↔ ((x ≤ y → zE 104 d Q 71 [l0, l1, l2, l3, l4, l5] st G h k) ∧ (¬ (x ≤ y) → zE 104 d Q 69 [l0, l1, l2, l3, l4, l5] st G h k)) := E_icmp_le (by rfl)
theorem e104_69 : zE 104 d Q 69 [l0, l1, l2, l3, l4, l5] st G h k ↔ zE 104 d Q 70 [l0, l1, l2, l3, l4, l5] (zI 3 :: st) G h k := E_iconst (by rfl)
theorem e104_70 : zE 104 d Q 70 [l0, l1, l2, l3, l4, l5] [zI x] G h k ↔ Q (some (zI x)) G h := E_iret (by rfl) rfl
theorem e104_71 : zE 104 d Q 71 [l0, l1, l2, l3, l4, some (zI x)] st G h k ↔ zE 104 d Q 74 [l0, l1, l2, l3, (zclr l4), some (zI (wr (x + 1)))] st G h k := E_iinc (by rfl) rfl
theorem e104_74 : zE 104 d Q 74 [l0, l1, l2, l3, l4, l5] st G h k ↔ zE 104 d Q 41 [l0, l1, l2, l3, l4, l5] st G h k := E_goto (by rfl)
theorem e104_77 : zE 104 d Q 77 [l0, l1, l2, l3, l4, l5] st G h k ↔ zE 104 d Q 78 [l0, l1, l2, l3, l4, l5] (zI 0 :: st) G h k := E_iconst (by rfl)
theorem e104_78 : zE 104 d Q 78 [l0, l1, l2, l3, l4, l5] [zI x] G h k ↔ Q (some (zI x)) G h := E_iret (by rfl) rfl
theorem e105_0 : zE 105 d Q 0 [some (.inr (.inr w9)), l1, l2] st G h k ↔ zE 105 d Q 1 [some (.inr (.inr w9)), l1, l2] (.inr (.inr w9) :: st) G h k := E_aload_n (by rfl) rfl
theorem e105_1 : zE 105 d Q 1 [l0, some (zI x), l2] st G h k ↔ zE 105 d Q 2 [l0, some (zI x), l2] (zI x :: st) G h k := E_iload_n (by rfl) rfl
theorem e105_2 : zE 105 d Q 2 [l0, l1, l2] (v0 :: zR (some r) :: st) G h k ↔ (zsum st ≤ 8 ∧ G.2.1 r = 7 ∧ zRunD ztb zmt' d 98 [zR (some r), v0] G h (fun v G' h' => zE 105 d Q 5 [l0, l1, l2] (v.toList ++ st) G' h' k)) := E_invV2z (by rfl) (by decide) rfl
theorem e105_5 : zE 105 d Q 5 [l0, l1, l2] (zI x :: st) G h k ↔ ((x = 0 → zE 105 d Q 17 [l0, l1, l2] st G h k) ∧ (¬ (x = 0) → zE 105 d Q 8 [l0, l1, l2] st G h k)) := E_if_eq (by rfl)
theorem e105_8 : zE 105 d Q 8 [l0, l1, some (zI x)] st G h k ↔ zE 105 d Q 9 [l0, l1, some (zI x)] (zI x :: st) G h k := E_iload_n (by rfl) rfl
theorem e105_9 : zE 105 d Q 9 [l0, l1, l2] (zI x :: st) G h k ↔ ((x < 0 → zE 105 d Q 17 [l0, l1, l2] st G h k) ∧ (¬ (x < 0) → zE 105 d Q 12 [l0, l1, l2] st G h k)) := E_if_lt (by rfl)
theorem e105_12 : zE 105 d Q 12 [l0, l1, some (zI x)] st G h k ↔ zE 105 d Q 13 [l0, l1, some (zI x)] (zI x :: st) G h k := E_iload_n (by rfl) rfl
theorem e105_13 : zE 105 d Q 13 [l0, l1, l2] st G h k ↔ zE 105 d Q 14 [l0, l1, l2] (zI 1 :: st) G h k := E_iconst (by rfl)
theorem e105_14 : zE 105 d Q 14 [l0, l1, l2] (zI y :: zI x :: st) G h k ↔ ((x ≤ y → zE 105 d Q 19 [l0, l1, l2] st G h k) ∧ (¬ (x ≤ y) → zE 105 d Q 17 [l0, l1, l2] st G h k)) := E_icmp_le (by rfl)
theorem e105_17 : zE 105 d Q 17 [l0, l1, l2] st G h k ↔ zE 105 d Q 18 [l0, l1, l2] (zI 1 :: st) G h k := E_iconst (by rfl)
theorem e105_18 : zE 105 d Q 18 [l0, l1, l2] [zI x] G h k ↔ Q (some (zI x)) G h := E_iret (by rfl) rfl
theorem e105_19 : zE 105 d Q 19 [some (.inr (.inr w9)), l1, l2] st G h k ↔ zE 105 d Q 20 [some (.inr (.inr w9)), l1, l2] (.inr (.inr w9) :: st) G h k := E_aload_n (by rfl) rfl
theorem e105_20 : zE 105 d Q 20 [l0, l1, l2] (zR (some r) :: st) G h k ↔ (G.2.1 r = 7 ∧ zE 105 d Q 23 [l0, l1, l2] (zR (G.2.2.2 r 10) :: st) G h k) := E_getR (by rfl) rfl
theorem e105_23 : zE 105 d Q 23 [l0, l1, l2] (zR (some r) :: st) G h k ↔ (G.2.1 r = 2 ∧ zE 105 d Q 26 [l0, l1, l2] (zI (h r 0) :: st) G h k) := E_getI (by rfl) (by decide)
theorem e105_26 : zE 105 d Q 26 [l0, l1, l2] (zI x :: st) G h k ↔ ((x = 0 → zE 105 d Q 33 [l0, l1, l2] st G h k) ∧ (¬ (x = 0) → zE 105 d Q 29 [l0, l1, l2] st G h k)) := E_if_eq (by rfl)
theorem e105_29 : zE 105 d Q 29 [l0, l1, l2] st G h k ↔ zE 105 d Q 30 [l0, l1, l2] (zI 0 :: st) G h k := E_iconst (by rfl)
theorem e105_30 : zE 105 d Q 30 [l0, l1, l2] st G h k ↔ zE 105 d Q 35 [l0, l1, l2] st G h k := E_goto (by rfl)
theorem e105_33 : zE 105 d Q 33 [l0, l1, l2] st G h k ↔ zE 105 d Q 35 [l0, l1, l2] (zI 6 :: st) G h k := E_bipush (by rfl)
theorem e105_35 : zE 105 d Q 35 [l0, l1, l2] [zI x] G h k ↔ Q (some (zI x)) G h := E_iret (by rfl) rfl
theorem e106_0 : zE 106 d Q 0 [l0, l1, l2] st G h k ↔ zE 106 d Q 1 [l0, l1, l2] (zI 0 :: st) G h k := E_iconst (by rfl)
theorem e106_1 : zE 106 d Q 1 [l0, l1, l2] (zI x :: st) G h k ↔ zE 106 d Q 2 [(zclr l0), some (zI x), l2] st G h k := E_istore_n (by rfl) (by decide)
theorem e106_2 : zE 106 d Q 2 [l0, some (zI x), l2] st G h k ↔ zE 106 d Q 3 [l0, some (zI x), l2] (zI x :: st) G h k := E_iload_n (by rfl) rfl
theorem e106_3 : zE 106 d Q 3 [some (.inr (.inr w9)), l1, l2] st G h k ↔ zE 106 d Q 4 [some (.inr (.inr w9)), l1, l2] (.inr (.inr w9) :: st) G h k := E_aload_n (by rfl) rfl
theorem e106_4 : zE 106 d Q 4 [l0, l1, l2] (zR (some r) :: st) G h k ↔ (G.2.1 r = 7 ∧ zE 106 d Q 7 [l0, l1, l2] (zR (G.2.2.2 r 6) :: st) G h k) := E_getR (by rfl) rfl
theorem e106_7 : zE 106 d Q 7 [l0, l1, l2] (zR (some r) :: st) G h k ↔ (G.2.1 r = 5 ∧ zE 106 d Q 10 [l0, l1, l2] (zI (h r 9) :: st) G h k) := E_getI (by rfl) (by decide)
theorem e106_10 : zE 106 d Q 10 [l0, l1, l2] (zI y :: zI x :: st) G h k ↔ ((y ≤ x → zE 106 d Q 54 [l0, l1, l2] st G h k) ∧ (¬ (y ≤ x) → zE 106 d Q 13 [l0, l1, l2] st G h k)) := E_icmp_ge (by rfl)
theorem e106_13 : zE 106 d Q 13 [some (.inr (.inr w9)), l1, l2] st G h k ↔ zE 106 d Q 14 [some (.inr (.inr w9)), l1, l2] (.inr (.inr w9) :: st) G h k := E_aload_n (by rfl) rfl
theorem e106_14 : zE 106 d Q 14 [l0, l1, l2] (zR (some r) :: st) G h k ↔ (G.2.1 r = 7 ∧ zE 106 d Q 17 [l0, l1, l2] (zR (G.2.2.2 r 7) :: st) G h k) := E_getR (by rfl) rfl
theorem e106_17 : zE 106 d Q 17 [l0, some (zI x), l2] st G h k ↔ zE 106 d Q 18 [l0, some (zI x), l2] (zI x :: st) G h k := E_iload_n (by rfl) rfl
theorem e106_18 : zE 106 d Q 18 [l0, l1, l2] (v0 :: zR (some r) :: st) G h k ↔ (zsum st ≤ 8 ∧ G.2.1 r = 0 ∧ zRunD ztb zmt' d 3 [zR (some r), v0] G h (fun v G' h' => zE 106 d Q 21 [l0, l1, l2] (v.toList ++ st) G' h' k)) := E_invV2z (by rfl) (by decide) rfl
theorem e106_21 : zE 106 d Q 21 [l0, l1, l2] (zI x :: st) G h k ↔ zE 106 d Q 22 [l0, (zclr l1), some (zI x)] st G h k := E_istore_n (by rfl) (by decide)
theorem e106_22 : zE 106 d Q 22 [some (.inr (.inr w9)), l1, l2] st G h k ↔ zE 106 d Q 23 [some (.inr (.inr w9)), l1, l2] (.inr (.inr w9) :: st) G h k := E_aload_n (by rfl) rfl
theorem e106_23 : zE 106 d Q 23 [l0, l1, l2] (zR (some r) :: st) G h k ↔ (G.2.1 r = 7 ∧ zE 106 d Q 26 [l0, l1, l2] (zR (G.2.2.2 r 5) :: st) G h k) := E_getR (by rfl) rfl
theorem e106_26 : zE 106 d Q 26 [l0, some (zI x), l2] st G h k ↔ zE 106 d Q 27 [l0, some (zI x), l2] (zI x :: st) G h k := E_iload_n (by rfl) rfl
theorem e106_27 : zE 106 d Q 27 [some (.inr (.inr w9)), l1, l2] st G h k ↔ zE 106 d Q 28 [some (.inr (.inr w9)), l1, l2] (.inr (.inr w9) :: st) G h k := E_aload_n (by rfl) rfl
theorem e106_28 : zE 106 d Q 28 [l0, l1, l2] (zR (some r) :: st) G h k ↔ (G.2.1 r = 7 ∧ zE 106 d Q 31 [l0, l1, l2] (zR (G.2.2.2 r 7) :: st) G h k) := E_getR (by rfl) rfl
theorem e106_31 : zE 106 d Q 31 [l0, l1, l2] (zR (some r) :: st) G h k ↔ (G.2.1 r = 0 ∧ zE 106 d Q 34 [l0, l1, l2] (zR (G.2.2.2 r 2) :: st) G h k) := E_getR (by rfl) rfl
theorem e106_34 : zE 106 d Q 34 [l0, l1, some (zI x)] st G h k ↔ zE 106 d Q 35 [l0, l1, some (zI x)] (zI x :: st) G h k := E_iload_n (by rfl) rfl
theorem e106_35 : zE 106 d Q 35 [l0, l1, l2] (zI i :: zR (some r) :: st) G h k ↔ (G.2.1 r = 10 ∧ (0 ≤ i ∧ i < G.2.2.1 r) ∧ zE 106 d Q 36 [l0, l1, l2] (zI (h r i.toNat) :: st) G h k) := E_iaload (by rfl)
theorem e106_36 : zE 106 d Q 36 [some (.inr (.inr w9)), l1, l2] st G h k ↔ zE 106 d Q 37 [some (.inr (.inr w9)), l1, l2] (.inr (.inr w9) :: st) G h k := E_aload_n (by rfl) rfl
theorem e106_37 : zE 106 d Q 37 [l0, l1, l2] (zR (some r) :: st) G h k ↔ (G.2.1 r = 7 ∧ zE 106 d Q 40 [l0, l1, l2] (zR (G.2.2.2 r 7) :: st) G h k) := E_getR (by rfl) rfl
theorem e106_40 : zE 106 d Q 40 [l0, l1, l2] (zR (some r) :: st) G h k ↔ (G.2.1 r = 0 ∧ zE 106 d Q 43 [l0, l1, l2] (zR (G.2.2.2 r 3) :: st) G h k) := E_getR (by rfl) rfl
theorem e106_43 : zE 106 d Q 43 [l0, l1, some (zI x)] st G h k ↔ zE 106 d Q 44 [l0, l1, some (zI x)] (zI x :: st) G h k := E_iload_n (by rfl) rfl
theorem e106_44 : zE 106 d Q 44 [l0, l1, l2] (zI i :: zR (some r) :: st) G h k ↔ (G.2.1 r = 10 ∧ (0 ≤ i ∧ i < G.2.2.1 r) ∧ zE 106 d Q 45 [l0, l1, l2] (zI (h r i.toNat) :: st) G h k) := E_iaload (by rfl)
theorem e106_45 : zE 106 d Q 45 [l0, l1, l2] (v2 :: v1 :: v0 :: zR (some r) :: st) G h k ↔ (zsum st ≤ 8 ∧ G.2.1 r = 1 ∧ zRunD ztb zmt' d 6 [zR (some r), v0, v1, v2] G h (fun v G' h' => zE 106 d Q 48 [l0, l1, l2] (v.toList ++ st) G' h' k)) := E_invV2z (by rfl) (by decide) rfl
theorem e106_48 : zE 106 d Q 48 [l0, some (zI x), l2] st G h k ↔ zE 106 d Q 51 [(zclr l0), some (zI (wr (x + 1))), l2] st G h k := E_iinc (by rfl) rfl
theorem e106_51 : zE 106 d Q 51 [l0, l1, l2] st G h k ↔ zE 106 d Q 2 [l0, l1, l2] st G h k := E_goto (by rfl)
theorem e106_54 : zE 106 d Q 54 [l0, l1, l2] [] G h k ↔ Q none G h := E_vret (by rfl) rfl
theorem e107_0 : zE 107 d Q 0 [some (.inr (.inr w9))] st G h k ↔ zE 107 d Q 1 [some (.inr (.inr w9))] (.inr (.inr w9) :: st) G h k := E_aload_n (by rfl) rfl
theorem e107_1 : zE 107 d Q 1 [l0] (zR (some r) :: st) G h k ↔ (zsum st ≤ 8 ∧ G.2.1 r = 7 ∧ zRunD ztb zmt' d 106 [zR (some r)] G h (fun v G' h' => zE 107 d Q 4 [l0] (v.toList ++ st) G' h' k)) := E_invV2z (by rfl) (by decide) rfl
theorem e107_4 : zE 107 d Q 4 [some (.inr (.inr w9))] st G h k ↔ zE 107 d Q 5 [some (.inr (.inr w9))] (.inr (.inr w9) :: st) G h k := E_aload_n (by rfl) rfl
theorem e107_5 : zE 107 d Q 5 [l0] (zR (some r) :: st) G h k ↔ (G.2.1 r = 7 ∧ zE 107 d Q 8 [l0] (zR (G.2.2.2 r 4) :: st) G h k) := E_getR (by rfl) rfl
theorem e107_8 : zE 107 d Q 8 [l0] (zR (some r) :: st) G h k ↔ (zsum st ≤ 8 ∧ G.2.1 r = 6 ∧ zRunD ztb zmt' d 53 [zR (some r)] G h (fun v G' h' => zE 107 d Q 11 [l0] (v.toList ++ st) G' h' k)) := E_invV2z (by rfl) (by decide) rfl
theorem e107_11 : zE 107 d Q 11 [l0] [] G h k ↔ Q none G h := E_vret (by rfl) rfl
theorem e108_0 : zE 108 d Q 0 [some (.inr (.inr w9)), l1, l2] st G h k ↔ zE 108 d Q 1 [some (.inr (.inr w9)), l1, l2] (.inr (.inr w9) :: st) G h k := E_aload_n (by rfl) rfl
theorem e108_1 : zE 108 d Q 1 [l0, l1, l2] (zR (some r) :: st) G h k ↔ (G.2.1 r = 7 ∧ zE 108 d Q 4 [l0, l1, l2] (zR (G.2.2.2 r 9) :: st) G h k) := E_getR (by rfl) rfl
theorem e108_4 : zE 108 d Q 4 [some (.inr (.inr w9)), l1, l2] st G h k ↔ zE 108 d Q 5 [some (.inr (.inr w9)), l1, l2] (.inr (.inr w9) :: st) G h k := E_aload_n (by rfl) rfl
theorem e108_5 : zE 108 d Q 5 [l0, l1, l2] (zR (some r) :: st) G h k ↔ (G.2.1 r = 7 ∧ zE 108 d Q 8 [l0, l1, l2] (zR (G.2.2.2 r 6) :: st) G h k) := E_getR (by rfl) rfl
theorem e108_8 : zE 108 d Q 8 [l0, some (zI x), l2] st G h k ↔ zE 108 d Q 9 [l0, some (zI x), l2] (zI x :: st) G h k := E_iload_n (by rfl) rfl
theorem e108_9 : zE 108 d Q 9 [l0, l1, l2] (v1 :: v0 :: zR (some r) :: st) G h k ↔ (zsum st ≤ 8 ∧ G.2.1 r = 4 ∧ zRunD ztb zmt' d 32 [zR (some r), v0, v1] G h (fun v G' h' => zE 108 d Q 12 [l0, l1, l2] (v.toList ++ st) G' h' k)) := E_invV2z (by rfl) (by decide) rfl
theorem e108_12 : zE 108 d Q 12 [some (.inr (.inr w9)), l1, l2] st G h k ↔ zE 108 d Q 13 [some (.inr (.inr w9)), l1, l2] (.inr (.inr w9) :: st) G h k := E_aload_n (by rfl) rfl
theorem e108_13 : zE 108 d Q 13 [l0, l1, l2] (zR (some r) :: st) G h k ↔ (G.2.1 r = 7 ∧ zE 108 d Q 16 [l0, l1, l2] (zR (G.2.2.2 r 7) :: st) G h k) := E_getR (by rfl) rfl
theorem e108_16 : zE 108 d Q 16 [l0, l1, l2] (zR (some r) :: st) G h k ↔ (G.2.1 r = 0 ∧ zE 108 d Q 19 [l0, l1, l2] (zR (G.2.2.2 r 1) :: st) G h k) := E_getR (by rfl) rfl
theorem e108_19 : zE 108 d Q 19 [some (.inr (.inr w9)), l1, l2] st G h k ↔ zE 108 d Q 20 [some (.inr (.inr w9)), l1, l2] (.inr (.inr w9) :: st) G h k := E_aload_n (by rfl) rfl
theorem e108_20 : zE 108 d Q 20 [l0, l1, l2] (zR (some r) :: st) G h k ↔ (G.2.1 r = 7 ∧ zE 108 d Q 23 [l0, l1, l2] (zR (G.2.2.2 r 7) :: st) G h k) := E_getR (by rfl) rfl
theorem e108_23 : zE 108 d Q 23 [l0, l1, l2] (zR (some r) :: st) G h k ↔ (G.2.1 r = 0 ∧ zE 108 d Q 26 [l0, l1, l2] (zI (h r 0) :: st) G h k) := E_getI (by rfl) (by decide)
theorem e108_26 : zE 108 d Q 26 [l0, l1, l2] st G h k ↔ zE 108 d Q 28 [l0, l1, l2] (zI 12 :: st) G h k := E_bipush (by rfl)
theorem e108_28 : zE 108 d Q 28 [l0, l1, l2] (zI y :: zI x :: st) G h k ↔ zE 108 d Q 29 [l0, l1, l2] (zI (wr (x * y)) :: st) G h k := E_imul (by rfl)
theorem e108_29 : zE 108 d Q 29 [some (.inr (.inr w9)), l1, l2] st G h k ↔ zE 108 d Q 30 [some (.inr (.inr w9)), l1, l2] (.inr (.inr w9) :: st) G h k := E_aload_n (by rfl) rfl
theorem e108_30 : zE 108 d Q 30 [l0, l1, l2] (zR (some r) :: st) G h k ↔ (G.2.1 r = 7 ∧ zE 108 d Q 33 [l0, l1, l2] (zR (G.2.2.2 r 9) :: st) G h k) := E_getR (by rfl) rfl
theorem e108_33 : zE 108 d Q 33 [l0, l1, l2] (zR (some r) :: st) G h k ↔ (G.2.1 r = 4 ∧ zE 108 d Q 36 [l0, l1, l2] (zR (G.2.2.2 r 10) :: st) G h k) := E_getR (by rfl) rfl
theorem e108_36 : zE 108 d Q 36 [l0, l1, some (zI x)] st G h k ↔ zE 108 d Q 37 [l0, l1, some (zI x)] (zI x :: st) G h k := E_iload_n (by rfl) rfl
theorem e108_37 : zE 108 d Q 37 [l0, l1, l2] (zI i :: zR (some r) :: st) G h k ↔ (G.2.1 r = 14 ∧ (0 ≤ i ∧ i < G.2.2.1 r) ∧ zE 108 d Q 38 [l0, l1, l2] (zR (G.2.2.2 r i.toNat) :: st) G h k) := E_aaload (by rfl) (by decide)
theorem e108_38 : zE 108 d Q 38 [l0, l1, l2] st G h k ↔ zE 108 d Q 39 [l0, l1, l2] (zI 0 :: st) G h k := E_iconst (by rfl)
theorem e108_39 : zE 108 d Q 39 [l0, l1, l2] st G h k ↔ zE 108 d Q 41 [l0, l1, l2] (zI 12 :: st) G h k := E_bipush (by rfl)
theorem e108_41 : zE 108 d Q 41 [l0, l1, l2] (zI i :: zI y :: zR (some r2) :: zI x :: zR (some r1) :: st) G h k ↔ (zsum st ≤ 8 ∧ G.2.1 r1 = 10 ∧ G.2.1 r2 = 10 ∧ 0 ≤ x ∧ 0 ≤ y ∧ 0 ≤ i ∧ x + i ≤ G.2.2.1 r1 ∧ y + i ≤ G.2.2.1 r2 ∧ zE 108 d Q 44 [l0, l1, l2] st G (zcp h r1 x.toNat r2 y.toNat i.toNat) k) := E_copy2 (by rfl) rfl (by decide)
theorem e108_44 : zE 108 d Q 44 [l0, l1, l2] [] G h k ↔ Q none G h := E_vret (by rfl) rfl
theorem e109_0 : zE 109 d Q 0 [some (.inr (.inr w9)), l1, l2] st G h k ↔ zE 109 d Q 1 [some (.inr (.inr w9)), l1, l2] (.inr (.inr w9) :: st) G h k := E_aload_n (by rfl) rfl
theorem e109_1 : zE 109 d Q 1 [l0, l1, l2] (zR (some r) :: st) G h k ↔ (G.2.1 r = 7 ∧ zE 109 d Q 4 [l0, l1, l2] (zR (G.2.2.2 r 9) :: st) G h k) := E_getR (by rfl) rfl
theorem e109_4 : zE 109 d Q 4 [l0, l1, some (zI x)] st G h k ↔ zE 109 d Q 5 [l0, l1, some (zI x)] (zI x :: st) G h k := E_iload_n (by rfl) rfl
theorem e109_5 : zE 109 d Q 5 [l0, l1, l2] (v0 :: zR (some r) :: st) G h k ↔ (zsum st ≤ 8 ∧ G.2.1 r = 4 ∧ zRunD ztb zmt' d 35 [zR (some r), v0] G h (fun v G' h' => zE 109 d Q 8 [l0, l1, l2] (v.toList ++ st) G' h' k)) := E_invV2z (by rfl) (by decide) rfl
theorem e109_8 : zE 109 d Q 8 [some (.inr (.inr w9)), l1, l2] st G h k ↔ zE 109 d Q 9 [some (.inr (.inr w9)), l1, l2] (.inr (.inr w9) :: st) G h k := E_aload_n (by rfl) rfl
theorem e109_9 : zE 109 d Q 9 [l0, l1, l2] (zR (some r) :: st) G h k ↔ (G.2.1 r = 7 ∧ zE 109 d Q 12 [l0, l1, l2] (zR (G.2.2.2 r 9) :: st) G h k) := E_getR (by rfl) rfl
theorem e109_12 : zE 109 d Q 12 [l0, l1, some (zI x)] st G h k ↔ zE 109 d Q 13 [l0, l1, some (zI x)] (zI x :: st) G h k := E_iload_n (by rfl) rfl
theorem e109_13 : zE 109 d Q 13 [l0, l1, l2] (v0 :: zR (some r) :: st) G h k ↔ (zsum st ≤ 8 ∧ G.2.1 r = 4 ∧ zRunD ztb zmt' d 40 [zR (some r), v0] G h (fun v G' h' => zE 109 d Q 16 [l0, l1, l2] (v.toList ++ st) G' h' k)) := E_invV2z (by rfl) (by decide) rfl
theorem e109_16 : zE 109 d Q 16 [l0, l1, l2] (zI x :: st) G h k ↔ zE 109 d Q 17 [l0, l1, l2] st G h k := E_pop (by rfl) rfl
theorem e109_17 : zE 109 d Q 17 [some (.inr (.inr w9)), l1, l2] st G h k ↔ zE 109 d Q 18 [some (.inr (.inr w9)), l1, l2] (.inr (.inr w9) :: st) G h k := E_aload_n (by rfl) rfl
theorem e109_18 : zE 109 d Q 18 [l0, l1, l2] (zR (some r) :: st) G h k ↔ (G.2.1 r = 7 ∧ zE 109 d Q 21 [l0, l1, l2] (zR (G.2.2.2 r 9) :: st) G h k) := E_getR (by rfl) rfl
theorem e109_21 : zE 109 d Q 21 [l0, l1, l2] (zR (some r) :: st) G h k ↔ (G.2.1 r = 4 ∧ zE 109 d Q 24 [l0, l1, l2] (zR (G.2.2.2 r 11) :: st) G h k) := E_getR (by rfl) rfl
theorem e109_24 : zE 109 d Q 24 [l0, l1, some (zI x)] st G h k ↔ zE 109 d Q 25 [l0, l1, some (zI x)] (zI x :: st) G h k := E_iload_n (by rfl) rfl
theorem e109_25 : zE 109 d Q 25 [l0, l1, l2] (zI i :: zR (some r) :: st) G h k ↔ (G.2.1 r = 15 ∧ (0 ≤ i ∧ i < G.2.2.1 r) ∧ zE 109 d Q 26 [l0, l1, l2] (zR (G.2.2.2 r i.toNat) :: st) G h k) := E_aaload (by rfl) (by decide)
theorem e109_26 : zE 109 d Q 26 [l0, some (zI x), l2] st G h k ↔ zE 109 d Q 27 [l0, some (zI x), l2] (zI x :: st) G h k := E_iload_n (by rfl) rfl
theorem e109_27 : zE 109 d Q 27 [l0, l1, l2] (zI i :: zR (some r) :: st) G h k ↔ (G.2.1 r = 11 ∧ (0 ≤ i ∧ i < G.2.2.1 r) ∧ zE 109 d Q 28 [l0, l1, l2] (zL (h r i.toNat) :: st) G h k) := E_laload (by rfl)
theorem e109_28 : zE 109 d Q 28 [l0, l1, l2] [zL x] G h k ↔ Q (some (zL x)) G h := E_lret (by rfl) rfl
theorem e110_0 : zE 110 d Q 0 [some (.inr (.inr w9))] st G h k ↔ zE 110 d Q 1 [some (.inr (.inr w9))] (.inr (.inr w9) :: st) G h k := E_aload_n (by rfl) rfl
theorem e110_1 : zE 110 d Q 1 [l0] (zR (some r) :: []) G h k ↔ zE 110 d Q 4 [l0] [] G h k := E_objInit (by rfl) rfl (by decide)
theorem e110_4 : zE 110 d Q 4 [some (.inr (.inr w9))] st G h k ↔ zE 110 d Q 5 [some (.inr (.inr w9))] (.inr (.inr w9) :: st) G h k := E_aload_n (by rfl) rfl
theorem e110_5 : zE 110 d Q 5 [l0] st G h k ↔ zE 110 d Q 6 [l0] (zI (-1) :: st) G h k := E_iconst (by rfl)
theorem e110_6 : zE 110 d Q 6 [l0] (zI x :: zR (some r) :: st) G h k ↔ (G.2.1 r = 8 ∧ zE 110 d Q 9 [l0] st G (zu h r 3 x) k) := E_putI (by rfl) rfl
theorem e110_9 : zE 110 d Q 9 [some (.inr (.inr w9))] st G h k ↔ zE 110 d Q 10 [some (.inr (.inr w9))] (.inr (.inr w9) :: st) G h k := E_aload_n (by rfl) rfl
theorem e110_10 : zE 110 d Q 10 [l0] st G h k ↔ zE 110 d Q 11 [l0] (zI 3 :: st) G h k := E_iconst (by rfl)
theorem e110_11 : zE 110 d Q 11 [l0] (zI i :: st) G h k ↔ (0 ≤ i ∧ i ≤ 1000000 ∧ k.1 + 1 ≤ 10 ∧ k.2 + i.toNat ≤ 39 ∧ zE 110 d Q 13 [l0] (zR (some G.1) :: st) (zgn G 10 i.toNat) (zhn h G.1) (k.1 + 1, k.2 + i.toNat)) := E_newarray (by rfl)
theorem e110_13 : zE 110 d Q 13 [l0] (zR q9 :: zR (some r) :: st) G h k ↔ (G.2.1 r = 8 ∧ zE 110 d Q 16 [l0] st (zgu G r 6 q9) h k) := E_putR (by rfl) rfl
theorem e110_16 : zE 110 d Q 16 [some (.inr (.inr w9))] st G h k ↔ zE 110 d Q 17 [some (.inr (.inr w9))] (.inr (.inr w9) :: st) G h k := E_aload_n (by rfl) rfl
theorem e110_17 : zE 110 d Q 17 [l0] st G h k ↔ zE 110 d Q 18 [l0] (zI 3 :: st) G h k := E_iconst (by rfl)
theorem e110_18 : zE 110 d Q 18 [l0] (zI i :: st) G h k ↔ (0 ≤ i ∧ i ≤ 1000000 ∧ k.1 + 1 ≤ 10 ∧ k.2 + i.toNat ≤ 39 ∧ zE 110 d Q 20 [l0] (zR (some G.1) :: st) (zgn G 10 i.toNat) (zhn h G.1) (k.1 + 1, k.2 + i.toNat)) := E_newarray (by rfl)
theorem e110_20 : zE 110 d Q 20 [l0] (zR q9 :: zR (some r) :: st) G h k ↔ (G.2.1 r = 8 ∧ zE 110 d Q 23 [l0] st (zgu G r 7 q9) h k) := E_putR (by rfl) rfl
theorem e110_23 : zE 110 d Q 23 [some (.inr (.inr w9))] st G h k ↔ zE 110 d Q 24 [some (.inr (.inr w9))] (.inr (.inr w9) :: st) G h k := E_aload_n (by rfl) rfl
theorem e110_24 : zE 110 d Q 24 [l0] st G h k ↔ zE 110 d Q 25 [l0] (zI 3 :: st) G h k := E_iconst (by rfl)
theorem e110_25 : zE 110 d Q 25 [l0] (zI i :: st) G h k ↔ (0 ≤ i ∧ i ≤ 1000000 ∧ k.1 + 1 ≤ 10 ∧ k.2 + i.toNat ≤ 39 ∧ zE 110 d Q 27 [l0] (zR (some G.1) :: st) (zgn G 10 i.toNat) (zhn h G.1) (k.1 + 1, k.2 + i.toNat)) := E_newarray (by rfl)
theorem e110_27 : zE 110 d Q 27 [l0] (zR q9 :: zR (some r) :: st) G h k ↔ (G.2.1 r = 8 ∧ zE 110 d Q 30 [l0] st (zgu G r 8 q9) h k) := E_putR (by rfl) rfl
theorem e110_30 : zE 110 d Q 30 [some (.inr (.inr w9))] st G h k ↔ zE 110 d Q 31 [some (.inr (.inr w9))] (.inr (.inr w9) :: st) G h k := E_aload_n (by rfl) rfl
theorem e110_31 : zE 110 d Q 31 [l0] st G h k ↔ zE 110 d Q 32 [l0] (zI 3 :: st) G h k := E_iconst (by rfl)
theorem e110_32 : zE 110 d Q 32 [l0] (zI i :: st) G h k ↔ (0 ≤ i ∧ i ≤ 1000000 ∧ k.1 + 1 ≤ 10 ∧ k.2 + i.toNat ≤ 39 ∧ zE 110 d Q 34 [l0] (zR (some G.1) :: st) (zgn G 10 i.toNat) (zhn h G.1) (k.1 + 1, k.2 + i.toNat)) := E_newarray (by rfl)
theorem e110_34 : zE 110 d Q 34 [l0] (zR q9 :: zR (some r) :: st) G h k ↔ (G.2.1 r = 8 ∧ zE 110 d Q 37 [l0] st (zgu G r 9 q9) h k) := E_putR (by rfl) rfl
theorem e110_37 : zE 110 d Q 37 [some (.inr (.inr w9))] st G h k ↔ zE 110 d Q 38 [some (.inr (.inr w9))] (.inr (.inr w9) :: st) G h k := E_aload_n (by rfl) rfl
theorem e110_38 : zE 110 d Q 38 [l0] st G h k ↔ zE 110 d Q 39 [l0] (zI 4 :: st) G h k := E_iconst (by rfl)
theorem e110_39 : zE 110 d Q 39 [l0] (zI i :: st) G h k ↔ (0 ≤ i ∧ i ≤ 1000000 ∧ k.1 + 1 ≤ 10 ∧ k.2 + i.toNat ≤ 39 ∧ zE 110 d Q 41 [l0] (zR (some G.1) :: st) (zgn G 10 i.toNat) (zhn h G.1) (k.1 + 1, k.2 + i.toNat)) := E_newarray (by rfl)
theorem e110_41 : zE 110 d Q 41 [l0] (zR q9 :: zR (some r) :: st) G h k ↔ (G.2.1 r = 8 ∧ zE 110 d Q 44 [l0] st (zgu G r 10 q9) h k) := E_putR (by rfl) rfl
theorem e110_44 : zE 110 d Q 44 [some (.inr (.inr w9))] st G h k ↔ zE 110 d Q 45 [some (.inr (.inr w9))] (.inr (.inr w9) :: st) G h k := E_aload_n (by rfl) rfl
theorem e110_45 : zE 110 d Q 45 [l0] st G h k ↔ zE 110 d Q 46 [l0] (zI 4 :: st) G h k := E_iconst (by rfl)
theorem e110_46 : zE 110 d Q 46 [l0] (zI i :: st) G h k ↔ (0 ≤ i ∧ i ≤ 1000000 ∧ k.1 + 1 ≤ 10 ∧ k.2 + i.toNat ≤ 39 ∧ zE 110 d Q 48 [l0] (zR (some G.1) :: st) (zgn G 10 i.toNat) (zhn h G.1) (k.1 + 1, k.2 + i.toNat)) := E_newarray (by rfl)
theorem e110_48 : zE 110 d Q 48 [l0] (zR q9 :: zR (some r) :: st) G h k ↔ (G.2.1 r = 8 ∧ zE 110 d Q 51 [l0] st (zgu G r 11 q9) h k) := E_putR (by rfl) rfl
theorem e110_51 : zE 110 d Q 51 [some (.inr (.inr w9))] st G h k ↔ zE 110 d Q 52 [some (.inr (.inr w9))] (.inr (.inr w9) :: st) G h k := E_aload_n (by rfl) rfl
theorem e110_52 : zE 110 d Q 52 [l0] st G h k ↔ zE 110 d Q 53 [l0] (zI 4 :: st) G h k := E_iconst (by rfl)
theorem e110_53 : zE 110 d Q 53 [l0] (zI i :: st) G h k ↔ (0 ≤ i ∧ i ≤ 1000000 ∧ k.1 + 1 ≤ 10 ∧ k.2 + i.toNat ≤ 39 ∧ zE 110 d Q 55 [l0] (zR (some G.1) :: st) (zgn G 10 i.toNat) (zhn h G.1) (k.1 + 1, k.2 + i.toNat)) := E_newarray (by rfl)
theorem e110_55 : zE 110 d Q 55 [l0] (zR q9 :: zR (some r) :: st) G h k ↔ (G.2.1 r = 8 ∧ zE 110 d Q 58 [l0] st (zgu G r 12 q9) h k) := E_putR (by rfl) rfl
theorem e110_58 : zE 110 d Q 58 [some (.inr (.inr w9))] st G h k ↔ zE 110 d Q 59 [some (.inr (.inr w9))] (.inr (.inr w9) :: st) G h k := E_aload_n (by rfl) rfl
theorem e110_59 : zE 110 d Q 59 [l0] st G h k ↔ zE 110 d Q 60 [l0] (zI 4 :: st) G h k := E_iconst (by rfl)
theorem e110_60 : zE 110 d Q 60 [l0] (zI i :: st) G h k ↔ (0 ≤ i ∧ i ≤ 1000000 ∧ k.1 + 1 ≤ 10 ∧ k.2 + i.toNat ≤ 39 ∧ zE 110 d Q 62 [l0] (zR (some G.1) :: st) (zgn G 10 i.toNat) (zhn h G.1) (k.1 + 1, k.2 + i.toNat)) := E_newarray (by rfl)
theorem e110_62 : zE 110 d Q 62 [l0] (zR q9 :: zR (some r) :: st) G h k ↔ (G.2.1 r = 8 ∧ zE 110 d Q 65 [l0] st (zgu G r 13 q9) h k) := E_putR (by rfl) rfl
theorem e110_65 : zE 110 d Q 65 [some (.inr (.inr w9))] st G h k ↔ zE 110 d Q 66 [some (.inr (.inr w9))] (.inr (.inr w9) :: st) G h k := E_aload_n (by rfl) rfl
theorem e110_66 : zE 110 d Q 66 [l0] st G h k ↔ zE 110 d Q 67 [l0] (zI 4 :: st) G h k := E_iconst (by rfl)
theorem e110_67 : zE 110 d Q 67 [l0] (zI i :: st) G h k ↔ (0 ≤ i ∧ i ≤ 1000000 ∧ k.1 + 1 ≤ 10 ∧ k.2 + i.toNat ≤ 39 ∧ zE 110 d Q 69 [l0] (zR (some G.1) :: st) (zgn G 13 i.toNat) (zhn h G.1) (k.1 + 1, k.2 + i.toNat)) := E_newarray (by rfl)
theorem e110_69 : zE 110 d Q 69 [l0] (zR q9 :: zR (some r) :: st) G h k ↔ (G.2.1 r = 8 ∧ zE 110 d Q 72 [l0] st (zgu G r 14 q9) h k) := E_putR (by rfl) rfl
theorem e110_72 : zE 110 d Q 72 [some (.inr (.inr w9))] st G h k ↔ zE 110 d Q 73 [some (.inr (.inr w9))] (.inr (.inr w9) :: st) G h k := E_aload_n (by rfl) rfl
theorem e110_73 : zE 110 d Q 73 [l0] st G h k ↔ zE 110 d Q 75 [l0] (zI 7 :: st) G h k := E_bipush (by rfl)
theorem e110_75 : zE 110 d Q 75 [l0] (zI i :: st) G h k ↔ (0 ≤ i ∧ i ≤ 1000000 ∧ k.1 + 1 ≤ 10 ∧ k.2 + i.toNat ≤ 39 ∧ zE 110 d Q 77 [l0] (zR (some G.1) :: st) (zgn G 11 i.toNat) (zhn h G.1) (k.1 + 1, k.2 + i.toNat)) := E_newarray (by rfl)
theorem e110_77 : zE 110 d Q 77 [l0] (zR q9 :: zR (some r) :: st) G h k ↔ (G.2.1 r = 8 ∧ zE 110 d Q 80 [l0] st (zgu G r 15 q9) h k) := E_putR (by rfl) rfl
theorem e110_80 : zE 110 d Q 80 [l0] [] G h k ↔ Q none G h := E_vret (by rfl) rfl
theorem e111_0 : zE 111 d Q 0 [l0, l1, l2, l3] st G h k ↔ zE 111 d Q 1 [l0, l1, l2, l3] (zI 0 :: st) G h k := E_iconst (by rfl)
theorem e111_1 : zE 111 d Q 1 [l0, l1, l2, l3] (zI x :: st) G h k ↔ zE 111 d Q 2 [l0, l1, (zclr l2), some (zI x)] st G h k := E_istore_n (by rfl) (by decide)
theorem e111_2 : zE 111 d Q 2 [l0, l1, l2, some (zI x)] st G h k ↔ zE 111 d Q 3 [l0, l1, l2, some (zI x)] (zI x :: st) G h k := E_iload_n (by rfl) rfl
theorem e111_3 : zE 111 d Q 3 [some (.inr (.inr w9)), l1, l2, l3] st G h k ↔ zE 111 d Q 4 [some (.inr (.inr w9)), l1, l2, l3] (.inr (.inr w9) :: st) G h k := E_aload_n (by rfl) rfl
theorem e111_4 : zE 111 d Q 4 [l0, l1, l2, l3] (zR (some r) :: st) G h k ↔ (G.2.1 r = 8 ∧ zE 111 d Q 7 [l0, l1, l2, l3] (zI (h r 4) :: st) G h k) := E_getI (by rfl) (by decide)
theorem e111_7 : zE 111 d Q 7 [l0, l1, l2, l3] (zI y :: zI x :: st) G h k ↔ ((y ≤ x → zE 111 d Q 29 [l0, l1, l2, l3] st G h k) ∧ (¬ (y ≤ x) → zE 111 d Q 10 [l0, l1, l2, l3] st G h k)) := E_icmp_ge (by rfl)
theorem e111_10 : zE 111 d Q 10 [some (.inr (.inr w9)), l1, l2, l3] st G h k ↔ zE 111 d Q 11 [some (.inr (.inr w9)), l1, l2, l3] (.inr (.inr w9) :: st) G h k := E_aload_n (by rfl) rfl
theorem e111_11 : zE 111 d Q 11 [l0, l1, l2, l3] (zR (some r) :: st) G h k ↔ (G.2.1 r = 8 ∧ zE 111 d Q 14 [l0, l1, l2, l3] (zR (G.2.2.2 r 15) :: st) G h k) := E_getR (by rfl) rfl
theorem e111_14 : zE 111 d Q 14 [l0, l1, l2, some (zI x)] st G h k ↔ zE 111 d Q 15 [l0, l1, l2, some (zI x)] (zI x :: st) G h k := E_iload_n (by rfl) rfl
theorem e111_15 : zE 111 d Q 15 [l0, l1, l2, l3] (zI i :: zR (some r) :: st) G h k ↔ (G.2.1 r = 11 ∧ (0 ≤ i ∧ i < G.2.2.1 r) ∧ zE 111 d Q 16 [l0, l1, l2, l3] (zL (h r i.toNat) :: st) G h k) := E_laload (by rfl)
theorem e111_16 : zE 111 d Q 16 [l0, some (zL x), l2, l3] st G h k ↔ zE 111 d Q 17 [l0, some (zL x), l2, l3] (zL x :: st) G h k := E_lload_n (by rfl) rfl
theorem e111_17 : zE 111 d Q 17 [l0, l1, l2, l3] (zL y :: zL x :: st) G h k ↔ zE 111 d Q 18 [l0, l1, l2, l3] (zI (zlc x y) :: st) G h k := E_lcmp (by rfl)
theorem e111_18 : zE 111 d Q 18 [l0, l1, l2, l3] (zI x :: st) G h k ↔ ((¬ x = 0 → zE 111 d Q 23 [l0, l1, l2, l3] st G h k) ∧ (¬ (¬ x = 0) → zE 111 d Q 21 [l0, l1, l2, l3] st G h k)) := E_if_ne (by rfl)
theorem e111_21 : zE 111 d Q 21 [l0, l1, l2, l3] st G h k ↔ zE 111 d Q 22 [l0, l1, l2, l3] (zI 1 :: st) G h k := E_iconst (by rfl)
theorem e111_22 : zE 111 d Q 22 [l0, l1, l2, l3] [zI x] G h k ↔ ((x = 0 ∨ x = 1) ∧ Q (some (zI x)) G h) := E_zret (by rfl) rfl
theorem e111_23 : zE 111 d Q 23 [l0, l1, l2, some (zI x)] st G h k ↔ zE 111 d Q 26 [l0, l1, (zclr l2), some (zI (wr (x + 1)))] st G h k := E_iinc (by rfl) rfl
theorem e111_26 : zE 111 d Q 26 [l0, l1, l2, l3] st G h k ↔ zE 111 d Q 2 [l0, l1, l2, l3] st G h k := E_goto (by rfl)
theorem e111_29 : zE 111 d Q 29 [l0, l1, l2, l3] st G h k ↔ zE 111 d Q 30 [l0, l1, l2, l3] (zI 0 :: st) G h k := E_iconst (by rfl)
theorem e111_30 : zE 111 d Q 30 [l0, l1, l2, l3] [zI x] G h k ↔ ((x = 0 ∨ x = 1) ∧ Q (some (zI x)) G h) := E_zret (by rfl) rfl
theorem e112_0 : zE 112 d Q 0 [some (.inr (.inr w9))] st G h k ↔ zE 112 d Q 1 [some (.inr (.inr w9))] (.inr (.inr w9) :: st) G h k := E_aload_n (by rfl) rfl
theorem e112_1 : zE 112 d Q 1 [l0] (zR (some r) :: []) G h k ↔ zE 112 d Q 4 [l0] [] G h k := E_objInit (by rfl) rfl (by decide)
theorem e112_4 : zE 112 d Q 4 [some (.inr (.inr w9))] st G h k ↔ zE 112 d Q 5 [some (.inr (.inr w9))] (.inr (.inr w9) :: st) G h k := E_aload_n (by rfl) rfl
theorem e112_5 : zE 112 d Q 5 [l0] st G h k ↔ zE 112 d Q 6 [l0] (zI (-1) :: st) G h k := E_iconst (by rfl)
theorem e112_6 : zE 112 d Q 6 [l0] (zI x :: zR (some r) :: st) G h k ↔ (G.2.1 r = 9 ∧ zE 112 d Q 9 [l0] st G (zu h r 2 x) k) := E_putI (by rfl) rfl
theorem e112_9 : zE 112 d Q 9 [some (.inr (.inr w9))] st G h k ↔ zE 112 d Q 10 [some (.inr (.inr w9))] (.inr (.inr w9) :: st) G h k := E_aload_n (by rfl) rfl
theorem e112_10 : zE 112 d Q 10 [l0] st G h k ↔ zE 112 d Q 13 [l0] (zI 700 :: st) G h k := E_sipush (by rfl)
theorem e112_13 : zE 112 d Q 13 [l0] (zI i :: st) G h k ↔ (0 ≤ i ∧ i ≤ 1000000 ∧ k.1 + 1 ≤ 40 ∧ k.2 + i.toNat ≤ 12000 ∧ zE 112 d Q 15 [l0] (zR (some G.1) :: st) (zgn G 12 i.toNat) (zhn h G.1) (k.1 + 1, k.2 + i.toNat)) := E_newarray (by rfl)
theorem e112_15 : zE 112 d Q 15 [l0] (zR q9 :: zR (some r) :: st) G h k ↔ (G.2.1 r = 9 ∧ zE 112 d Q 18 [l0] st (zgu G r 5 q9) h k) := E_putR (by rfl) rfl
theorem e112_18 : zE 112 d Q 18 [some (.inr (.inr w9))] st G h k ↔ zE 112 d Q 19 [some (.inr (.inr w9))] (.inr (.inr w9) :: st) G h k := E_aload_n (by rfl) rfl
theorem e112_19 : zE 112 d Q 19 [l0] st G h k ↔ zE 112 d Q 20 [l0] (zI 3 :: st) G h k := E_iconst (by rfl)
theorem e112_20 : zE 112 d Q 20 [l0] (zI i :: st) G h k ↔ (0 ≤ i ∧ i ≤ 1000000 ∧ k.1 + 1 ≤ 40 ∧ k.2 + i.toNat ≤ 12000 ∧ zE 112 d Q 22 [l0] (zR (some G.1) :: st) (zgn G 10 i.toNat) (zhn h G.1) (k.1 + 1, k.2 + i.toNat)) := E_newarray (by rfl)
theorem e112_22 : zE 112 d Q 22 [l0] (zR q9 :: zR (some r) :: st) G h k ↔ (G.2.1 r = 9 ∧ zE 112 d Q 25 [l0] st (zgu G r 22 q9) h k) := E_putR (by rfl) rfl
theorem e112_25 : zE 112 d Q 25 [some (.inr (.inr w9))] st G h k ↔ zE 112 d Q 26 [some (.inr (.inr w9))] (.inr (.inr w9) :: st) G h k := E_aload_n (by rfl) rfl
theorem e112_26 : zE 112 d Q 26 [l0] st G h k ↔ zE 112 d Q 27 [l0] (zI 3 :: st) G h k := E_iconst (by rfl)
theorem e112_27 : zE 112 d Q 27 [l0] (zI i :: st) G h k ↔ (0 ≤ i ∧ i ≤ 1000000 ∧ k.1 + 1 ≤ 40 ∧ k.2 + i.toNat ≤ 12000 ∧ zE 112 d Q 29 [l0] (zR (some G.1) :: st) (zgn G 10 i.toNat) (zhn h G.1) (k.1 + 1, k.2 + i.toNat)) := E_newarray (by rfl)
theorem e112_29 : zE 112 d Q 29 [l0] (zR q9 :: zR (some r) :: st) G h k ↔ (G.2.1 r = 9 ∧ zE 112 d Q 32 [l0] st (zgu G r 23 q9) h k) := E_putR (by rfl) rfl
theorem e112_32 : zE 112 d Q 32 [some (.inr (.inr w9))] st G h k ↔ zE 112 d Q 33 [some (.inr (.inr w9))] (.inr (.inr w9) :: st) G h k := E_aload_n (by rfl) rfl
theorem e112_33 : zE 112 d Q 33 [l0] st G h k ↔ zE 112 d Q 34 [l0] (zI 3 :: st) G h k := E_iconst (by rfl)
theorem e112_34 : zE 112 d Q 34 [l0] (zI i :: st) G h k ↔ (0 ≤ i ∧ i ≤ 1000000 ∧ k.1 + 1 ≤ 40 ∧ k.2 + i.toNat ≤ 12000 ∧ zE 112 d Q 36 [l0] (zR (some G.1) :: st) (zgn G 10 i.toNat) (zhn h G.1) (k.1 + 1, k.2 + i.toNat)) := E_newarray (by rfl)
theorem e112_36 : zE 112 d Q 36 [l0] (zR q9 :: zR (some r) :: st) G h k ↔ (G.2.1 r = 9 ∧ zE 112 d Q 39 [l0] st (zgu G r 24 q9) h k) := E_putR (by rfl) rfl
theorem e112_39 : zE 112 d Q 39 [some (.inr (.inr w9))] st G h k ↔ zE 112 d Q 40 [some (.inr (.inr w9))] (.inr (.inr w9) :: st) G h k := E_aload_n (by rfl) rfl
theorem e112_40 : zE 112 d Q 40 [l0] st G h k ↔ zE 112 d Q 41 [l0] (zI 3 :: st) G h k := E_iconst (by rfl)
theorem e112_41 : zE 112 d Q 41 [l0] (zI i :: st) G h k ↔ (0 ≤ i ∧ i ≤ 1000000 ∧ k.1 + 1 ≤ 40 ∧ k.2 + i.toNat ≤ 12000 ∧ zE 112 d Q 43 [l0] (zR (some G.1) :: st) (zgn G 10 i.toNat) (zhn h G.1) (k.1 + 1, k.2 + i.toNat)) := E_newarray (by rfl)
theorem e112_43 : zE 112 d Q 43 [l0] (zR q9 :: zR (some r) :: st) G h k ↔ (G.2.1 r = 9 ∧ zE 112 d Q 46 [l0] st (zgu G r 25 q9) h k) := E_putR (by rfl) rfl
theorem e112_46 : zE 112 d Q 46 [some (.inr (.inr w9))] st G h k ↔ zE 112 d Q 47 [some (.inr (.inr w9))] (.inr (.inr w9) :: st) G h k := E_aload_n (by rfl) rfl
theorem e112_47 : zE 112 d Q 47 [l0] st G h k ↔ zE 112 d Q 48 [l0] (zI 4 :: st) G h k := E_iconst (by rfl)
theorem e112_48 : zE 112 d Q 48 [l0] (zI i :: st) G h k ↔ (0 ≤ i ∧ i ≤ 1000000 ∧ k.1 + 1 ≤ 40 ∧ k.2 + i.toNat ≤ 12000 ∧ zE 112 d Q 50 [l0] (zR (some G.1) :: st) (zgn G 10 i.toNat) (zhn h G.1) (k.1 + 1, k.2 + i.toNat)) := E_newarray (by rfl)
theorem e112_50 : zE 112 d Q 50 [l0] (zR q9 :: zR (some r) :: st) G h k ↔ (G.2.1 r = 9 ∧ zE 112 d Q 53 [l0] st (zgu G r 26 q9) h k) := E_putR (by rfl) rfl
theorem e112_53 : zE 112 d Q 53 [some (.inr (.inr w9))] st G h k ↔ zE 112 d Q 54 [some (.inr (.inr w9))] (.inr (.inr w9) :: st) G h k := E_aload_n (by rfl) rfl
theorem e112_54 : zE 112 d Q 54 [l0] st G h k ↔ zE 112 d Q 55 [l0] (zI 4 :: st) G h k := E_iconst (by rfl)
theorem e112_55 : zE 112 d Q 55 [l0] (zI i :: st) G h k ↔ (0 ≤ i ∧ i ≤ 1000000 ∧ k.1 + 1 ≤ 40 ∧ k.2 + i.toNat ≤ 12000 ∧ zE 112 d Q 57 [l0] (zR (some G.1) :: st) (zgn G 10 i.toNat) (zhn h G.1) (k.1 + 1, k.2 + i.toNat)) := E_newarray (by rfl)
theorem e112_57 : zE 112 d Q 57 [l0] (zR q9 :: zR (some r) :: st) G h k ↔ (G.2.1 r = 9 ∧ zE 112 d Q 60 [l0] st (zgu G r 27 q9) h k) := E_putR (by rfl) rfl
theorem e112_60 : zE 112 d Q 60 [some (.inr (.inr w9))] st G h k ↔ zE 112 d Q 61 [some (.inr (.inr w9))] (.inr (.inr w9) :: st) G h k := E_aload_n (by rfl) rfl
theorem e112_61 : zE 112 d Q 61 [l0] st G h k ↔ zE 112 d Q 63 [l0] (zI 12 :: st) G h k := E_bipush (by rfl)
theorem e112_63 : zE 112 d Q 63 [l0] (zI i :: st) G h k ↔ (0 ≤ i ∧ i ≤ 1000000 ∧ k.1 + 1 ≤ 40 ∧ k.2 + i.toNat ≤ 12000 ∧ zE 112 d Q 65 [l0] (zR (some G.1) :: st) (zgn G 10 i.toNat) (zhn h G.1) (k.1 + 1, k.2 + i.toNat)) := E_newarray (by rfl)
theorem e112_65 : zE 112 d Q 65 [l0] (zR q9 :: zR (some r) :: st) G h k ↔ (G.2.1 r = 9 ∧ zE 112 d Q 68 [l0] st (zgu G r 28 q9) h k) := E_putR (by rfl) rfl
theorem e112_68 : zE 112 d Q 68 [some (.inr (.inr w9))] st G h k ↔ zE 112 d Q 69 [some (.inr (.inr w9))] (.inr (.inr w9) :: st) G h k := E_aload_n (by rfl) rfl
theorem e112_69 : zE 112 d Q 69 [l0] st G h k ↔ zE 112 d Q 70 [l0] (zI 4 :: st) G h k := E_iconst (by rfl)
theorem e112_70 : zE 112 d Q 70 [l0] (zI i :: st) G h k ↔ (0 ≤ i ∧ i ≤ 1000000 ∧ k.1 + 1 ≤ 40 ∧ k.2 + i.toNat ≤ 12000 ∧ zE 112 d Q 72 [l0] (zR (some G.1) :: st) (zgn G 10 i.toNat) (zhn h G.1) (k.1 + 1, k.2 + i.toNat)) := E_newarray (by rfl)
theorem e112_72 : zE 112 d Q 72 [l0] (zR q9 :: zR (some r) :: st) G h k ↔ (G.2.1 r = 9 ∧ zE 112 d Q 75 [l0] st (zgu G r 29 q9) h k) := E_putR (by rfl) rfl
theorem e112_75 : zE 112 d Q 75 [some (.inr (.inr w9))] st G h k ↔ zE 112 d Q 76 [some (.inr (.inr w9))] (.inr (.inr w9) :: st) G h k := E_aload_n (by rfl) rfl
theorem e112_76 : zE 112 d Q 76 [l0] st G h k ↔ zE 112 d Q 78 [l0] (zI 24 :: st) G h k := E_bipush (by rfl)
theorem e112_78 : zE 112 d Q 78 [l0] (zI i :: st) G h k ↔ (0 ≤ i ∧ i ≤ 1000000 ∧ k.1 + 1 ≤ 40 ∧ k.2 + i.toNat ≤ 12000 ∧ zE 112 d Q 80 [l0] (zR (some G.1) :: st) (zgn G 10 i.toNat) (zhn h G.1) (k.1 + 1, k.2 + i.toNat)) := E_newarray (by rfl)
theorem e112_80 : zE 112 d Q 80 [l0] (zR q9 :: zR (some r) :: st) G h k ↔ (G.2.1 r = 9 ∧ zE 112 d Q 83 [l0] st (zgu G r 32 q9) h k) := E_putR (by rfl) rfl
theorem e112_83 : zE 112 d Q 83 [some (.inr (.inr w9))] st G h k ↔ zE 112 d Q 84 [some (.inr (.inr w9))] (.inr (.inr w9) :: st) G h k := E_aload_n (by rfl) rfl
theorem e112_84 : zE 112 d Q 84 [l0] st G h k ↔ zE 112 d Q 85 [l0] (zI 3 :: st) G h k := E_iconst (by rfl)
theorem e112_85 : zE 112 d Q 85 [l0] (zI i :: st) G h k ↔ (0 ≤ i ∧ i ≤ 1000000 ∧ k.1 + 1 ≤ 40 ∧ k.2 + i.toNat ≤ 12000 ∧ zE 112 d Q 87 [l0] (zR (some G.1) :: st) (zgn G 10 i.toNat) (zhn h G.1) (k.1 + 1, k.2 + i.toNat)) := E_newarray (by rfl)
theorem e112_87 : zE 112 d Q 87 [l0] (zR q9 :: zR (some r) :: st) G h k ↔ (G.2.1 r = 9 ∧ zE 112 d Q 90 [l0] st (zgu G r 33 q9) h k) := E_putR (by rfl) rfl
theorem e112_90 : zE 112 d Q 90 [some (.inr (.inr w9))] st G h k ↔ zE 112 d Q 91 [some (.inr (.inr w9))] (.inr (.inr w9) :: st) G h k := E_aload_n (by rfl) rfl
theorem e112_91 : zE 112 d Q 91 [l0] st G h k ↔ zE 112 d Q 92 [l0] (zI 3 :: st) G h k := E_iconst (by rfl)
theorem e112_92 : zE 112 d Q 92 [l0] (zI i :: st) G h k ↔ (0 ≤ i ∧ i ≤ 1000000 ∧ k.1 + 1 ≤ 40 ∧ k.2 + i.toNat ≤ 12000 ∧ zE 112 d Q 94 [l0] (zR (some G.1) :: st) (zgn G 10 i.toNat) (zhn h G.1) (k.1 + 1, k.2 + i.toNat)) := E_newarray (by rfl)
theorem e112_94 : zE 112 d Q 94 [l0] (zR q9 :: zR (some r) :: st) G h k ↔ (G.2.1 r = 9 ∧ zE 112 d Q 97 [l0] st (zgu G r 34 q9) h k) := E_putR (by rfl) rfl
theorem e112_97 : zE 112 d Q 97 [some (.inr (.inr w9))] st G h k ↔ zE 112 d Q 98 [some (.inr (.inr w9))] (.inr (.inr w9) :: st) G h k := E_aload_n (by rfl) rfl
theorem e112_98 : zE 112 d Q 98 [l0] st G h k ↔ zE 112 d Q 101 [l0] (zI 480 :: st) G h k := E_sipush (by rfl)
theorem e112_101 : zE 112 d Q 101 [l0] (zI i :: st) G h k ↔ (0 ≤ i ∧ i ≤ 1000000 ∧ k.1 + 1 ≤ 40 ∧ k.2 + i.toNat ≤ 12000 ∧ zE 112 d Q 103 [l0] (zR (some G.1) :: st) (zgn G 10 i.toNat) (zhn h G.1) (k.1 + 1, k.2 + i.toNat)) := E_newarray (by rfl)
theorem e112_103 : zE 112 d Q 103 [l0] (zR q9 :: zR (some r) :: st) G h k ↔ (G.2.1 r = 9 ∧ zE 112 d Q 106 [l0] st (zgu G r 35 q9) h k) := E_putR (by rfl) rfl
theorem e112_106 : zE 112 d Q 106 [some (.inr (.inr w9))] st G h k ↔ zE 112 d Q 107 [some (.inr (.inr w9))] (.inr (.inr w9) :: st) G h k := E_aload_n (by rfl) rfl
theorem e112_107 : zE 112 d Q 107 [l0] st G h k ↔ zE 112 d Q 109 [l0] (zI 120 :: st) G h k := E_bipush (by rfl)
theorem e112_109 : zE 112 d Q 109 [l0] (zI i :: st) G h k ↔ (0 ≤ i ∧ i ≤ 1000000 ∧ k.1 + 1 ≤ 40 ∧ k.2 + i.toNat ≤ 12000 ∧ zE 112 d Q 111 [l0] (zR (some G.1) :: st) (zgn G 10 i.toNat) (zhn h G.1) (k.1 + 1, k.2 + i.toNat)) := E_newarray (by rfl)
theorem e112_111 : zE 112 d Q 111 [l0] (zR q9 :: zR (some r) :: st) G h k ↔ (G.2.1 r = 9 ∧ zE 112 d Q 114 [l0] st (zgu G r 36 q9) h k) := E_putR (by rfl) rfl
theorem e112_114 : zE 112 d Q 114 [some (.inr (.inr w9))] st G h k ↔ zE 112 d Q 115 [some (.inr (.inr w9))] (.inr (.inr w9) :: st) G h k := E_aload_n (by rfl) rfl
theorem e112_115 : zE 112 d Q 115 [l0] st G h k ↔ zE 112 d Q 117 [l0] (zI 120 :: st) G h k := E_bipush (by rfl)
theorem e112_117 : zE 112 d Q 117 [l0] (zI i :: st) G h k ↔ (0 ≤ i ∧ i ≤ 1000000 ∧ k.1 + 1 ≤ 40 ∧ k.2 + i.toNat ≤ 12000 ∧ zE 112 d Q 119 [l0] (zR (some G.1) :: st) (zgn G 10 i.toNat) (zhn h G.1) (k.1 + 1, k.2 + i.toNat)) := E_newarray (by rfl)
theorem e112_119 : zE 112 d Q 119 [l0] (zR q9 :: zR (some r) :: st) G h k ↔ (G.2.1 r = 9 ∧ zE 112 d Q 122 [l0] st (zgu G r 37 q9) h k) := E_putR (by rfl) rfl
theorem e112_122 : zE 112 d Q 122 [some (.inr (.inr w9))] st G h k ↔ zE 112 d Q 123 [some (.inr (.inr w9))] (.inr (.inr w9) :: st) G h k := E_aload_n (by rfl) rfl
theorem e112_123 : zE 112 d Q 123 [l0] st G h k ↔ zE 112 d Q 125 [l0] (zI 40 :: st) G h k := E_bipush (by rfl)
theorem e112_125 : zE 112 d Q 125 [l0] (zI i :: st) G h k ↔ (0 ≤ i ∧ i ≤ 1000000 ∧ k.1 + 1 ≤ 40 ∧ k.2 + i.toNat ≤ 12000 ∧ zE 112 d Q 127 [l0] (zR (some G.1) :: st) (zgn G 10 i.toNat) (zhn h G.1) (k.1 + 1, k.2 + i.toNat)) := E_newarray (by rfl)
theorem e112_127 : zE 112 d Q 127 [l0] (zR q9 :: zR (some r) :: st) G h k ↔ (G.2.1 r = 9 ∧ zE 112 d Q 130 [l0] st (zgu G r 38 q9) h k) := E_putR (by rfl) rfl
theorem e112_130 : zE 112 d Q 130 [some (.inr (.inr w9))] st G h k ↔ zE 112 d Q 131 [some (.inr (.inr w9))] (.inr (.inr w9) :: st) G h k := E_aload_n (by rfl) rfl
theorem e112_131 : zE 112 d Q 131 [l0] st G h k ↔ zE 112 d Q 133 [l0] (zI 120 :: st) G h k := E_bipush (by rfl)
theorem e112_133 : zE 112 d Q 133 [l0] (zI i :: st) G h k ↔ (0 ≤ i ∧ i ≤ 1000000 ∧ k.1 + 1 ≤ 40 ∧ k.2 + i.toNat ≤ 12000 ∧ zE 112 d Q 135 [l0] (zR (some G.1) :: st) (zgn G 10 i.toNat) (zhn h G.1) (k.1 + 1, k.2 + i.toNat)) := E_newarray (by rfl)
theorem e112_135 : zE 112 d Q 135 [l0] (zR q9 :: zR (some r) :: st) G h k ↔ (G.2.1 r = 9 ∧ zE 112 d Q 138 [l0] st (zgu G r 39 q9) h k) := E_putR (by rfl) rfl
theorem e112_138 : zE 112 d Q 138 [some (.inr (.inr w9))] st G h k ↔ zE 112 d Q 139 [some (.inr (.inr w9))] (.inr (.inr w9) :: st) G h k := E_aload_n (by rfl) rfl
theorem e112_139 : zE 112 d Q 139 [l0] st G h k ↔ zE 112 d Q 141 [l0] (zI 40 :: st) G h k := E_bipush (by rfl)
theorem e112_141 : zE 112 d Q 141 [l0] (zI i :: st) G h k ↔ (0 ≤ i ∧ i ≤ 1000000 ∧ k.1 + 1 ≤ 40 ∧ k.2 + i.toNat ≤ 12000 ∧ zE 112 d Q 143 [l0] (zR (some G.1) :: st) (zgn G 10 i.toNat) (zhn h G.1) (k.1 + 1, k.2 + i.toNat)) := E_newarray (by rfl)
theorem e112_143 : zE 112 d Q 143 [l0] (zR q9 :: zR (some r) :: st) G h k ↔ (G.2.1 r = 9 ∧ zE 112 d Q 146 [l0] st (zgu G r 40 q9) h k) := E_putR (by rfl) rfl
theorem e112_146 : zE 112 d Q 146 [some (.inr (.inr w9))] st G h k ↔ zE 112 d Q 147 [some (.inr (.inr w9))] (.inr (.inr w9) :: st) G h k := E_aload_n (by rfl) rfl
theorem e112_147 : zE 112 d Q 147 [l0] st G h k ↔ zE 112 d Q 149 [l0] (zI 48 :: st) G h k := E_bipush (by rfl)
theorem e112_149 : zE 112 d Q 149 [l0] (zI i :: st) G h k ↔ (0 ≤ i ∧ i ≤ 1000000 ∧ k.1 + 1 ≤ 40 ∧ k.2 + i.toNat ≤ 12000 ∧ zE 112 d Q 151 [l0] (zR (some G.1) :: st) (zgn G 10 i.toNat) (zhn h G.1) (k.1 + 1, k.2 + i.toNat)) := E_newarray (by rfl)
theorem e112_151 : zE 112 d Q 151 [l0] (zR q9 :: zR (some r) :: st) G h k ↔ (G.2.1 r = 9 ∧ zE 112 d Q 154 [l0] st (zgu G r 41 q9) h k) := E_putR (by rfl) rfl
theorem e112_154 : zE 112 d Q 154 [some (.inr (.inr w9))] st G h k ↔ zE 112 d Q 155 [some (.inr (.inr w9))] (.inr (.inr w9) :: st) G h k := E_aload_n (by rfl) rfl
theorem e112_155 : zE 112 d Q 155 [l0] st G h k ↔ zE 112 d Q 158 [l0] (zI 8748 :: st) G h k := E_sipush (by rfl)
theorem e112_158 : zE 112 d Q 158 [l0] (zI i :: st) G h k ↔ (0 ≤ i ∧ i ≤ 1000000 ∧ k.1 + 1 ≤ 40 ∧ k.2 + i.toNat ≤ 12000 ∧ zE 112 d Q 160 [l0] (zR (some G.1) :: st) (zgn G 11 i.toNat) (zhn h G.1) (k.1 + 1, k.2 + i.toNat)) := E_newarray (by rfl)
theorem e112_160 : zE 112 d Q 160 [l0] (zR q9 :: zR (some r) :: st) G h k ↔ (G.2.1 r = 9 ∧ zE 112 d Q 163 [l0] st (zgu G r 42 q9) h k) := E_putR (by rfl) rfl
theorem e112_163 : zE 112 d Q 163 [some (.inr (.inr w9))] st G h k ↔ zE 112 d Q 164 [some (.inr (.inr w9))] (.inr (.inr w9) :: st) G h k := E_aload_n (by rfl) rfl
theorem e112_164 : zE 112 d Q 164 [l0] st G h k ↔ zE 112 d Q 165 [l0] (zI 3 :: st) G h k := E_iconst (by rfl)
theorem e112_165 : zE 112 d Q 165 [l0] (zI i :: st) G h k ↔ (0 ≤ i ∧ i ≤ 1000000 ∧ k.1 + 1 ≤ 40 ∧ k.2 + i.toNat ≤ 12000 ∧ zE 112 d Q 167 [l0] (zR (some G.1) :: st) (zgn G 10 i.toNat) (zhn h G.1) (k.1 + 1, k.2 + i.toNat)) := E_newarray (by rfl)
theorem e112_167 : zE 112 d Q 167 [l0] (zR q9 :: zR (some r) :: st) G h k ↔ (G.2.1 r = 9 ∧ zE 112 d Q 170 [l0] st (zgu G r 44 q9) h k) := E_putR (by rfl) rfl
theorem e112_170 : zE 112 d Q 170 [some (.inr (.inr w9))] st G h k ↔ zE 112 d Q 171 [some (.inr (.inr w9))] (.inr (.inr w9) :: st) G h k := E_aload_n (by rfl) rfl
theorem e112_171 : zE 112 d Q 171 [l0] st G h k ↔ zE 112 d Q 172 [l0] (zI 3 :: st) G h k := E_iconst (by rfl)
theorem e112_172 : zE 112 d Q 172 [l0] (zI i :: st) G h k ↔ (0 ≤ i ∧ i ≤ 1000000 ∧ k.1 + 1 ≤ 40 ∧ k.2 + i.toNat ≤ 12000 ∧ zE 112 d Q 174 [l0] (zR (some G.1) :: st) (zgn G 10 i.toNat) (zhn h G.1) (k.1 + 1, k.2 + i.toNat)) := E_newarray (by rfl)
theorem e112_174 : zE 112 d Q 174 [l0] (zR q9 :: zR (some r) :: st) G h k ↔ (G.2.1 r = 9 ∧ zE 112 d Q 177 [l0] st (zgu G r 45 q9) h k) := E_putR (by rfl) rfl
theorem e112_177 : zE 112 d Q 177 [some (.inr (.inr w9))] st G h k ↔ zE 112 d Q 178 [some (.inr (.inr w9))] (.inr (.inr w9) :: st) G h k := E_aload_n (by rfl) rfl
theorem e112_178 : zE 112 d Q 178 [l0] st G h k ↔ zE 112 d Q 179 [l0] (zI 3 :: st) G h k := E_iconst (by rfl)
theorem e112_179 : zE 112 d Q 179 [l0] (zI i :: st) G h k ↔ (0 ≤ i ∧ i ≤ 1000000 ∧ k.1 + 1 ≤ 40 ∧ k.2 + i.toNat ≤ 12000 ∧ zE 112 d Q 181 [l0] (zR (some G.1) :: st) (zgn G 10 i.toNat) (zhn h G.1) (k.1 + 1, k.2 + i.toNat)) := E_newarray (by rfl)
theorem e112_181 : zE 112 d Q 181 [l0] (zR q9 :: zR (some r) :: st) G h k ↔ (G.2.1 r = 9 ∧ zE 112 d Q 184 [l0] st (zgu G r 46 q9) h k) := E_putR (by rfl) rfl
theorem e112_184 : zE 112 d Q 184 [some (.inr (.inr w9))] st G h k ↔ zE 112 d Q 185 [some (.inr (.inr w9))] (.inr (.inr w9) :: st) G h k := E_aload_n (by rfl) rfl
theorem e112_185 : zE 112 d Q 185 [l0] st G h k ↔ zE 112 d Q 186 [l0] (zI 3 :: st) G h k := E_iconst (by rfl)
theorem e112_186 : zE 112 d Q 186 [l0] (zI i :: st) G h k ↔ (0 ≤ i ∧ i ≤ 1000000 ∧ k.1 + 1 ≤ 40 ∧ k.2 + i.toNat ≤ 12000 ∧ zE 112 d Q 188 [l0] (zR (some G.1) :: st) (zgn G 10 i.toNat) (zhn h G.1) (k.1 + 1, k.2 + i.toNat)) := E_newarray (by rfl)
theorem e112_188 : zE 112 d Q 188 [l0] (zR q9 :: zR (some r) :: st) G h k ↔ (G.2.1 r = 9 ∧ zE 112 d Q 191 [l0] st (zgu G r 48 q9) h k) := E_putR (by rfl) rfl
theorem e112_191 : zE 112 d Q 191 [some (.inr (.inr w9))] st G h k ↔ zE 112 d Q 192 [some (.inr (.inr w9))] (.inr (.inr w9) :: st) G h k := E_aload_n (by rfl) rfl
theorem e112_192 : zE 112 d Q 192 [l0] st G h k ↔ zE 112 d Q 193 [l0] (zI 3 :: st) G h k := E_iconst (by rfl)
theorem e112_193 : zE 112 d Q 193 [l0] (zI i :: st) G h k ↔ (0 ≤ i ∧ i ≤ 1000000 ∧ k.1 + 1 ≤ 40 ∧ k.2 + i.toNat ≤ 12000 ∧ zE 112 d Q 195 [l0] (zR (some G.1) :: st) (zgn G 10 i.toNat) (zhn h G.1) (k.1 + 1, k.2 + i.toNat)) := E_newarray (by rfl)
theorem e112_195 : zE 112 d Q 195 [l0] (zR q9 :: zR (some r) :: st) G h k ↔ (G.2.1 r = 9 ∧ zE 112 d Q 198 [l0] st (zgu G r 49 q9) h k) := E_putR (by rfl) rfl
theorem e112_198 : zE 112 d Q 198 [some (.inr (.inr w9))] st G h k ↔ zE 112 d Q 199 [some (.inr (.inr w9))] (.inr (.inr w9) :: st) G h k := E_aload_n (by rfl) rfl
theorem e112_199 : zE 112 d Q 199 [l0] st G h k ↔ zE 112 d Q 200 [l0] (zI 3 :: st) G h k := E_iconst (by rfl)
theorem e112_200 : zE 112 d Q 200 [l0] (zI i :: st) G h k ↔ (0 ≤ i ∧ i ≤ 1000000 ∧ k.1 + 1 ≤ 40 ∧ k.2 + i.toNat ≤ 12000 ∧ zE 112 d Q 202 [l0] (zR (some G.1) :: st) (zgn G 11 i.toNat) (zhn h G.1) (k.1 + 1, k.2 + i.toNat)) := E_newarray (by rfl)
theorem e112_202 : zE 112 d Q 202 [l0] (zR q9 :: zR (some r) :: st) G h k ↔ (G.2.1 r = 9 ∧ zE 112 d Q 205 [l0] st (zgu G r 50 q9) h k) := E_putR (by rfl) rfl
theorem e112_205 : zE 112 d Q 205 [some (.inr (.inr w9))] st G h k ↔ zE 112 d Q 206 [some (.inr (.inr w9))] (.inr (.inr w9) :: st) G h k := E_aload_n (by rfl) rfl
theorem e112_206 : zE 112 d Q 206 [l0] st G h k ↔ zE 112 d Q 207 [l0] (zI 4 :: st) G h k := E_iconst (by rfl)
theorem e112_207 : zE 112 d Q 207 [l0] (zI i :: st) G h k ↔ (0 ≤ i ∧ i ≤ 1000000 ∧ k.1 + 1 ≤ 40 ∧ k.2 + i.toNat ≤ 12000 ∧ zE 112 d Q 209 [l0] (zR (some G.1) :: st) (zgn G 11 i.toNat) (zhn h G.1) (k.1 + 1, k.2 + i.toNat)) := E_newarray (by rfl)
theorem e112_209 : zE 112 d Q 209 [l0] (zR q9 :: zR (some r) :: st) G h k ↔ (G.2.1 r = 9 ∧ zE 112 d Q 212 [l0] st (zgu G r 51 q9) h k) := E_putR (by rfl) rfl
theorem e112_212 : zE 112 d Q 212 [some (.inr (.inr w9))] st G h k ↔ zE 112 d Q 213 [some (.inr (.inr w9))] (.inr (.inr w9) :: st) G h k := E_aload_n (by rfl) rfl
theorem e112_213 : zE 112 d Q 213 [l0] st G h k ↔ zE 112 d Q 214 [l0] (zI 4 :: st) G h k := E_iconst (by rfl)
theorem e112_214 : zE 112 d Q 214 [l0] (zI i :: st) G h k ↔ (0 ≤ i ∧ i ≤ 1000000 ∧ k.1 + 1 ≤ 40 ∧ k.2 + i.toNat ≤ 12000 ∧ zE 112 d Q 216 [l0] (zR (some G.1) :: st) (zgn G 11 i.toNat) (zhn h G.1) (k.1 + 1, k.2 + i.toNat)) := E_newarray (by rfl)
theorem e112_216 : zE 112 d Q 216 [l0] (zR q9 :: zR (some r) :: st) G h k ↔ (G.2.1 r = 9 ∧ zE 112 d Q 219 [l0] st (zgu G r 52 q9) h k) := E_putR (by rfl) rfl
theorem e112_219 : zE 112 d Q 219 [l0] [] G h k ↔ Q none G h := E_vret (by rfl) rfl
theorem e113_0 : zE 113 d Q 0 [some (.inr (.inr w9))] st G h k ↔ zE 113 d Q 1 [some (.inr (.inr w9))] (.inr (.inr w9) :: st) G h k := E_aload_n (by rfl) rfl
theorem e113_1 : zE 113 d Q 1 [l0] (zR (some r) :: st) G h k ↔ (G.2.1 r = 9 ∧ zE 113 d Q 4 [l0] (zI (h r 0) :: st) G h k) := E_getI (by rfl) (by decide)
theorem e113_4 : zE 113 d Q 4 [l0] [zI x] G h k ↔ Q (some (zI x)) G h := E_iret (by rfl) rfl
theorem e114_0 : zE 114 d Q 0 [some (.inr (.inr w9)), l1] st G h k ↔ zE 114 d Q 1 [some (.inr (.inr w9)), l1] (.inr (.inr w9) :: st) G h k := E_aload_n (by rfl) rfl
theorem e114_1 : zE 114 d Q 1 [l0, some (zI x)] st G h k ↔ zE 114 d Q 2 [l0, some (zI x)] (zI x :: st) G h k := E_iload_n (by rfl) rfl
theorem e114_2 : zE 114 d Q 2 [l0, l1] (zI x :: zR (some r) :: st) G h k ↔ (G.2.1 r = 9 ∧ zE 114 d Q 5 [l0, l1] st G (zu h r 1 x) k) := E_putI (by rfl) rfl
theorem e114_5 : zE 114 d Q 5 [some (.inr (.inr w9)), l1] st G h k ↔ zE 114 d Q 6 [some (.inr (.inr w9)), l1] (.inr (.inr w9) :: st) G h k := E_aload_n (by rfl) rfl
theorem e114_6 : zE 114 d Q 6 [l0, l1] st G h k ↔ zE 114 d Q 7 [l0, l1] (zI (-1) :: st) G h k := E_iconst (by rfl)
theorem e114_7 : zE 114 d Q 7 [l0, l1] (zI x :: zR (some r) :: st) G h k ↔ (G.2.1 r = 9 ∧ zE 114 d Q 10 [l0, l1] st G (zu h r 2 x) k) := E_putI (by rfl) rfl
theorem e114_10 : zE 114 d Q 10 [l0, l1] st G h k ↔ zE 114 d Q 11 [l0, l1] (zI (-1) :: st) G h k := E_iconst (by rfl)
theorem e114_11 : zE 114 d Q 11 [l0, l1] [zI x] G h k ↔ Q (some (zI x)) G h := E_iret (by rfl) rfl
theorem e115_0 : zE 115 d Q 0 [some (.inr (.inr w9)), l1] st G h k ↔ zE 115 d Q 1 [some (.inr (.inr w9)), l1] (.inr (.inr w9) :: st) G h k := E_aload_n (by rfl) rfl
theorem e115_1 : zE 115 d Q 1 [l0, some (zI x)] st G h k ↔ zE 115 d Q 2 [l0, some (zI x)] (zI x :: st) G h k := E_iload_n (by rfl) rfl
theorem e115_2 : zE 115 d Q 2 [l0, l1] (v0 :: zR (some r) :: st) G h k ↔ (zsum st ≤ 8 ∧ G.2.1 r = 9 ∧ zRunD ztb zmt' d 114 [zR (some r), v0] G h (fun v G' h' => zE 115 d Q 5 [l0, l1] (v.toList ++ st) G' h' k)) := E_invV2z (by rfl) (by decide) rfl
theorem e115_5 : zE 115 d Q 5 [l0, l1] (zI x :: st) G h k ↔ zE 115 d Q 6 [l0, l1] st G h k := E_pop (by rfl) rfl
theorem e115_6 : zE 115 d Q 6 [l0, l1] st G h k ↔ zE 115 d Q 9 [l0, l1] (zL (-9223372036854775808) :: st) G h k := E_ldc2_w (by rfl)
theorem e115_9 : zE 115 d Q 9 [l0, l1] [zL x] G h k ↔ Q (some (zL x)) G h := E_lret (by rfl) rfl
theorem e116_0 : zE 116 d Q 0 [some (.inr (.inr w9)), l1] st G h k ↔ zE 116 d Q 1 [some (.inr (.inr w9)), l1] (.inr (.inr w9) :: st) G h k := E_aload_n (by rfl) rfl
theorem e116_1 : zE 116 d Q 1 [l0, some (zI x)] st G h k ↔ zE 116 d Q 2 [l0, some (zI x)] (zI x :: st) G h k := E_iload_n (by rfl) rfl
theorem e116_2 : zE 116 d Q 2 [l0, l1] (v0 :: zR (some r) :: st) G h k ↔ (zsum st ≤ 8 ∧ G.2.1 r = 9 ∧ zRunD ztb zmt' d 114 [zR (some r), v0] G h (fun v G' h' => zE 116 d Q 5 [l0, l1] (v.toList ++ st) G' h' k)) := E_invV2z (by rfl) (by decide) rfl
theorem e116_5 : zE 116 d Q 5 [l0, l1] (zI x :: st) G h k ↔ zE 116 d Q 6 [l0, l1] st G h k := E_pop (by rfl) rfl
theorem e116_6 : zE 116 d Q 6 [l0, l1] st G h k ↔ zE 116 d Q 7 [l0, l1] (zI 0 :: st) G h k := E_iconst (by rfl)
theorem e116_7 : zE 116 d Q 7 [l0, l1] [zI x] G h k ↔ ((x = 0 ∨ x = 1) ∧ Q (some (zI x)) G h) := E_zret (by rfl) rfl
theorem e117_0 : zE 117 d Q 0 [some (.inr (.inr w9)), l1] st G h k ↔ zE 117 d Q 1 [some (.inr (.inr w9)), l1] (.inr (.inr w9) :: st) G h k := E_aload_n (by rfl) rfl
theorem e117_1 : zE 117 d Q 1 [l0, l1] st G h k ↔ zE 117 d Q 2 [l0, l1] (zI 0 :: st) G h k := E_iconst (by rfl)
theorem e117_2 : zE 117 d Q 2 [l0, l1] (zI x :: zR (some r) :: st) G h k ↔ (G.2.1 r = 9 ∧ zE 117 d Q 5 [l0, l1] st G (zu h r 1 x) k) := E_putI (by rfl) rfl
theorem e117_5 : zE 117 d Q 5 [some (.inr (.inr w9)), l1] st G h k ↔ zE 117 d Q 6 [some (.inr (.inr w9)), l1] (.inr (.inr w9) :: st) G h k := E_aload_n (by rfl) rfl
theorem e117_6 : zE 117 d Q 6 [l0, l1] st G h k ↔ zE 117 d Q 7 [l0, l1] (zI (-1) :: st) G h k := E_iconst (by rfl)
theorem e117_7 : zE 117 d Q 7 [l0, l1] (zI x :: zR (some r) :: st) G h k ↔ (G.2.1 r = 9 ∧ zE 117 d Q 10 [l0, l1] st G (zu h r 2 x) k) := E_putI (by rfl) rfl
theorem e117_10 : zE 117 d Q 10 [l0, some (zI x)] st G h k ↔ zE 117 d Q 11 [l0, some (zI x)] (zI x :: st) G h k := E_iload_n (by rfl) rfl
theorem e117_11 : zE 117 d Q 11 [l0, l1] [zI x] G h k ↔ Q (some (zI x)) G h := E_iret (by rfl) rfl
theorem e118_0 : zE 118 d Q 0 [some (.inr (.inr w9)), l1, l2] st G h k ↔ zE 118 d Q 1 [some (.inr (.inr w9)), l1, l2] (.inr (.inr w9) :: st) G h k := E_aload_n (by rfl) rfl
theorem e118_1 : zE 118 d Q 1 [l0, l1, l2] st G h k ↔ zE 118 d Q 2 [l0, l1, l2] (zI 0 :: st) G h k := E_iconst (by rfl)
theorem e118_2 : zE 118 d Q 2 [l0, l1, l2] (v0 :: zR (some r) :: st) G h k ↔ (zsum st ≤ 8 ∧ G.2.1 r = 9 ∧ zRunD ztb zmt' d 117 [zR (some r), v0] G h (fun v G' h' => zE 118 d Q 5 [l0, l1, l2] (v.toList ++ st) G' h' k)) := E_invV2z (by rfl) (by decide) rfl
theorem e118_5 : zE 118 d Q 5 [l0, l1, l2] (zI x :: st) G h k ↔ zE 118 d Q 6 [l0, l1, l2] st G h k := E_pop (by rfl) rfl
theorem e118_6 : zE 118 d Q 6 [l0, some (zL x), l2] st G h k ↔ zE 118 d Q 7 [l0, some (zL x), l2] (zL x :: st) G h k := E_lload_n (by rfl) rfl
theorem e118_7 : zE 118 d Q 7 [l0, l1, l2] [zL x] G h k ↔ Q (some (zL x)) G h := E_lret (by rfl) rfl
theorem e119_0 : zE 119 d Q 0 [some (.inr (.inr w9))] st G h k ↔ zE 119 d Q 1 [some (.inr (.inr w9))] (.inr (.inr w9) :: st) G h k := E_aload_n (by rfl) rfl
theorem e119_1 : zE 119 d Q 1 [l0] st G h k ↔ zE 119 d Q 2 [l0] (zI 0 :: st) G h k := E_iconst (by rfl)
theorem e119_2 : zE 119 d Q 2 [l0] (v0 :: zR (some r) :: st) G h k ↔ (zsum st ≤ 8 ∧ G.2.1 r = 9 ∧ zRunD ztb zmt' d 117 [zR (some r), v0] G h (fun v G' h' => zE 119 d Q 5 [l0] (v.toList ++ st) G' h' k)) := E_invV2z (by rfl) (by decide) rfl
theorem e119_5 : zE 119 d Q 5 [l0] (zI x :: st) G h k ↔ zE 119 d Q 6 [l0] st G h k := E_pop (by rfl) rfl
theorem e119_6 : zE 119 d Q 6 [l0] st G h k ↔ zE 119 d Q 7 [l0] (zI 1 :: st) G h k := E_iconst (by rfl)
theorem e119_7 : zE 119 d Q 7 [l0] [zI x] G h k ↔ ((x = 0 ∨ x = 1) ∧ Q (some (zI x)) G h) := E_zret (by rfl) rfl
theorem e120_0 : zE 120 d Q 0 [some (zI x), l1, l2] st G h k ↔ zE 120 d Q 1 [some (zI x), l1, l2] (zI x :: st) G h k := E_iload_n (by rfl) rfl
theorem e120_1 : zE 120 d Q 1 [l0, some (zI x), l2] st G h k ↔ zE 120 d Q 2 [l0, some (zI x), l2] (zI x :: st) G h k := E_iload_n (by rfl) rfl
theorem e120_2 : zE 120 d Q 2 [l0, l1, l2] (zI y :: zI x :: st) G h k ↔ ((x < y → zE 120 d Q 14 [l0, l1, l2] st G h k) ∧ (¬ (x < y) → zE 120 d Q 5 [l0, l1, l2] st G h k)) := E_icmp_lt (by rfl)
theorem e120_5 : zE 120 d Q 5 [some (zI x), l1, l2] st G h k ↔ zE 120 d Q 6 [some (zI x), l1, l2] (zI x :: st) G h k := E_iload_n (by rfl) rfl
theorem e120_6 : zE 120 d Q 6 [l0, l1, some (zI x)] st G h k ↔ zE 120 d Q 7 [l0, l1, some (zI x)] (zI x :: st) G h k := E_iload_n (by rfl) rfl
theorem e120_7 : zE 120 d Q 7 [l0, l1, l2] (zI y :: zI x :: st) G h k ↔ ((y < x → zE 120 d Q 14 [l0, l1, l2] st G h k) ∧ (¬ (y < x) → zE 120 d Q 10 [l0, l1, l2] st G h k)) := E_icmp_gt (by rfl)
theorem e120_10 : zE 120 d Q 10 [l0, l1, l2] st G h k ↔ zE 120 d Q 11 [l0, l1, l2] (zI 1 :: st) G h k := E_iconst (by rfl)
theorem e120_11 : zE 120 d Q 11 [l0, l1, l2] st G h k ↔ zE 120 d Q 15 [l0, l1, l2] st G h k := E_goto (by rfl)
theorem e120_14 : zE 120 d Q 14 [l0, l1, l2] st G h k ↔ zE 120 d Q 15 [l0, l1, l2] (zI 0 :: st) G h k := E_iconst (by rfl)
theorem e120_15 : zE 120 d Q 15 [l0, l1, l2] [zI x] G h k ↔ ((x = 0 ∨ x = 1) ∧ Q (some (zI x)) G h) := E_zret (by rfl) rfl
theorem e121_0 : zE 121 d Q 0 [l0, some (zI x)] st G h k ↔ zE 121 d Q 1 [l0, some (zI x)] (zI x :: st) G h k := E_iload_n (by rfl) rfl
theorem e121_1 : zE 121 d Q 1 [some (.inr (.inr w9)), l1] st G h k ↔ zE 121 d Q 2 [some (.inr (.inr w9)), l1] (.inr (.inr w9) :: st) G h k := E_aload_n (by rfl) rfl
theorem e121_2 : zE 121 d Q 2 [l0, l1] (zR (some r) :: st) G h k ↔ (G.2.1 r = 9 ∧ zE 121 d Q 5 [l0, l1] (zI (h r 7) :: st) G h k) := E_getI (by rfl) (by decide)
theorem e121_5 : zE 121 d Q 5 [l0, l1] (zI y :: zI x :: st) G h k ↔ ((y ≤ x → zE 121 d Q 21 [l0, l1] st G h k) ∧ (¬ (y ≤ x) → zE 121 d Q 8 [l0, l1] st G h k)) := E_icmp_ge (by rfl)
theorem e121_8 : zE 121 d Q 8 [some (.inr (.inr w9)), l1] st G h k ↔ zE 121 d Q 9 [some (.inr (.inr w9)), l1] (.inr (.inr w9) :: st) G h k := E_aload_n (by rfl) rfl
theorem e121_9 : zE 121 d Q 9 [l0, l1] (zR (some r) :: st) G h k ↔ (G.2.1 r = 9 ∧ zE 121 d Q 12 [l0, l1] (zR (G.2.2.2 r 5) :: st) G h k) := E_getR (by rfl) rfl
theorem e121_12 : zE 121 d Q 12 [l0, some (zI x)] st G h k ↔ zE 121 d Q 13 [l0, some (zI x)] (zI x :: st) G h k := E_iload_n (by rfl) rfl
theorem e121_13 : zE 121 d Q 13 [l0, l1] (zI i :: zR (some r) :: st) G h k ↔ (G.2.1 r = 12 ∧ (0 ≤ i ∧ i < G.2.2.1 r) ∧ zE 121 d Q 14 [l0, l1] (zI (h r i.toNat) :: st) G h k) := E_baload (by rfl) (by decide)
theorem e121_14 : zE 121 d Q 14 [l0, l1] st G h k ↔ zE 121 d Q 17 [l0, l1] (zI 255 :: st) G h k := E_sipush (by rfl)
theorem e121_17 : zE 121 d Q 17 [l0, l1] (zI y :: zI x :: st) G h k ↔ zE 121 d Q 18 [l0, l1] (zI (zand x y) :: st) G h k := E_iand (by rfl)
theorem e121_18 : zE 121 d Q 18 [l0, l1] st G h k ↔ zE 121 d Q 22 [l0, l1] st G h k := E_goto (by rfl)
theorem e121_21 : zE 121 d Q 21 [l0, l1] st G h k ↔ zE 121 d Q 22 [l0, l1] (zI (-1) :: st) G h k := E_iconst (by rfl)
theorem e121_22 : zE 121 d Q 22 [l0, l1] [zI x] G h k ↔ Q (some (zI x)) G h := E_iret (by rfl) rfl
theorem e122_0 : zE 122 d Q 0 [some (zI x)] st G h k ↔ zE 122 d Q 1 [some (zI x)] (zI x :: st) G h k := E_iload_n (by rfl) rfl
theorem e122_1 : zE 122 d Q 1 [l0] st G h k ↔ zE 122 d Q 3 [l0] (zI 97 :: st) G h k := E_bipush (by rfl)
theorem e122_3 : zE 122 d Q 3 [l0] (zI y :: zI x :: st) G h k ↔ ((x < y → zE 122 d Q 16 [l0] st G h k) ∧ (¬ (x < y) → zE 122 d Q 6 [l0] st G h k)) := E_icmp_lt (by rfl)
theorem e122_6 : zE 122 d Q 6 [some (zI x)] st G h k ↔ zE 122 d Q 7 [some (zI x)] (zI x :: st) G h k := E_iload_n (by rfl) rfl
theorem e122_7 : zE 122 d Q 7 [l0] st G h k ↔ zE 122 d Q 9 [l0] (zI 122 :: st) G h k := E_bipush (by rfl)
theorem e122_9 : zE 122 d Q 9 [l0] (zI y :: zI x :: st) G h k ↔ ((y < x → zE 122 d Q 16 [l0] st G h k) ∧ (¬ (y < x) → zE 122 d Q 12 [l0] st G h k)) := E_icmp_gt (by rfl)
theorem e122_12 : zE 122 d Q 12 [l0] st G h k ↔ zE 122 d Q 13 [l0] (zI 1 :: st) G h k := E_iconst (by rfl)
theorem e122_13 : zE 122 d Q 13 [l0] st G h k ↔ zE 122 d Q 17 [l0] st G h k := E_goto (by rfl)
theorem e122_16 : zE 122 d Q 16 [l0] st G h k ↔ zE 122 d Q 17 [l0] (zI 0 :: st) G h k := E_iconst (by rfl)
theorem e122_17 : zE 122 d Q 17 [l0] [zI x] G h k ↔ ((x = 0 ∨ x = 1) ∧ Q (some (zI x)) G h) := E_zret (by rfl) rfl
theorem e123_0 : zE 123 d Q 0 [some (zI x)] st G h k ↔ zE 123 d Q 1 [some (zI x)] (zI x :: st) G h k := E_iload_n (by rfl) rfl
theorem e123_1 : zE 123 d Q 1 [l0] st G h k ↔ zE 123 d Q 3 [l0] (zI 48 :: st) G h k := E_bipush (by rfl)
theorem e123_3 : zE 123 d Q 3 [l0] (zI y :: zI x :: st) G h k ↔ ((x < y → zE 123 d Q 16 [l0] st G h k) ∧ (¬ (x < y) → zE 123 d Q 6 [l0] st G h k)) := E_icmp_lt (by rfl)
theorem e123_6 : zE 123 d Q 6 [some (zI x)] st G h k ↔ zE 123 d Q 7 [some (zI x)] (zI x :: st) G h k := E_iload_n (by rfl) rfl
theorem e123_7 : zE 123 d Q 7 [l0] st G h k ↔ zE 123 d Q 9 [l0] (zI 57 :: st) G h k := E_bipush (by rfl)
theorem e123_9 : zE 123 d Q 9 [l0] (zI y :: zI x :: st) G h k ↔ ((y < x → zE 123 d Q 16 [l0] st G h k) ∧ (¬ (y < x) → zE 123 d Q 12 [l0] st G h k)) := E_icmp_gt (by rfl)
theorem e123_12 : zE 123 d Q 12 [l0] st G h k ↔ zE 123 d Q 13 [l0] (zI 1 :: st) G h k := E_iconst (by rfl)
theorem e123_13 : zE 123 d Q 13 [l0] st G h k ↔ zE 123 d Q 17 [l0] st G h k := E_goto (by rfl)
theorem e123_16 : zE 123 d Q 16 [l0] st G h k ↔ zE 123 d Q 17 [l0] (zI 0 :: st) G h k := E_iconst (by rfl)
theorem e123_17 : zE 123 d Q 17 [l0] [zI x] G h k ↔ ((x = 0 ∨ x = 1) ∧ Q (some (zI x)) G h) := E_zret (by rfl) rfl
theorem e124_0 : zE 124 d Q 0 [l0, l1, l2, l3] st G h k ↔ zE 124 d Q 1 [l0, l1, l2, l3] (zL 0 :: st) G h k := E_lconst (by rfl)
theorem e124_1 : zE 124 d Q 1 [l0, l1, l2, l3] (zL x :: st) G h k ↔ zE 124 d Q 2 [(zclr l0), some (zL x), none, l3] st G h k := E_lstore_n (by rfl) (by decide)
theorem e124_2 : zE 124 d Q 2 [l0, l1, l2, l3] st G h k ↔ zE 124 d Q 3 [l0, l1, l2, l3] (zI 0 :: st) G h k := E_iconst (by rfl)
theorem e124_3 : zE 124 d Q 3 [l0, l1, l2, l3] (zI x :: st) G h k ↔ zE 124 d Q 4 [l0, l1, (zclr l2), some (zI x)] st G h k := E_istore_n (by rfl) (by decide)
theorem e124_4 : zE 124 d Q 4 [l0, l1, l2, some (zI x)] st G h k ↔ zE 124 d Q 5 [l0, l1, l2, some (zI x)] (zI x :: st) G h k := E_iload_n (by rfl) rfl
theorem e124_5 : zE 124 d Q 5 [some (.inr (.inr w9)), l1, l2, l3] st G h k ↔ zE 124 d Q 6 [some (.inr (.inr w9)), l1, l2, l3] (.inr (.inr w9) :: st) G h k := E_aload_n (by rfl) rfl
theorem e124_6 : zE 124 d Q 6 [l0, l1, l2, l3] (zT q :: st) G h k ↔ (zsum st ≤ 8 ∧ q < 16 ∧ zE 124 d Q 9 [l0, l1, l2, l3] (zI ((zstr.getD q []).length) :: st) G h k) := E_strlen2 (by rfl) rfl
theorem e124_9 : zE 124 d Q 9 [l0, l1, l2, l3] (zI y :: zI x :: st) G h k ↔ ((y ≤ x → zE 124 d Q 36 [l0, l1, l2, l3] st G h k) ∧ (¬ (y ≤ x) → zE 124 d Q 12 [l0, l1, l2, l3] st G h k)) := E_icmp_ge (by rfl)
theorem e124_12 : zE 124 d Q 12 [l0, l1, l2, l3] st G h k ↔ zE 124 d Q 15 [l0, l1, l2, l3] (zL 32 :: st) G h k := E_ldc2_w (by rfl)
theorem e124_15 : zE 124 d Q 15 [l0, some (zL x), l2, l3] st G h k ↔ zE 124 d Q 16 [l0, some (zL x), l2, l3] (zL x :: st) G h k := E_lload_n (by rfl) rfl
theorem e124_16 : zE 124 d Q 16 [l0, l1, l2, l3] (zL y :: zL x :: st) G h k ↔ zE 124 d Q 17 [l0, l1, l2, l3] (zL (wl (x * y)) :: st) G h k := E_lmul (by rfl)
theorem e124_17 : zE 124 d Q 17 [some (.inr (.inr w9)), l1, l2, l3] st G h k ↔ zE 124 d Q 18 [some (.inr (.inr w9)), l1, l2, l3] (.inr (.inr w9) :: st) G h k := E_aload_n (by rfl) rfl
theorem e124_18 : zE 124 d Q 18 [l0, l1, l2, some (zI x)] st G h k ↔ zE 124 d Q 19 [l0, l1, l2, some (zI x)] (zI x :: st) G h k := E_iload_n (by rfl) rfl
theorem e124_19 : zE 124 d Q 19 [l0, l1, l2, l3] (zI i :: zT q :: st) G h k ↔ (zsum st ≤ 8 ∧ q < 16 ∧ (0 ≤ i ∧ i < (zstr.getD q []).length) ∧ zE 124 d Q 22 [l0, l1, l2, l3] (zI ((zstr.getD q []).getD i.toNat 0) :: st) G h k) := E_strat2 (by rfl) rfl
theorem e124_22 : zE 124 d Q 22 [l0, l1, l2, l3] st G h k ↔ zE 124 d Q 24 [l0, l1, l2, l3] (zI 97 :: st) G h k := E_bipush (by rfl)
theorem e124_24 : zE 124 d Q 24 [l0, l1, l2, l3] (zI y :: zI x :: st) G h k ↔ zE 124 d Q 25 [l0, l1, l2, l3] (zI (wr (x - y)) :: st) G h k := E_isub (by rfl)
theorem e124_25 : zE 124 d Q 25 [l0, l1, l2, l3] st G h k ↔ zE 124 d Q 26 [l0, l1, l2, l3] (zI 1 :: st) G h k := E_iconst (by rfl)
theorem e124_26 : zE 124 d Q 26 [l0, l1, l2, l3] (zI y :: zI x :: st) G h k ↔ zE 124 d Q 27 [l0, l1, l2, l3] (zI (wr (x + y)) :: st) G h k := E_iadd (by rfl)
theorem e124_27 : zE 124 d Q 27 [l0, l1, l2, l3] (zI x :: st) G h k ↔ zE 124 d Q 28 [l0, l1, l2, l3] (zL x :: st) G h k := E_i2l (by rfl)
theorem e124_28 : zE 124 d Q 28 [l0, l1, l2, l3] (zL y :: zL x :: st) G h k ↔ zE 124 d Q 29 [l0, l1, l2, l3] (zL (wl (x + y)) :: st) G h k := E_ladd (by rfl)
theorem e124_29 : zE 124 d Q 29 [l0, l1, l2, l3] (zL x :: st) G h k ↔ zE 124 d Q 30 [(zclr l0), some (zL x), none, l3] st G h k := E_lstore_n (by rfl) (by decide)
theorem e124_30 : zE 124 d Q 30 [l0, l1, l2, some (zI x)] st G h k ↔ zE 124 d Q 33 [l0, l1, (zclr l2), some (zI (wr (x + 1)))] st G h k := E_iinc (by rfl) rfl
theorem e124_33 : zE 124 d Q 33 [l0, l1, l2, l3] st G h k ↔ zE 124 d Q 4 [l0, l1, l2, l3] st G h k := E_goto (by rfl)
theorem e124_36 : zE 124 d Q 36 [l0, some (zL x), l2, l3] st G h k ↔ zE 124 d Q 37 [l0, some (zL x), l2, l3] (zL x :: st) G h k := E_lload_n (by rfl) rfl
theorem e124_37 : zE 124 d Q 37 [l0, l1, l2, l3] [zL x] G h k ↔ Q (some (zL x)) G h := E_lret (by rfl) rfl
theorem e125_0 : zE 125 d Q 0 [some (.inr (.inr w9)), l1, l2] st G h k ↔ zE 125 d Q 1 [some (.inr (.inr w9)), l1, l2] (.inr (.inr w9) :: st) G h k := E_aload_n (by rfl) rfl
theorem e125_1 : zE 125 d Q 1 [l0, l1, l2] (zR (some r) :: st) G h k ↔ (G.2.1 r = 9 ∧ zE 125 d Q 4 [l0, l1, l2] (zI (h r 9) :: st) G h k) := E_getI (by rfl) (by decide)
theorem e125_4 : zE 125 d Q 4 [l0, l1, l2] st G h k ↔ zE 125 d Q 5 [l0, l1, l2] (zI 5 :: st) G h k := E_iconst (by rfl)
theorem e125_5 : zE 125 d Q 5 [l0, l1, l2] (zI y :: zI x :: st) G h k ↔ ((¬ x = y → zE 125 d Q 9 [l0, l1, l2] st G h k) ∧ (¬ (¬ x = y) → zE 125 d Q 8 [l0, l1, l2] st G h k)) := E_icmp_ne (by rfl)
theorem e125_8 : zE 125 d Q 8 [l0, l1, l2] [] G h k ↔ Q none G h := E_vret (by rfl) rfl
theorem e125_9 : zE 125 d Q 9 [some (.inr (.inr w9)), l1, l2] st G h k ↔ zE 125 d Q 10 [some (.inr (.inr w9)), l1, l2] (.inr (.inr w9) :: st) G h k := E_aload_n (by rfl) rfl
theorem e125_10 : zE 125 d Q 10 [some (.inr (.inr w9)), l1, l2] st G h k ↔ zE 125 d Q 11 [some (.inr (.inr w9)), l1, l2] (.inr (.inr w9) :: st) G h k := E_aload_n (by rfl) rfl
theorem e125_11 : zE 125 d Q 11 [l0, l1, l2] (zR (some r) :: st) G h k ↔ (G.2.1 r = 9 ∧ zE 125 d Q 14 [l0, l1, l2] (zI (h r 8) :: st) G h k) := E_getI (by rfl) (by decide)
theorem e125_14 : zE 125 d Q 14 [l0, l1, l2] (v0 :: zR (some r) :: st) G h k ↔ (zsum st ≤ 8 ∧ G.2.1 r = 9 ∧ zRunD ztb zmt' d 121 [zR (some r), v0] G h (fun v G' h' => zE 125 d Q 17 [l0, l1, l2] (v.toList ++ st) G' h' k)) := E_invV2z (by rfl) (by decide) rfl
theorem e125_17 : zE 125 d Q 17 [l0, l1, l2] st G h k ↔ zE 125 d Q 19 [l0, l1, l2] (zI 32 :: st) G h k := E_bipush (by rfl)
theorem e125_19 : zE 125 d Q 19 [l0, l1, l2] (zI y :: zI x :: st) G h k ↔ ((¬ x = y → zE 125 d Q 35 [l0, l1, l2] st G h k) ∧ (¬ (¬ x = y) → zE 125 d Q 22 [l0, l1, l2] st G h k)) := E_icmp_ne (by rfl)
theorem e125_22 : zE 125 d Q 22 [some (.inr (.inr w9)), l1, l2] st G h k ↔ zE 125 d Q 23 [some (.inr (.inr w9)), l1, l2] (.inr (.inr w9) :: st) G h k := E_aload_n (by rfl) rfl
theorem e125_23 : zE 125 d Q 23 [l0, l1, l2] (.inr (.inr w9) :: st) G h k ↔ zE 125 d Q 24 [l0, l1, l2] (.inr (.inr w9) :: .inr (.inr w9) :: st) G h k := E_dup (by rfl) rfl
theorem e125_24 : zE 125 d Q 24 [l0, l1, l2] (zR (some r) :: st) G h k ↔ (G.2.1 r = 9 ∧ zE 125 d Q 27 [l0, l1, l2] (zI (h r 8) :: st) G h k) := E_getI (by rfl) (by decide)
theorem e125_27 : zE 125 d Q 27 [l0, l1, l2] st G h k ↔ zE 125 d Q 28 [l0, l1, l2] (zI 1 :: st) G h k := E_iconst (by rfl)
theorem e125_28 : zE 125 d Q 28 [l0, l1, l2] (zI y :: zI x :: st) G h k ↔ zE 125 d Q 29 [l0, l1, l2] (zI (wr (x + y)) :: st) G h k := E_iadd (by rfl)
theorem e125_29 : zE 125 d Q 29 [l0, l1, l2] (zI x :: zR (some r) :: st) G h k ↔ (G.2.1 r = 9 ∧ zE 125 d Q 32 [l0, l1, l2] st G (zu h r 8 x) k) := E_putI (by rfl) rfl
theorem e125_32 : zE 125 d Q 32 [l0, l1, l2] st G h k ↔ zE 125 d Q 9 [l0, l1, l2] st G h k := E_goto (by rfl)
theorem e125_35 : zE 125 d Q 35 [some (.inr (.inr w9)), l1, l2] st G h k ↔ zE 125 d Q 36 [some (.inr (.inr w9)), l1, l2] (.inr (.inr w9) :: st) G h k := E_aload_n (by rfl) rfl
theorem e125_36 : zE 125 d Q 36 [some (.inr (.inr w9)), l1, l2] st G h k ↔ zE 125 d Q 37 [some (.inr (.inr w9)), l1, l2] (.inr (.inr w9) :: st) G h k := E_aload_n (by rfl) rfl
theorem e125_37 : zE 125 d Q 37 [l0, l1, l2] (zR (some r) :: st) G h k ↔ (G.2.1 r = 9 ∧ zE 125 d Q 40 [l0, l1, l2] (zI (h r 8) :: st) G h k) := E_getI (by rfl) (by decide)
theorem e125_40 : zE 125 d Q 40 [l0, l1, l2] (zI x :: zR (some r) :: st) G h k ↔ (G.2.1 r = 9 ∧ zE 125 d Q 43 [l0, l1, l2] st G (zu h r 10 x) k) := E_putI (by rfl) rfl
theorem e125_43 : zE 125 d Q 43 [some (.inr (.inr w9)), l1, l2] st G h k ↔ zE 125 d Q 44 [some (.inr (.inr w9)), l1, l2] (.inr (.inr w9) :: st) G h k := E_aload_n (by rfl) rfl
theorem e125_44 : zE 125 d Q 44 [l0, l1, l2] st G h k ↔ zE 125 d Q 45 [l0, l1, l2] (zI 0 :: st) G h k := E_iconst (by rfl)
theorem e125_45 : zE 125 d Q 45 [l0, l1, l2] (zI x :: zR (some r) :: st) G h k ↔ (G.2.1 r = 9 ∧ zE 125 d Q 48 [l0, l1, l2] st G (zu h r 9 x) k) := E_putI (by rfl) rfl
theorem e125_48 : zE 125 d Q 48 [some (.inr (.inr w9)), l1, l2] st G h k ↔ zE 125 d Q 49 [some (.inr (.inr w9)), l1, l2] (.inr (.inr w9) :: st) G h k := E_aload_n (by rfl) rfl
theorem e125_49 : zE 125 d Q 49 [l0, l1, l2] st G h k ↔ zE 125 d Q 50 [l0, l1, l2] (zI 0 :: st) G h k := E_iconst (by rfl)
theorem e125_50 : zE 125 d Q 50 [l0, l1, l2] (zI x :: zR (some r) :: st) G h k ↔ (G.2.1 r = 9 ∧ zE 125 d Q 53 [l0, l1, l2] st G (zu h r 11 x) k) := E_putI (by rfl) rfl
theorem e125_53 : zE 125 d Q 53 [some (.inr (.inr w9)), l1, l2] st G h k ↔ zE 125 d Q 54 [some (.inr (.inr w9)), l1, l2] (.inr (.inr w9) :: st) G h k := E_aload_n (by rfl) rfl
theorem e125_54 : zE 125 d Q 54 [some (.inr (.inr w9)), l1, l2] st G h k ↔ zE 125 d Q 55 [some (.inr (.inr w9)), l1, l2] (.inr (.inr w9) :: st) G h k := E_aload_n (by rfl) rfl
theorem e125_55 : zE 125 d Q 55 [l0, l1, l2] (zR (some r) :: st) G h k ↔ (G.2.1 r = 9 ∧ zE 125 d Q 58 [l0, l1, l2] (zI (h r 8) :: st) G h k) := E_getI (by rfl) (by decide)
theorem e125_58 : zE 125 d Q 58 [l0, l1, l2] (v0 :: zR (some r) :: st) G h k ↔ (zsum st ≤ 8 ∧ G.2.1 r = 9 ∧ zRunD ztb zmt' d 121 [zR (some r), v0] G h (fun v G' h' => zE 125 d Q 61 [l0, l1, l2] (v.toList ++ st) G' h' k)) := E_invV2z (by rfl) (by decide) rfl
theorem e125_61 : zE 125 d Q 61 [l0, l1, l2] (zI x :: st) G h k ↔ zE 125 d Q 62 [(zclr l0), some (zI x), l2] st G h k := E_istore_n (by rfl) (by decide)
theorem e125_62 : zE 125 d Q 62 [l0, l1, l2] st G h k ↔ zE 125 d Q 63 [l0, l1, l2] (zI 0 :: st) G h k := E_iconst (by rfl)
theorem e125_63 : zE 125 d Q 63 [l0, l1, l2] (zI x :: st) G h k ↔ zE 125 d Q 64 [l0, (zclr l1), some (zI x)] st G h k := E_istore_n (by rfl) (by decide)
theorem e125_64 : zE 125 d Q 64 [l0, some (zI x), l2] st G h k ↔ zE 125 d Q 65 [l0, some (zI x), l2] (zI x :: st) G h k := E_iload_n (by rfl) rfl
theorem e125_65 : zE 125 d Q 65 [l0, l1, l2] st G h k ↔ zE 125 d Q 66 [l0, l1, l2] (zI (-1) :: st) G h k := E_iconst (by rfl)
theorem e125_66 : zE 125 d Q 66 [l0, l1, l2] (zI y :: zI x :: st) G h k ↔ ((¬ x = y → zE 125 d Q 77 [l0, l1, l2] st G h k) ∧ (¬ (¬ x = y) → zE 125 d Q 69 [l0, l1, l2] st G h k)) := E_icmp_ne (by rfl)
theorem e125_69 : zE 125 d Q 69 [some (.inr (.inr w9)), l1, l2] st G h k ↔ zE 125 d Q 70 [some (.inr (.inr w9)), l1, l2] (.inr (.inr w9) :: st) G h k := E_aload_n (by rfl) rfl
theorem e125_70 : zE 125 d Q 70 [l0, l1, l2] st G h k ↔ zE 125 d Q 71 [l0, l1, l2] (zI 1 :: st) G h k := E_iconst (by rfl)
theorem e125_71 : zE 125 d Q 71 [l0, l1, l2] (zI x :: zR (some r) :: st) G h k ↔ (G.2.1 r = 9 ∧ zE 125 d Q 74 [l0, l1, l2] st G (zu h r 9 x) k) := E_putI (by rfl) rfl
theorem e125_74 : zE 125 d Q 74 [l0, l1, l2] st G h k ↔ zE 125 d Q 281 [l0, l1, l2] st G h k := E_goto (by rfl)
theorem e125_77 : zE 125 d Q 77 [l0, some (zI x), l2] st G h k ↔ zE 125 d Q 78 [l0, some (zI x), l2] (zI x :: st) G h k := E_iload_n (by rfl) rfl
theorem e125_78 : zE 125 d Q 78 [l0, l1, l2] (v0 :: st) G h k ↔ (zsum st ≤ 8 ∧ zRunD ztb zmt' d 122 [v0] G h (fun v G' h' => zE 125 d Q 81 [l0, l1, l2] (v.toList ++ st) G' h' k)) := E_invS2z (by rfl) (by decide) rfl
theorem e125_81 : zE 125 d Q 81 [l0, l1, l2] (zI x :: st) G h k ↔ ((x = 0 → zE 125 d Q 166 [l0, l1, l2] st G h k) ∧ (¬ (x = 0) → zE 125 d Q 84 [l0, l1, l2] st G h k)) := E_if_eq (by rfl)
theorem e125_84 : zE 125 d Q 84 [some (.inr (.inr w9)), l1, l2] st G h k ↔ zE 125 d Q 85 [some (.inr (.inr w9)), l1, l2] (.inr (.inr w9) :: st) G h k := E_aload_n (by rfl) rfl
theorem e125_85 : zE 125 d Q 85 [l0, l1, l2] st G h k ↔ zE 125 d Q 86 [l0, l1, l2] (zL 0 :: st) G h k := E_lconst (by rfl)
theorem e125_86 : zE 125 d Q 86 [l0, l1, l2] (zL x :: zR (some r) :: st) G h k ↔ (G.2.1 r = 9 ∧ zE 125 d Q 89 [l0, l1, l2] st G (zu h r 15 x) k) := E_putL (by rfl) rfl
theorem e125_89 : zE 125 d Q 89 [some (.inr (.inr w9)), l1, l2] st G h k ↔ zE 125 d Q 90 [some (.inr (.inr w9)), l1, l2] (.inr (.inr w9) :: st) G h k := E_aload_n (by rfl) rfl
theorem e125_90 : zE 125 d Q 90 [some (.inr (.inr w9)), l1, l2] st G h k ↔ zE 125 d Q 91 [some (.inr (.inr w9)), l1, l2] (.inr (.inr w9) :: st) G h k := E_aload_n (by rfl) rfl
theorem e125_91 : zE 125 d Q 91 [l0, l1, l2] (zR (some r) :: st) G h k ↔ (G.2.1 r = 9 ∧ zE 125 d Q 94 [l0, l1, l2] (zI (h r 8) :: st) G h k) := E_getI (by rfl) (by decide)
theorem e125_94 : zE 125 d Q 94 [l0, l1, l2] (v0 :: zR (some r) :: st) G h k ↔ (zsum st ≤ 8 ∧ G.2.1 r = 9 ∧ zRunD ztb zmt' d 121 [zR (some r), v0] G h (fun v G' h' => zE 125 d Q 97 [l0, l1, l2] (v.toList ++ st) G' h' k)) := E_invV2z (by rfl) (by decide) rfl
theorem e125_97 : zE 125 d Q 97 [l0, l1, l2] (v0 :: st) G h k ↔ (zsum st ≤ 8 ∧ zRunD ztb zmt' d 122 [v0] G h (fun v G' h' => zE 125 d Q 100 [l0, l1, l2] (v.toList ++ st) G' h' k)) := E_invS2z (by rfl) (by decide) rfl
theorem e125_100 : zE 125 d Q 100 [l0, l1, l2] (zI x :: st) G h k ↔ ((x = 0 → zE 125 d Q 152 [l0, l1, l2] st G h k) ∧ (¬ (x = 0) → zE 125 d Q 103 [l0, l1, l2] st G h k)) := E_if_eq (by rfl)
theorem e125_103 : zE 125 d Q 103 [l0, l1, some (zI x)] st G h k ↔ zE 125 d Q 104 [l0, l1, some (zI x)] (zI x :: st) G h k := E_iload_n (by rfl) rfl
theorem e125_104 : zE 125 d Q 104 [l0, l1, l2] st G h k ↔ zE 125 d Q 106 [l0, l1, l2] (zI 8 :: st) G h k := E_bipush (by rfl)
theorem e125_106 : zE 125 d Q 106 [l0, l1, l2] (zI y :: zI x :: st) G h k ↔ ((y ≤ x → zE 125 d Q 136 [l0, l1, l2] st G h k) ∧ (¬ (y ≤ x) → zE 125 d Q 109 [l0, l1, l2] st G h k)) := E_icmp_ge (by rfl)
theorem e125_109 : zE 125 d Q 109 [some (.inr (.inr w9)), l1, l2] st G h k ↔ zE 125 d Q 110 [some (.inr (.inr w9)), l1, l2] (.inr (.inr w9) :: st) G h k := E_aload_n (by rfl) rfl
theorem e125_110 : zE 125 d Q 110 [l0, l1, l2] st G h k ↔ zE 125 d Q 113 [l0, l1, l2] (zL 32 :: st) G h k := E_ldc2_w (by rfl)
theorem e125_113 : zE 125 d Q 113 [some (.inr (.inr w9)), l1, l2] st G h k ↔ zE 125 d Q 114 [some (.inr (.inr w9)), l1, l2] (.inr (.inr w9) :: st) G h k := E_aload_n (by rfl) rfl
theorem e125_114 : zE 125 d Q 114 [l0, l1, l2] (zR (some r) :: st) G h k ↔ (G.2.1 r = 9 ∧ zE 125 d Q 117 [l0, l1, l2] (zL (h r 15) :: st) G h k) := E_getL (by rfl) rfl
theorem e125_117 : zE 125 d Q 117 [l0, l1, l2] (zL y :: zL x :: st) G h k ↔ zE 125 d Q 118 [l0, l1, l2] (zL (wl (x * y)) :: st) G h k := E_lmul (by rfl)
theorem e125_118 : zE 125 d Q 118 [some (.inr (.inr w9)), l1, l2] st G h k ↔ zE 125 d Q 119 [some (.inr (.inr w9)), l1, l2] (.inr (.inr w9) :: st) G h k := E_aload_n (by rfl) rfl
theorem e125_119 : zE 125 d Q 119 [some (.inr (.inr w9)), l1, l2] st G h k ↔ zE 125 d Q 120 [some (.inr (.inr w9)), l1, l2] (.inr (.inr w9) :: st) G h k := E_aload_n (by rfl) rfl
theorem e125_120 : zE 125 d Q 120 [l0, l1, l2] (zR (some r) :: st) G h k ↔ (G.2.1 r = 9 ∧ zE 125 d Q 123 [l0, l1, l2] (zI (h r 8) :: st) G h k) := E_getI (by rfl) (by decide)
theorem e125_123 : zE 125 d Q 123 [l0, l1, l2] (v0 :: zR (some r) :: st) G h k ↔ (zsum st ≤ 8 ∧ G.2.1 r = 9 ∧ zRunD ztb zmt' d 121 [zR (some r), v0] G h (fun v G' h' => zE 125 d Q 126 [l0, l1, l2] (v.toList ++ st) G' h' k)) := E_invV2z (by rfl) (by decide) rfl
theorem e125_126 : zE 125 d Q 126 [l0, l1, l2] st G h k ↔ zE 125 d Q 128 [l0, l1, l2] (zI 97 :: st) G h k := E_bipush (by rfl)
theorem e125_128 : zE 125 d Q 128 [l0, l1, l2] (zI y :: zI x :: st) G h k ↔ zE 125 d Q 129 [l0, l1, l2] (zI (wr (x - y)) :: st) G h k := E_isub (by rfl)
theorem e125_129 : zE 125 d Q 129 [l0, l1, l2] st G h k ↔ zE 125 d Q 130 [l0, l1, l2] (zI 1 :: st) G h k := E_iconst (by rfl)
theorem e125_130 : zE 125 d Q 130 [l0, l1, l2] (zI y :: zI x :: st) G h k ↔ zE 125 d Q 131 [l0, l1, l2] (zI (wr (x + y)) :: st) G h k := E_iadd (by rfl)
theorem e125_131 : zE 125 d Q 131 [l0, l1, l2] (zI x :: st) G h k ↔ zE 125 d Q 132 [l0, l1, l2] (zL x :: st) G h k := E_i2l (by rfl)
theorem e125_132 : zE 125 d Q 132 [l0, l1, l2] (zL y :: zL x :: st) G h k ↔ zE 125 d Q 133 [l0, l1, l2] (zL (wl (x + y)) :: st) G h k := E_ladd (by rfl)
theorem e125_133 : zE 125 d Q 133 [l0, l1, l2] (zL x :: zR (some r) :: st) G h k ↔ (G.2.1 r = 9 ∧ zE 125 d Q 136 [l0, l1, l2] st G (zu h r 15 x) k) := E_putL (by rfl) rfl
theorem e125_136 : zE 125 d Q 136 [l0, l1, some (zI x)] st G h k ↔ zE 125 d Q 139 [l0, (zclr l1), some (zI (wr (x + 1)))] st G h k := E_iinc (by rfl) rfl
theorem e125_139 : zE 125 d Q 139 [some (.inr (.inr w9)), l1, l2] st G h k ↔ zE 125 d Q 140 [some (.inr (.inr w9)), l1, l2] (.inr (.inr w9) :: st) G h k := E_aload_n (by rfl) rfl
theorem e125_140 : zE 125 d Q 140 [l0, l1, l2] (.inr (.inr w9) :: st) G h k ↔ zE 125 d Q 141 [l0, l1, l2] (.inr (.inr w9) :: .inr (.inr w9) :: st) G h k := E_dup (by rfl) rfl
theorem e125_141 : zE 125 d Q 141 [l0, l1, l2] (zR (some r) :: st) G h k ↔ (G.2.1 r = 9 ∧ zE 125 d Q 144 [l0, l1, l2] (zI (h r 8) :: st) G h k) := E_getI (by rfl) (by decide)
theorem e125_144 : zE 125 d Q 144 [l0, l1, l2] st G h k ↔ zE 125 d Q 145 [l0, l1, l2] (zI 1 :: st) G h k := E_iconst (by rfl)
theorem e125_145 : zE 125 d Q 145 [l0, l1, l2] (zI y :: zI x :: st) G h k ↔ zE 125 d Q 146 [l0, l1, l2] (zI (wr (x + y)) :: st) G h k := E_iadd (by rfl)
theorem e125_146 : zE 125 d Q 146 [l0, l1, l2] (zI x :: zR (some r) :: st) G h k ↔ (G.2.1 r = 9 ∧ zE 125 d Q 149 [l0, l1, l2] st G (zu h r 8 x) k) := E_putI (by rfl) rfl
theorem e125_149 : zE 125 d Q 149 [l0, l1, l2] st G h k ↔ zE 125 d Q 89 [l0, l1, l2] st G h k := E_goto (by rfl)
theorem e125_152 : zE 125 d Q 152 [l0, l1, some (zI x)] st G h k ↔ zE 125 d Q 153 [l0, l1, some (zI x)] (zI x :: st) G h k := E_iload_n (by rfl) rfl
theorem e125_153 : zE 125 d Q 153 [l0, l1, l2] st G h k ↔ zE 125 d Q 155 [l0, l1, l2] (zI 8 :: st) G h k := E_bipush (by rfl)
theorem e125_155 : zE 125 d Q 155 [l0, l1, l2] (zI y :: zI x :: st) G h k ↔ ((y < x → zE 125 d Q 281 [l0, l1, l2] st G h k) ∧ (¬ (y < x) → zE 125 d Q 158 [l0, l1, l2] st G h k)) := E_icmp_gt (by rfl)
theorem e125_158 : zE 125 d Q 158 [some (.inr (.inr w9)), l1, l2] st G h k ↔ zE 125 d Q 159 [some (.inr (.inr w9)), l1, l2] (.inr (.inr w9) :: st) G h k := E_aload_n (by rfl) rfl
theorem e125_159 : zE 125 d Q 159 [l0, l1, l2] st G h k ↔ zE 125 d Q 160 [l0, l1, l2] (zI 2 :: st) G h k := E_iconst (by rfl)
theorem e125_160 : zE 125 d Q 160 [l0, l1, l2] (zI x :: zR (some r) :: st) G h k ↔ (G.2.1 r = 9 ∧ zE 125 d Q 163 [l0, l1, l2] st G (zu h r 9 x) k) := E_putI (by rfl) rfl
theorem e125_163 : zE 125 d Q 163 [l0, l1, l2] st G h k ↔ zE 125 d Q 281 [l0, l1, l2] st G h k := E_goto (by rfl)
theorem e125_166 : zE 125 d Q 166 [l0, some (zI x), l2] st G h k ↔ zE 125 d Q 167 [l0, some (zI x), l2] (zI x :: st) G h k := E_iload_n (by rfl) rfl
theorem e125_167 : zE 125 d Q 167 [l0, l1, l2] (v0 :: st) G h k ↔ (zsum st ≤ 8 ∧ zRunD ztb zmt' d 123 [v0] G h (fun v G' h' => zE 125 d Q 170 [l0, l1, l2] (v.toList ++ st) G' h' k)) := E_invS2z (by rfl) (by decide) rfl
theorem e125_170 : zE 125 d Q 170 [l0, l1, l2] (zI x :: st) G h k ↔ ((x = 0 → zE 125 d Q 249 [l0, l1, l2] st G h k) ∧ (¬ (x = 0) → zE 125 d Q 173 [l0, l1, l2] st G h k)) := E_if_eq (by rfl)
theorem e125_173 : zE 125 d Q 173 [some (.inr (.inr w9)), l1, l2] st G h k ↔ zE 125 d Q 174 [some (.inr (.inr w9)), l1, l2] (.inr (.inr w9) :: st) G h k := E_aload_n (by rfl) rfl
theorem e125_174 : zE 125 d Q 174 [l0, l1, l2] st G h k ↔ zE 125 d Q 175 [l0, l1, l2] (zI 0 :: st) G h k := E_iconst (by rfl)
theorem e125_175 : zE 125 d Q 175 [l0, l1, l2] (zI x :: zR (some r) :: st) G h k ↔ (G.2.1 r = 9 ∧ zE 125 d Q 178 [l0, l1, l2] st G (zu h r 12 x) k) := E_putI (by rfl) rfl
theorem e125_178 : zE 125 d Q 178 [some (.inr (.inr w9)), l1, l2] st G h k ↔ zE 125 d Q 179 [some (.inr (.inr w9)), l1, l2] (.inr (.inr w9) :: st) G h k := E_aload_n (by rfl) rfl
theorem e125_179 : zE 125 d Q 179 [some (.inr (.inr w9)), l1, l2] st G h k ↔ zE 125 d Q 180 [some (.inr (.inr w9)), l1, l2] (.inr (.inr w9) :: st) G h k := E_aload_n (by rfl) rfl
theorem e125_180 : zE 125 d Q 180 [l0, l1, l2] (zR (some r) :: st) G h k ↔ (G.2.1 r = 9 ∧ zE 125 d Q 183 [l0, l1, l2] (zI (h r 8) :: st) G h k) := E_getI (by rfl) (by decide)
theorem e125_183 : zE 125 d Q 183 [l0, l1, l2] (v0 :: zR (some r) :: st) G h k ↔ (zsum st ≤ 8 ∧ G.2.1 r = 9 ∧ zRunD ztb zmt' d 121 [zR (some r), v0] G h (fun v G' h' => zE 125 d Q 186 [l0, l1, l2] (v.toList ++ st) G' h' k)) := E_invV2z (by rfl) (by decide) rfl
theorem e125_186 : zE 125 d Q 186 [l0, l1, l2] (v0 :: st) G h k ↔ (zsum st ≤ 8 ∧ zRunD ztb zmt' d 123 [v0] G h (fun v G' h' => zE 125 d Q 189 [l0, l1, l2] (v.toList ++ st) G' h' k)) := E_invS2z (by rfl) (by decide) rfl
theorem e125_189 : zE 125 d Q 189 [l0, l1, l2] (zI x :: st) G h k ↔ ((x = 0 → zE 125 d Q 236 [l0, l1, l2] st G h k) ∧ (¬ (x = 0) → zE 125 d Q 192 [l0, l1, l2] st G h k)) := E_if_eq (by rfl)
theorem e125_192 : zE 125 d Q 192 [l0, l1, some (zI x)] st G h k ↔ zE 125 d Q 193 [l0, l1, some (zI x)] (zI x :: st) G h k := E_iload_n (by rfl) rfl
theorem e125_193 : zE 125 d Q 193 [l0, l1, l2] st G h k ↔ zE 125 d Q 194 [l0, l1, l2] (zI 3 :: st) G h k := E_iconst (by rfl)
theorem e125_194 : zE 125 d Q 194 [l0, l1, l2] (zI y :: zI x :: st) G h k ↔ ((y ≤ x → zE 125 d Q 220 [l0, l1, l2] st G h k) ∧ (¬ (y ≤ x) → zE 125 d Q 197 [l0, l1, l2] st G h k)) := E_icmp_ge (by rfl)
theorem e125_197 : zE 125 d Q 197 [some (.inr (.inr w9)), l1, l2] st G h k ↔ zE 125 d Q 198 [some (.inr (.inr w9)), l1, l2] (.inr (.inr w9) :: st) G h k := E_aload_n (by rfl) rfl
theorem e125_198 : zE 125 d Q 198 [l0, l1, l2] st G h k ↔ zE 125 d Q 200 [l0, l1, l2] (zI 10 :: st) G h k := E_bipush (by rfl)
theorem e125_200 : zE 125 d Q 200 [some (.inr (.inr w9)), l1, l2] st G h k ↔ zE 125 d Q 201 [some (.inr (.inr w9)), l1, l2] (.inr (.inr w9) :: st) G h k := E_aload_n (by rfl) rfl
theorem e125_201 : zE 125 d Q 201 [l0, l1, l2] (zR (some r) :: st) G h k ↔ (G.2.1 r = 9 ∧ zE 125 d Q 204 [l0, l1, l2] (zI (h r 12) :: st) G h k) := E_getI (by rfl) (by decide)
theorem e125_204 : zE 125 d Q 204 [l0, l1, l2] (zI y :: zI x :: st) G h k ↔ zE 125 d Q 205 [l0, l1, l2] (zI (wr (x * y)) :: st) G h k := E_imul (by rfl)
theorem e125_205 : zE 125 d Q 205 [some (.inr (.inr w9)), l1, l2] st G h k ↔ zE 125 d Q 206 [some (.inr (.inr w9)), l1, l2] (.inr (.inr w9) :: st) G h k := E_aload_n (by rfl) rfl
theorem e125_206 : zE 125 d Q 206 [some (.inr (.inr w9)), l1, l2] st G h k ↔ zE 125 d Q 207 [some (.inr (.inr w9)), l1, l2] (.inr (.inr w9) :: st) G h k := E_aload_n (by rfl) rfl
theorem e125_207 : zE 125 d Q 207 [l0, l1, l2] (zR (some r) :: st) G h k ↔ (G.2.1 r = 9 ∧ zE 125 d Q 210 [l0, l1, l2] (zI (h r 8) :: st) G h k) := E_getI (by rfl) (by decide)
theorem e125_210 : zE 125 d Q 210 [l0, l1, l2] (v0 :: zR (some r) :: st) G h k ↔ (zsum st ≤ 8 ∧ G.2.1 r = 9 ∧ zRunD ztb zmt' d 121 [zR (some r), v0] G h (fun v G' h' => zE 125 d Q 213 [l0, l1, l2] (v.toList ++ st) G' h' k)) := E_invV2z (by rfl) (by decide) rfl
theorem e125_213 : zE 125 d Q 213 [l0, l1, l2] (zI y :: zI x :: st) G h k ↔ zE 125 d Q 214 [l0, l1, l2] (zI (wr (x + y)) :: st) G h k := E_iadd (by rfl)
theorem e125_214 : zE 125 d Q 214 [l0, l1, l2] st G h k ↔ zE 125 d Q 216 [l0, l1, l2] (zI 48 :: st) G h k := E_bipush (by rfl)
theorem e125_216 : zE 125 d Q 216 [l0, l1, l2] (zI y :: zI x :: st) G h k ↔ zE 125 d Q 217 [l0, l1, l2] (zI (wr (x - y)) :: st) G h k := E_isub (by rfl)
theorem e125_217 : zE 125 d Q 217 [l0, l1, l2] (zI x :: zR (some r) :: st) G h k ↔ (G.2.1 r = 9 ∧ zE 125 d Q 220 [l0, l1, l2] st G (zu h r 12 x) k) := E_putI (by rfl) rfl
theorem e125_220 : zE 125 d Q 220 [l0, l1, some (zI x)] st G h k ↔ zE 125 d Q 223 [l0, (zclr l1), some (zI (wr (x + 1)))] st G h k := E_iinc (by rfl) rfl
theorem e125_223 : zE 125 d Q 223 [some (.inr (.inr w9)), l1, l2] st G h k ↔ zE 125 d Q 224 [some (.inr (.inr w9)), l1, l2] (.inr (.inr w9) :: st) G h k := E_aload_n (by rfl) rfl
theorem e125_224 : zE 125 d Q 224 [l0, l1, l2] (.inr (.inr w9) :: st) G h k ↔ zE 125 d Q 225 [l0, l1, l2] (.inr (.inr w9) :: .inr (.inr w9) :: st) G h k := E_dup (by rfl) rfl
theorem e125_225 : zE 125 d Q 225 [l0, l1, l2] (zR (some r) :: st) G h k ↔ (G.2.1 r = 9 ∧ zE 125 d Q 228 [l0, l1, l2] (zI (h r 8) :: st) G h k) := E_getI (by rfl) (by decide)
theorem e125_228 : zE 125 d Q 228 [l0, l1, l2] st G h k ↔ zE 125 d Q 229 [l0, l1, l2] (zI 1 :: st) G h k := E_iconst (by rfl)
theorem e125_229 : zE 125 d Q 229 [l0, l1, l2] (zI y :: zI x :: st) G h k ↔ zE 125 d Q 230 [l0, l1, l2] (zI (wr (x + y)) :: st) G h k := E_iadd (by rfl)
theorem e125_230 : zE 125 d Q 230 [l0, l1, l2] (zI x :: zR (some r) :: st) G h k ↔ (G.2.1 r = 9 ∧ zE 125 d Q 233 [l0, l1, l2] st G (zu h r 8 x) k) := E_putI (by rfl) rfl
theorem e125_233 : zE 125 d Q 233 [l0, l1, l2] st G h k ↔ zE 125 d Q 178 [l0, l1, l2] st G h k := E_goto (by rfl)
theorem e125_236 : zE 125 d Q 236 [l0, l1, some (zI x)] st G h k ↔ zE 125 d Q 237 [l0, l1, some (zI x)] (zI x :: st) G h k := E_iload_n (by rfl) rfl
theorem e125_237 : zE 125 d Q 237 [l0, l1, l2] st G h k ↔ zE 125 d Q 238 [l0, l1, l2] (zI 3 :: st) G h k := E_iconst (by rfl)
theorem e125_238 : zE 125 d Q 238 [l0, l1, l2] (zI y :: zI x :: st) G h k ↔ ((y < x → zE 125 d Q 281 [l0, l1, l2] st G h k) ∧ (¬ (y < x) → zE 125 d Q 241 [l0, l1, l2] st G h k)) := E_icmp_gt (by rfl)
theorem e125_241 : zE 125 d Q 241 [some (.inr (.inr w9)), l1, l2] st G h k ↔ zE 125 d Q 242 [some (.inr (.inr w9)), l1, l2] (.inr (.inr w9) :: st) G h k := E_aload_n (by rfl) rfl
theorem e125_242 : zE 125 d Q 242 [l0, l1, l2] st G h k ↔ zE 125 d Q 243 [l0, l1, l2] (zI 3 :: st) G h k := E_iconst (by rfl)
theorem e125_243 : zE 125 d Q 243 [l0, l1, l2] (zI x :: zR (some r) :: st) G h k ↔ (G.2.1 r = 9 ∧ zE 125 d Q 246 [l0, l1, l2] st G (zu h r 9 x) k) := E_putI (by rfl) rfl
theorem e125_246 : zE 125 d Q 246 [l0, l1, l2] st G h k ↔ zE 125 d Q 281 [l0, l1, l2] st G h k := E_goto (by rfl)
theorem e125_249 : zE 125 d Q 249 [l0, some (zI x), l2] st G h k ↔ zE 125 d Q 250 [l0, some (zI x), l2] (zI x :: st) G h k := E_iload_n (by rfl) rfl
theorem e125_250 : zE 125 d Q 250 [l0, l1, l2] st G h k ↔ zE 125 d Q 252 [l0, l1, l2] (zI 59 :: st) G h k := E_bipush (by rfl)
theorem e125_252 : zE 125 d Q 252 [l0, l1, l2] (zI y :: zI x :: st) G h k ↔ ((x = y → zE 125 d Q 261 [l0, l1, l2] st G h k) ∧ (¬ (x = y) → zE 125 d Q 255 [l0, l1, l2] st G h k)) := E_icmp_eq (by rfl)
theorem e125_255 : zE 125 d Q 255 [l0, some (zI x), l2] st G h k ↔ zE 125 d Q 256 [l0, some (zI x), l2] (zI x :: st) G h k := E_iload_n (by rfl) rfl
theorem e125_256 : zE 125 d Q 256 [l0, l1, l2] st G h k ↔ zE 125 d Q 258 [l0, l1, l2] (zI 44 :: st) G h k := E_bipush (by rfl)
theorem e125_258 : zE 125 d Q 258 [l0, l1, l2] (zI y :: zI x :: st) G h k ↔ ((¬ x = y → zE 125 d Q 281 [l0, l1, l2] st G h k) ∧ (¬ (¬ x = y) → zE 125 d Q 261 [l0, l1, l2] st G h k)) := E_icmp_ne (by rfl)
theorem e125_261 : zE 125 d Q 261 [some (.inr (.inr w9)), l1, l2] st G h k ↔ zE 125 d Q 262 [some (.inr (.inr w9)), l1, l2] (.inr (.inr w9) :: st) G h k := E_aload_n (by rfl) rfl
theorem e125_262 : zE 125 d Q 262 [l0, l1, l2] st G h k ↔ zE 125 d Q 263 [l0, l1, l2] (zI 4 :: st) G h k := E_iconst (by rfl)
theorem e125_263 : zE 125 d Q 263 [l0, l1, l2] (zI x :: zR (some r) :: st) G h k ↔ (G.2.1 r = 9 ∧ zE 125 d Q 266 [l0, l1, l2] st G (zu h r 9 x) k) := E_putI (by rfl) rfl
theorem e125_266 : zE 125 d Q 266 [some (.inr (.inr w9)), l1, l2] st G h k ↔ zE 125 d Q 267 [some (.inr (.inr w9)), l1, l2] (.inr (.inr w9) :: st) G h k := E_aload_n (by rfl) rfl
theorem e125_267 : zE 125 d Q 267 [l0, some (zI x), l2] st G h k ↔ zE 125 d Q 268 [l0, some (zI x), l2] (zI x :: st) G h k := E_iload_n (by rfl) rfl
theorem e125_268 : zE 125 d Q 268 [l0, l1, l2] (zI x :: zR (some r) :: st) G h k ↔ (G.2.1 r = 9 ∧ zE 125 d Q 271 [l0, l1, l2] st G (zu h r 11 x) k) := E_putI (by rfl) rfl
theorem e125_271 : zE 125 d Q 271 [some (.inr (.inr w9)), l1, l2] st G h k ↔ zE 125 d Q 272 [some (.inr (.inr w9)), l1, l2] (.inr (.inr w9) :: st) G h k := E_aload_n (by rfl) rfl
theorem e125_272 : zE 125 d Q 272 [l0, l1, l2] (.inr (.inr w9) :: st) G h k ↔ zE 125 d Q 273 [l0, l1, l2] (.inr (.inr w9) :: .inr (.inr w9) :: st) G h k := E_dup (by rfl) rfl
theorem e125_273 : zE 125 d Q 273 [l0, l1, l2] (zR (some r) :: st) G h k ↔ (G.2.1 r = 9 ∧ zE 125 d Q 276 [l0, l1, l2] (zI (h r 8) :: st) G h k) := E_getI (by rfl) (by decide)
theorem e125_276 : zE 125 d Q 276 [l0, l1, l2] st G h k ↔ zE 125 d Q 277 [l0, l1, l2] (zI 1 :: st) G h k := E_iconst (by rfl)
theorem e125_277 : zE 125 d Q 277 [l0, l1, l2] (zI y :: zI x :: st) G h k ↔ zE 125 d Q 278 [l0, l1, l2] (zI (wr (x + y)) :: st) G h k := E_iadd (by rfl)
theorem e125_278 : zE 125 d Q 278 [l0, l1, l2] (zI x :: zR (some r) :: st) G h k ↔ (G.2.1 r = 9 ∧ zE 125 d Q 281 [l0, l1, l2] st G (zu h r 8 x) k) := E_putI (by rfl) rfl
theorem e125_281 : zE 125 d Q 281 [l0, l1, l2] [] G h k ↔ Q none G h := E_vret (by rfl) rfl
theorem e126_0 : zE 126 d Q 0 [some (.inr (.inr w9)), l1] st G h k ↔ zE 126 d Q 1 [some (.inr (.inr w9)), l1] (.inr (.inr w9) :: st) G h k := E_aload_n (by rfl) rfl
theorem e126_1 : zE 126 d Q 1 [l0, some (zI x)] st G h k ↔ zE 126 d Q 2 [l0, some (zI x)] (zI x :: st) G h k := E_iload_n (by rfl) rfl
theorem e126_2 : zE 126 d Q 2 [some (.inr (.inr w9)), l1] st G h k ↔ zE 126 d Q 3 [some (.inr (.inr w9)), l1] (.inr (.inr w9) :: st) G h k := E_aload_n (by rfl) rfl
theorem e126_3 : zE 126 d Q 3 [l0, l1] (zR (some r) :: st) G h k ↔ (G.2.1 r = 9 ∧ zE 126 d Q 6 [l0, l1] (zI (h r 10) :: st) G h k) := E_getI (by rfl) (by decide)
theorem e126_6 : zE 126 d Q 6 [l0, l1] (v1 :: v0 :: zR (some r) :: st) G h k ↔ (zsum st ≤ 8 ∧ G.2.1 r = 9 ∧ zRunD ztb zmt' d 127 [zR (some r), v0, v1] G h (fun v G' h' => zE 126 d Q 9 [l0, l1] (v.toList ++ st) G' h' k)) := E_invV2z (by rfl) (by decide) rfl
theorem e126_9 : zE 126 d Q 9 [l0, l1] [] G h k ↔ Q none G h := E_vret (by rfl) rfl
theorem e127_0 : zE 127 d Q 0 [some (.inr (.inr w9)), l1, l2] st G h k ↔ zE 127 d Q 1 [some (.inr (.inr w9)), l1, l2] (.inr (.inr w9) :: st) G h k := E_aload_n (by rfl) rfl
theorem e127_1 : zE 127 d Q 1 [l0, l1, l2] (zR (some r) :: st) G h k ↔ (G.2.1 r = 9 ∧ zE 127 d Q 4 [l0, l1, l2] (zI (h r 9) :: st) G h k) := E_getI (by rfl) (by decide)
theorem e127_4 : zE 127 d Q 4 [l0, l1, l2] st G h k ↔ zE 127 d Q 5 [l0, l1, l2] (zI 5 :: st) G h k := E_iconst (by rfl)
theorem e127_5 : zE 127 d Q 5 [l0, l1, l2] (zI y :: zI x :: st) G h k ↔ ((¬ x = y → zE 127 d Q 9 [l0, l1, l2] st G h k) ∧ (¬ (¬ x = y) → zE 127 d Q 8 [l0, l1, l2] st G h k)) := E_icmp_ne (by rfl)
theorem e127_8 : zE 127 d Q 8 [l0, l1, l2] [] G h k ↔ Q none G h := E_vret (by rfl) rfl
theorem e127_9 : zE 127 d Q 9 [some (.inr (.inr w9)), l1, l2] st G h k ↔ zE 127 d Q 10 [some (.inr (.inr w9)), l1, l2] (.inr (.inr w9) :: st) G h k := E_aload_n (by rfl) rfl
theorem e127_10 : zE 127 d Q 10 [l0, some (zI x), l2] st G h k ↔ zE 127 d Q 11 [l0, some (zI x), l2] (zI x :: st) G h k := E_iload_n (by rfl) rfl
theorem e127_11 : zE 127 d Q 11 [l0, l1, l2] (zI x :: zR (some r) :: st) G h k ↔ (G.2.1 r = 9 ∧ zE 127 d Q 14 [l0, l1, l2] st G (zu h r 13 x) k) := E_putI (by rfl) rfl
theorem e127_14 : zE 127 d Q 14 [some (.inr (.inr w9)), l1, l2] st G h k ↔ zE 127 d Q 15 [some (.inr (.inr w9)), l1, l2] (.inr (.inr w9) :: st) G h k := E_aload_n (by rfl) rfl
theorem e127_15 : zE 127 d Q 15 [l0, l1, some (zI x)] st G h k ↔ zE 127 d Q 16 [l0, l1, some (zI x)] (zI x :: st) G h k := E_iload_n (by rfl) rfl
theorem e127_16 : zE 127 d Q 16 [l0, l1, l2] (zI x :: zR (some r) :: st) G h k ↔ (G.2.1 r = 9 ∧ zE 127 d Q 19 [l0, l1, l2] st G (zu h r 14 x) k) := E_putI (by rfl) rfl
theorem e127_19 : zE 127 d Q 19 [some (.inr (.inr w9)), l1, l2] st G h k ↔ zE 127 d Q 20 [some (.inr (.inr w9)), l1, l2] (.inr (.inr w9) :: st) G h k := E_aload_n (by rfl) rfl
theorem e127_20 : zE 127 d Q 20 [l0, l1, l2] st G h k ↔ zE 127 d Q 21 [l0, l1, l2] (zI 5 :: st) G h k := E_iconst (by rfl)
theorem e127_21 : zE 127 d Q 21 [l0, l1, l2] (zI x :: zR (some r) :: st) G h k ↔ (G.2.1 r = 9 ∧ zE 127 d Q 24 [l0, l1, l2] st G (zu h r 9 x) k) := E_putI (by rfl) rfl
theorem e127_24 : zE 127 d Q 24 [l0, l1, l2] [] G h k ↔ Q none G h := E_vret (by rfl) rfl
theorem e128_0 : zE 128 d Q 0 [some (.inr (.inr w9)), l1] st G h k ↔ zE 128 d Q 1 [some (.inr (.inr w9)), l1] (.inr (.inr w9) :: st) G h k := E_aload_n (by rfl) rfl
theorem e128_1 : zE 128 d Q 1 [l0, l1] (zR (some r) :: st) G h k ↔ (G.2.1 r = 9 ∧ zE 128 d Q 4 [l0, l1] (zI (h r 9) :: st) G h k) := E_getI (by rfl) (by decide)
theorem e128_4 : zE 128 d Q 4 [l0, l1] st G h k ↔ zE 128 d Q 5 [l0, l1] (zI 2 :: st) G h k := E_iconst (by rfl)
theorem e128_5 : zE 128 d Q 5 [l0, l1] (zI y :: zI x :: st) G h k ↔ ((¬ x = y → zE 128 d Q 24 [l0, l1] st G h k) ∧ (¬ (¬ x = y) → zE 128 d Q 8 [l0, l1] st G h k)) := E_icmp_ne (by rfl)
theorem e128_8 : zE 128 d Q 8 [some (.inr (.inr w9)), l1] st G h k ↔ zE 128 d Q 9 [some (.inr (.inr w9)), l1] (.inr (.inr w9) :: st) G h k := E_aload_n (by rfl) rfl
theorem e128_9 : zE 128 d Q 9 [l0, l1] (zR (some r) :: st) G h k ↔ (G.2.1 r = 9 ∧ zE 128 d Q 12 [l0, l1] (zL (h r 15) :: st) G h k) := E_getL (by rfl) rfl
theorem e128_12 : zE 128 d Q 12 [l0, some (.inr (.inr w9))] st G h k ↔ zE 128 d Q 13 [l0, some (.inr (.inr w9))] (.inr (.inr w9) :: st) G h k := E_aload_n (by rfl) rfl
theorem e128_13 : zE 128 d Q 13 [l0, l1] (v0 :: st) G h k ↔ (zsum st ≤ 8 ∧ zRunD ztb zmt' d 124 [v0] G h (fun v G' h' => zE 128 d Q 16 [l0, l1] (v.toList ++ st) G' h' k)) := E_invS2z (by rfl) (by decide) rfl
theorem e128_16 : zE 128 d Q 16 [l0, l1] (zL y :: zL x :: st) G h k ↔ zE 128 d Q 17 [l0, l1] (zI (zlc x y) :: st) G h k := E_lcmp (by rfl)
theorem e128_17 : zE 128 d Q 17 [l0, l1] (zI x :: st) G h k ↔ ((¬ x = 0 → zE 128 d Q 24 [l0, l1] st G h k) ∧ (¬ (¬ x = 0) → zE 128 d Q 20 [l0, l1] st G h k)) := E_if_ne (by rfl)
theorem e128_20 : zE 128 d Q 20 [l0, l1] st G h k ↔ zE 128 d Q 21 [l0, l1] (zI 1 :: st) G h k := E_iconst (by rfl)
theorem e128_21 : zE 128 d Q 21 [l0, l1] st G h k ↔ zE 128 d Q 25 [l0, l1] st G h k := E_goto (by rfl)
theorem e128_24 : zE 128 d Q 24 [l0, l1] st G h k ↔ zE 128 d Q 25 [l0, l1] (zI 0 :: st) G h k := E_iconst (by rfl)
theorem e128_25 : zE 128 d Q 25 [l0, l1] [zI x] G h k ↔ ((x = 0 ∨ x = 1) ∧ Q (some (zI x)) G h) := E_zret (by rfl) rfl
theorem e129_0 : zE 129 d Q 0 [some (.inr (.inr w9)), l1, l2] st G h k ↔ zE 129 d Q 1 [some (.inr (.inr w9)), l1, l2] (.inr (.inr w9) :: st) G h k := E_aload_n (by rfl) rfl
theorem e129_1 : zE 129 d Q 1 [l0, l1, l2] (zR (some r) :: st) G h k ↔ (G.2.1 r = 9 ∧ zE 129 d Q 4 [l0, l1, l2] (zI (h r 9) :: st) G h k) := E_getI (by rfl) (by decide)
theorem e129_4 : zE 129 d Q 4 [l0, l1, l2] st G h k ↔ zE 129 d Q 5 [l0, l1, l2] (zI 4 :: st) G h k := E_iconst (by rfl)
theorem e129_5 : zE 129 d Q 5 [l0, l1, l2] (zI y :: zI x :: st) G h k ↔ ((¬ x = y → zE 129 d Q 20 [l0, l1, l2] st G h k) ∧ (¬ (¬ x = y) → zE 129 d Q 8 [l0, l1, l2] st G h k)) := E_icmp_ne (by rfl)
theorem e129_8 : zE 129 d Q 8 [some (.inr (.inr w9)), l1, l2] st G h k ↔ zE 129 d Q 9 [some (.inr (.inr w9)), l1, l2] (.inr (.inr w9) :: st) G h k := E_aload_n (by rfl) rfl
theorem e129_9 : zE 129 d Q 9 [l0, l1, l2] (zR (some r) :: st) G h k ↔ (G.2.1 r = 9 ∧ zE 129 d Q 12 [l0, l1, l2] (zI (h r 11) :: st) G h k) := E_getI (by rfl) (by decide)
theorem e129_12 : zE 129 d Q 12 [l0, some (zI x), l2] st G h k ↔ zE 129 d Q 13 [l0, some (zI x), l2] (zI x :: st) G h k := E_iload_n (by rfl) rfl
theorem e129_13 : zE 129 d Q 13 [l0, l1, l2] (zI y :: zI x :: st) G h k ↔ ((¬ x = y → zE 129 d Q 20 [l0, l1, l2] st G h k) ∧ (¬ (¬ x = y) → zE 129 d Q 16 [l0, l1, l2] st G h k)) := E_icmp_ne (by rfl)
theorem e129_16 : zE 129 d Q 16 [l0, l1, l2] st G h k ↔ zE 129 d Q 17 [l0, l1, l2] (zI 1 :: st) G h k := E_iconst (by rfl)
theorem e129_17 : zE 129 d Q 17 [l0, l1, l2] st G h k ↔ zE 129 d Q 21 [l0, l1, l2] st G h k := E_goto (by rfl)
theorem e129_20 : zE 129 d Q 20 [l0, l1, l2] st G h k ↔ zE 129 d Q 21 [l0, l1, l2] (zI 0 :: st) G h k := E_iconst (by rfl)
theorem e129_21 : zE 129 d Q 21 [l0, l1, l2] (zI x :: st) G h k ↔ zE 129 d Q 22 [l0, (zclr l1), some (zI x)] st G h k := E_istore_n (by rfl) (by decide)
theorem e129_22 : zE 129 d Q 22 [l0, l1, some (zI x)] st G h k ↔ zE 129 d Q 23 [l0, l1, some (zI x)] (zI x :: st) G h k := E_iload_n (by rfl) rfl
theorem e129_23 : zE 129 d Q 23 [l0, l1, l2] (zI x :: st) G h k ↔ ((x = 0 → zE 129 d Q 30 [l0, l1, l2] st G h k) ∧ (¬ (x = 0) → zE 129 d Q 26 [l0, l1, l2] st G h k)) := E_if_eq (by rfl)
theorem e129_26 : zE 129 d Q 26 [some (.inr (.inr w9)), l1, l2] st G h k ↔ zE 129 d Q 27 [some (.inr (.inr w9)), l1, l2] (.inr (.inr w9) :: st) G h k := E_aload_n (by rfl) rfl
theorem e129_27 : zE 129 d Q 27 [l0, l1, l2] (zR (some r) :: st) G h k ↔ (zsum st ≤ 8 ∧ G.2.1 r = 9 ∧ zRunD ztb zmt' d 125 [zR (some r)] G h (fun v G' h' => zE 129 d Q 30 [l0, l1, l2] (v.toList ++ st) G' h' k)) := E_invV2z (by rfl) (by decide) rfl
theorem e129_30 : zE 129 d Q 30 [l0, l1, some (zI x)] st G h k ↔ zE 129 d Q 31 [l0, l1, some (zI x)] (zI x :: st) G h k := E_iload_n (by rfl) rfl
theorem e129_31 : zE 129 d Q 31 [l0, l1, l2] [zI x] G h k ↔ ((x = 0 ∨ x = 1) ∧ Q (some (zI x)) G h) := E_zret (by rfl) rfl
theorem e130_0 : zE 130 d Q 0 [some (.inr (.inr w9)), l1, l2, l3] st G h k ↔ zE 130 d Q 1 [some (.inr (.inr w9)), l1, l2, l3] (.inr (.inr w9) :: st) G h k := E_aload_n (by rfl) rfl
theorem e130_1 : zE 130 d Q 1 [l0, l1, l2, l3] (zR (some r) :: st) G h k ↔ (G.2.1 r = 9 ∧ zE 130 d Q 4 [l0, l1, l2, l3] (zI (h r 9) :: st) G h k) := E_getI (by rfl) (by decide)
theorem e130_4 : zE 130 d Q 4 [l0, l1, l2, l3] st G h k ↔ zE 130 d Q 5 [l0, l1, l2, l3] (zI 3 :: st) G h k := E_iconst (by rfl)
theorem e130_5 : zE 130 d Q 5 [l0, l1, l2, l3] (zI y :: zI x :: st) G h k ↔ ((x = y → zE 130 d Q 16 [l0, l1, l2, l3] st G h k) ∧ (¬ (x = y) → zE 130 d Q 8 [l0, l1, l2, l3] st G h k)) := E_icmp_eq (by rfl)
theorem e130_8 : zE 130 d Q 8 [some (.inr (.inr w9)), l1, l2, l3] st G h k ↔ zE 130 d Q 9 [some (.inr (.inr w9)), l1, l2, l3] (.inr (.inr w9) :: st) G h k := E_aload_n (by rfl) rfl
theorem e130_9 : zE 130 d Q 9 [l0, l1, l2, l3] st G h k ↔ zE 130 d Q 10 [l0, l1, l2, l3] (zI 1 :: st) G h k := E_iconst (by rfl)
theorem e130_10 : zE 130 d Q 10 [l0, l1, l2, l3] (v0 :: zR (some r) :: st) G h k ↔ (zsum st ≤ 8 ∧ G.2.1 r = 9 ∧ zRunD ztb zmt' d 126 [zR (some r), v0] G h (fun v G' h' => zE 130 d Q 13 [l0, l1, l2, l3] (v.toList ++ st) G' h' k)) := E_invV2z (by rfl) (by decide) rfl
theorem e130_13 : zE 130 d Q 13 [l0, l1, l2, l3] st G h k ↔ zE 130 d Q 33 [l0, l1, l2, l3] st G h k := E_goto (by rfl)
theorem e130_16 : zE 130 d Q 16 [some (.inr (.inr w9)), l1, l2, l3] st G h k ↔ zE 130 d Q 17 [some (.inr (.inr w9)), l1, l2, l3] (.inr (.inr w9) :: st) G h k := E_aload_n (by rfl) rfl
theorem e130_17 : zE 130 d Q 17 [l0, l1, l2, l3] (zR (some r) :: st) G h k ↔ (G.2.1 r = 9 ∧ zE 130 d Q 20 [l0, l1, l2, l3] (zI (h r 12) :: st) G h k) := E_getI (by rfl) (by decide)
theorem e130_20 : zE 130 d Q 20 [l0, some (zI x), l2, l3] st G h k ↔ zE 130 d Q 21 [l0, some (zI x), l2, l3] (zI x :: st) G h k := E_iload_n (by rfl) rfl
theorem e130_21 : zE 130 d Q 21 [l0, l1, some (zI x), l3] st G h k ↔ zE 130 d Q 22 [l0, l1, some (zI x), l3] (zI x :: st) G h k := E_iload_n (by rfl) rfl
theorem e130_22 : zE 130 d Q 22 [l0, l1, l2, l3] (v2 :: v1 :: v0 :: st) G h k ↔ (zsum st ≤ 8 ∧ zRunD ztb zmt' d 120 [v0, v1, v2] G h (fun v G' h' => zE 130 d Q 25 [l0, l1, l2, l3] (v.toList ++ st) G' h' k)) := E_invS2z (by rfl) (by decide) rfl
theorem e130_25 : zE 130 d Q 25 [l0, l1, l2, l3] (zI x :: st) G h k ↔ ((¬ x = 0 → zE 130 d Q 33 [l0, l1, l2, l3] st G h k) ∧ (¬ (¬ x = 0) → zE 130 d Q 28 [l0, l1, l2, l3] st G h k)) := E_if_ne (by rfl)
theorem e130_28 : zE 130 d Q 28 [some (.inr (.inr w9)), l1, l2, l3] st G h k ↔ zE 130 d Q 29 [some (.inr (.inr w9)), l1, l2, l3] (.inr (.inr w9) :: st) G h k := E_aload_n (by rfl) rfl
theorem e130_29 : zE 130 d Q 29 [l0, l1, l2, l3] st G h k ↔ zE 130 d Q 30 [l0, l1, l2, l3] (zI 4 :: st) G h k := E_iconst (by rfl)
theorem e130_30 : zE 130 d Q 30 [l0, l1, l2, l3] (v0 :: zR (some r) :: st) G h k ↔ (zsum st ≤ 8 ∧ G.2.1 r = 9 ∧ zRunD ztb zmt' d 126 [zR (some r), v0] G h (fun v G' h' => zE 130 d Q 33 [l0, l1, l2, l3] (v.toList ++ st) G' h' k)) := E_invV2z (by rfl) (by decide) rfl
theorem e130_33 : zE 130 d Q 33 [some (.inr (.inr w9)), l1, l2, l3] st G h k ↔ zE 130 d Q 34 [some (.inr (.inr w9)), l1, l2, l3] (.inr (.inr w9) :: st) G h k := E_aload_n (by rfl) rfl
theorem e130_34 : zE 130 d Q 34 [l0, l1, l2, l3] (zR (some r) :: st) G h k ↔ (G.2.1 r = 9 ∧ zE 130 d Q 37 [l0, l1, l2, l3] (zI (h r 12) :: st) G h k) := E_getI (by rfl) (by decide)
theorem e130_37 : zE 130 d Q 37 [l0, l1, l2, l3] (zI x :: st) G h k ↔ zE 130 d Q 38 [l0, l1, (zclr l2), some (zI x)] st G h k := E_istore_n (by rfl) (by decide)
theorem e130_38 : zE 130 d Q 38 [some (.inr (.inr w9)), l1, l2, l3] st G h k ↔ zE 130 d Q 39 [some (.inr (.inr w9)), l1, l2, l3] (.inr (.inr w9) :: st) G h k := E_aload_n (by rfl) rfl
theorem e130_39 : zE 130 d Q 39 [l0, l1, l2, l3] (zR (some r) :: st) G h k ↔ (zsum st ≤ 8 ∧ G.2.1 r = 9 ∧ zRunD ztb zmt' d 125 [zR (some r)] G h (fun v G' h' => zE 130 d Q 42 [l0, l1, l2, l3] (v.toList ++ st) G' h' k)) := E_invV2z (by rfl) (by decide) rfl
theorem e130_42 : zE 130 d Q 42 [l0, l1, l2, some (zI x)] st G h k ↔ zE 130 d Q 43 [l0, l1, l2, some (zI x)] (zI x :: st) G h k := E_iload_n (by rfl) rfl
theorem e130_43 : zE 130 d Q 43 [l0, l1, l2, l3] [zI x] G h k ↔ Q (some (zI x)) G h := E_iret (by rfl) rfl
theorem e131_0 : zE 131 d Q 0 [some (.inr (.inr w9)), l1, l2] st G h k ↔ zE 131 d Q 1 [some (.inr (.inr w9)), l1, l2] (.inr (.inr w9) :: st) G h k := E_aload_n (by rfl) rfl
theorem e131_1 : zE 131 d Q 1 [l0, some (.inr (.inr w9)), l2] st G h k ↔ zE 131 d Q 2 [l0, some (.inr (.inr w9)), l2] (.inr (.inr w9) :: st) G h k := E_aload_n (by rfl) rfl
theorem e131_2 : zE 131 d Q 2 [l0, l1, l2] (v0 :: zR (some r) :: st) G h k ↔ (zsum st ≤ 8 ∧ G.2.1 r = 9 ∧ zRunD ztb zmt' d 128 [zR (some r), v0] G h (fun v G' h' => zE 131 d Q 5 [l0, l1, l2] (v.toList ++ st) G' h' k)) := E_invV2z (by rfl) (by decide) rfl
theorem e131_5 : zE 131 d Q 5 [l0, l1, l2] (zI x :: st) G h k ↔ ((¬ x = 0 → zE 131 d Q 13 [l0, l1, l2] st G h k) ∧ (¬ (¬ x = 0) → zE 131 d Q 8 [l0, l1, l2] st G h k)) := E_if_ne (by rfl)
theorem e131_8 : zE 131 d Q 8 [some (.inr (.inr w9)), l1, l2] st G h k ↔ zE 131 d Q 9 [some (.inr (.inr w9)), l1, l2] (.inr (.inr w9) :: st) G h k := E_aload_n (by rfl) rfl
theorem e131_9 : zE 131 d Q 9 [l0, l1, l2] st G h k ↔ zE 131 d Q 10 [l0, l1, l2] (zI 1 :: st) G h k := E_iconst (by rfl)
theorem e131_10 : zE 131 d Q 10 [l0, l1, l2] (v0 :: zR (some r) :: st) G h k ↔ (zsum st ≤ 8 ∧ G.2.1 r = 9 ∧ zRunD ztb zmt' d 126 [zR (some r), v0] G h (fun v G' h' => zE 131 d Q 13 [l0, l1, l2] (v.toList ++ st) G' h' k)) := E_invV2z (by rfl) (by decide) rfl
theorem e131_13 : zE 131 d Q 13 [some (.inr (.inr w9)), l1, l2] st G h k ↔ zE 131 d Q 14 [some (.inr (.inr w9)), l1, l2] (.inr (.inr w9) :: st) G h k := E_aload_n (by rfl) rfl
theorem e131_14 : zE 131 d Q 14 [l0, l1, l2] (zR (some r) :: st) G h k ↔ (zsum st ≤ 8 ∧ G.2.1 r = 9 ∧ zRunD ztb zmt' d 125 [zR (some r)] G h (fun v G' h' => zE 131 d Q 17 [l0, l1, l2] (v.toList ++ st) G' h' k)) := E_invV2z (by rfl) (by decide) rfl
theorem e131_17 : zE 131 d Q 17 [some (.inr (.inr w9)), l1, l2] st G h k ↔ zE 131 d Q 18 [some (.inr (.inr w9)), l1, l2] (.inr (.inr w9) :: st) G h k := E_aload_n (by rfl) rfl
theorem e131_18 : zE 131 d Q 18 [l0, l1, l2] st G h k ↔ zE 131 d Q 19 [l0, l1, l2] (zI 0 :: st) G h k := E_iconst (by rfl)
theorem e131_19 : zE 131 d Q 19 [l0, l1, some (zI x)] st G h k ↔ zE 131 d Q 20 [l0, l1, some (zI x)] (zI x :: st) G h k := E_iload_n (by rfl) rfl
theorem e131_20 : zE 131 d Q 20 [l0, l1, l2] (v1 :: v0 :: zR (some r) :: st) G h k ↔ (zsum st ≤ 8 ∧ G.2.1 r = 9 ∧ zRunD ztb zmt' d 130 [zR (some r), v0, v1] G h (fun v G' h' => zE 131 d Q 23 [l0, l1, l2] (v.toList ++ st) G' h' k)) := E_invV2z (by rfl) (by decide) rfl
theorem e131_23 : zE 131 d Q 23 [l0, l1, l2] [zI x] G h k ↔ Q (some (zI x)) G h := E_iret (by rfl) rfl
end SITES
