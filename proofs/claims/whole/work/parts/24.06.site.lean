section SITES
variable {d : Nat} {Q : zQ} {st : List zV} {G : zG} {h : zM} {k : zK} {x y i : Int} {r r1 r2 q : Nat} {w9 : Option Nat ⊕ Nat} {q9 : Option Nat} {v0 v1 v2 v3 v4 : zV} {l0 l1 l2 l3 l4 l5 l6 l7 l8 l9 l10 l11 l12 l13 l14 l15 : Option zV}
theorem e153_0 : zE 153 d Q 0 [l0, l1] st G h k ↔ zE 153 d Q 1 [l0, l1] (zI 0 :: st) G h k := E_iconst (by rfl)
theorem e153_1 : zE 153 d Q 1 [l0, l1] (zI x :: st) G h k ↔ zE 153 d Q 2 [(zclr l0), some (zI x)] st G h k := E_istore_n (by rfl) (by decide)
theorem e153_2 : zE 153 d Q 2 [l0, some (zI x)] st G h k ↔ zE 153 d Q 3 [l0, some (zI x)] (zI x :: st) G h k := E_iload_n (by rfl) rfl
theorem e153_3 : zE 153 d Q 3 [l0, l1] st G h k ↔ zE 153 d Q 4 [l0, l1] (zI 4 :: st) G h k := E_iconst (by rfl)
theorem e153_4 : zE 153 d Q 4 [l0, l1] (zI y :: zI x :: st) G h k ↔ ((y ≤ x → zE 153 d Q 28 [l0, l1] st G h k) ∧ (¬ (y ≤ x) → zE 153 d Q 7 [l0, l1] st G h k)) := E_icmp_ge (by rfl)
theorem e153_7 : zE 153 d Q 7 [some (.inr (.inr w9)), l1] st G h k ↔ zE 153 d Q 8 [some (.inr (.inr w9)), l1] (.inr (.inr w9) :: st) G h k := E_aload_n (by rfl) rfl
theorem e153_8 : zE 153 d Q 8 [l0, l1] (zR (some r) :: st) G h k ↔ (G.2.1 r = 9 ∧ zE 153 d Q 11 [l0, l1] (zR (G.2.2.2 r 29) :: st) G h k) := E_getR (by rfl) rfl
theorem e153_11 : zE 153 d Q 11 [l0, some (zI x)] st G h k ↔ zE 153 d Q 12 [l0, some (zI x)] (zI x :: st) G h k := E_iload_n (by rfl) rfl
theorem e153_12 : zE 153 d Q 12 [some (.inr (.inr w9)), l1] st G h k ↔ zE 153 d Q 13 [some (.inr (.inr w9)), l1] (.inr (.inr w9) :: st) G h k := E_aload_n (by rfl) rfl
theorem e153_13 : zE 153 d Q 13 [l0, l1] (zR (some r) :: st) G h k ↔ (G.2.1 r = 9 ∧ zE 153 d Q 16 [l0, l1] (zR (G.2.2.2 r 3) :: st) G h k) := E_getR (by rfl) rfl
theorem e153_16 : zE 153 d Q 16 [l0, l1] (zR (some r) :: st) G h k ↔ (G.2.1 r = 8 ∧ zE 153 d Q 19 [l0, l1] (zR (G.2.2.2 r 10) :: st) G h k) := E_getR (by rfl) rfl
theorem e153_19 : zE 153 d Q 19 [l0, some (zI x)] st G h k ↔ zE 153 d Q 20 [l0, some (zI x)] (zI x :: st) G h k := E_iload_n (by rfl) rfl
theorem e153_20 : zE 153 d Q 20 [l0, l1] (zI i :: zR (some r) :: st) G h k ↔ (G.2.1 r = 10 ∧ (0 ≤ i ∧ i < G.2.2.1 r) ∧ zE 153 d Q 21 [l0, l1] (zI (h r i.toNat) :: st) G h k) := E_iaload (by rfl)
theorem e153_21 : zE 153 d Q 21 [l0, l1] (zI x :: zI i :: zR (some r) :: st) G h k ↔ (G.2.1 r = 10 ∧ (0 ≤ i ∧ i < G.2.2.1 r) ∧ zE 153 d Q 22 [l0, l1] st G (zu h r i.toNat x) k) := E_iastore (by rfl)
theorem e153_22 : zE 153 d Q 22 [l0, some (zI x)] st G h k ↔ zE 153 d Q 25 [(zclr l0), some (zI (wr (x + 1)))] st G h k := E_iinc (by rfl) rfl
theorem e153_25 : zE 153 d Q 25 [l0, l1] st G h k ↔ zE 153 d Q 2 [l0, l1] st G h k := E_goto (by rfl)
theorem e153_28 : zE 153 d Q 28 [l0, l1] [] G h k ↔ Q none G h := E_vret (by rfl) rfl
theorem e154_0 : zE 154 d Q 0 [some (.inr (.inr w9)), l1] st G h k ↔ zE 154 d Q 1 [some (.inr (.inr w9)), l1] (.inr (.inr w9) :: st) G h k := E_aload_n (by rfl) rfl
theorem e154_1 : zE 154 d Q 1 [l0, l1] (zR (some r) :: st) G h k ↔ (G.2.1 r = 9 ∧ zE 154 d Q 4 [l0, l1] (zR (G.2.2.2 r 3) :: st) G h k) := E_getR (by rfl) rfl
theorem e154_4 : zE 154 d Q 4 [l0, l1] (zR q9 :: st) G h k ↔ ((q9 = none → zE 154 d Q 26 [l0, l1] st G h k) ∧ (∀ q, q9 = some q → zE 154 d Q 7 [l0, l1] st G h k)) := E_ifnull (by rfl)
theorem e154_7 : zE 154 d Q 7 [l0, some (zI x)] st G h k ↔ zE 154 d Q 8 [l0, some (zI x)] (zI x :: st) G h k := E_iload_n (by rfl) rfl
theorem e154_8 : zE 154 d Q 8 [l0, l1] (zI x :: st) G h k ↔ ((x < 0 → zE 154 d Q 26 [l0, l1] st G h k) ∧ (¬ (x < 0) → zE 154 d Q 11 [l0, l1] st G h k)) := E_if_lt (by rfl)
theorem e154_11 : zE 154 d Q 11 [l0, some (zI x)] st G h k ↔ zE 154 d Q 12 [l0, some (zI x)] (zI x :: st) G h k := E_iload_n (by rfl) rfl
theorem e154_12 : zE 154 d Q 12 [some (.inr (.inr w9)), l1] st G h k ↔ zE 154 d Q 13 [some (.inr (.inr w9)), l1] (.inr (.inr w9) :: st) G h k := E_aload_n (by rfl) rfl
theorem e154_13 : zE 154 d Q 13 [l0, l1] (zR (some r) :: st) G h k ↔ (G.2.1 r = 9 ∧ zE 154 d Q 16 [l0, l1] (zR (G.2.2.2 r 3) :: st) G h k) := E_getR (by rfl) rfl
theorem e154_16 : zE 154 d Q 16 [l0, l1] (zR (some r) :: st) G h k ↔ (G.2.1 r = 8 ∧ zE 154 d Q 19 [l0, l1] (zI (h r 0) :: st) G h k) := E_getI (by rfl) (by decide)
theorem e154_19 : zE 154 d Q 19 [l0, l1] (zI y :: zI x :: st) G h k ↔ ((y ≤ x → zE 154 d Q 26 [l0, l1] st G h k) ∧ (¬ (y ≤ x) → zE 154 d Q 22 [l0, l1] st G h k)) := E_icmp_ge (by rfl)
theorem e154_22 : zE 154 d Q 22 [l0, l1] st G h k ↔ zE 154 d Q 23 [l0, l1] (zI 1 :: st) G h k := E_iconst (by rfl)
theorem e154_23 : zE 154 d Q 23 [l0, l1] st G h k ↔ zE 154 d Q 27 [l0, l1] st G h k := E_goto (by rfl)
theorem e154_26 : zE 154 d Q 26 [l0, l1] st G h k ↔ zE 154 d Q 27 [l0, l1] (zI 0 :: st) G h k := E_iconst (by rfl)
theorem e154_27 : zE 154 d Q 27 [l0, l1] [zI x] G h k ↔ ((x = 0 ∨ x = 1) ∧ Q (some (zI x)) G h) := E_zret (by rfl) rfl
theorem e155_0 : zE 155 d Q 0 [some (.inr (.inr w9)), l1] st G h k ↔ zE 155 d Q 1 [some (.inr (.inr w9)), l1] (.inr (.inr w9) :: st) G h k := E_aload_n (by rfl) rfl
theorem e155_1 : zE 155 d Q 1 [l0, l1] (zR (some r) :: st) G h k ↔ (G.2.1 r = 9 ∧ zE 155 d Q 4 [l0, l1] (zR (G.2.2.2 r 3) :: st) G h k) := E_getR (by rfl) rfl
theorem e155_4 : zE 155 d Q 4 [l0, l1] (zR q9 :: st) G h k ↔ ((q9 = none → zE 155 d Q 26 [l0, l1] st G h k) ∧ (∀ q, q9 = some q → zE 155 d Q 7 [l0, l1] st G h k)) := E_ifnull (by rfl)
theorem e155_7 : zE 155 d Q 7 [l0, some (zI x)] st G h k ↔ zE 155 d Q 8 [l0, some (zI x)] (zI x :: st) G h k := E_iload_n (by rfl) rfl
theorem e155_8 : zE 155 d Q 8 [l0, l1] (zI x :: st) G h k ↔ ((x < 0 → zE 155 d Q 26 [l0, l1] st G h k) ∧ (¬ (x < 0) → zE 155 d Q 11 [l0, l1] st G h k)) := E_if_lt (by rfl)
theorem e155_11 : zE 155 d Q 11 [l0, some (zI x)] st G h k ↔ zE 155 d Q 12 [l0, some (zI x)] (zI x :: st) G h k := E_iload_n (by rfl) rfl
theorem e155_12 : zE 155 d Q 12 [some (.inr (.inr w9)), l1] st G h k ↔ zE 155 d Q 13 [some (.inr (.inr w9)), l1] (.inr (.inr w9) :: st) G h k := E_aload_n (by rfl) rfl
theorem e155_13 : zE 155 d Q 13 [l0, l1] (zR (some r) :: st) G h k ↔ (G.2.1 r = 9 ∧ zE 155 d Q 16 [l0, l1] (zR (G.2.2.2 r 3) :: st) G h k) := E_getR (by rfl) rfl
theorem e155_16 : zE 155 d Q 16 [l0, l1] (zR (some r) :: st) G h k ↔ (G.2.1 r = 8 ∧ zE 155 d Q 19 [l0, l1] (zI (h r 1) :: st) G h k) := E_getI (by rfl) (by decide)
theorem e155_19 : zE 155 d Q 19 [l0, l1] (zI y :: zI x :: st) G h k ↔ ((y ≤ x → zE 155 d Q 26 [l0, l1] st G h k) ∧ (¬ (y ≤ x) → zE 155 d Q 22 [l0, l1] st G h k)) := E_icmp_ge (by rfl)
theorem e155_22 : zE 155 d Q 22 [l0, l1] st G h k ↔ zE 155 d Q 23 [l0, l1] (zI 1 :: st) G h k := E_iconst (by rfl)
theorem e155_23 : zE 155 d Q 23 [l0, l1] st G h k ↔ zE 155 d Q 27 [l0, l1] st G h k := E_goto (by rfl)
theorem e155_26 : zE 155 d Q 26 [l0, l1] st G h k ↔ zE 155 d Q 27 [l0, l1] (zI 0 :: st) G h k := E_iconst (by rfl)
theorem e155_27 : zE 155 d Q 27 [l0, l1] [zI x] G h k ↔ ((x = 0 ∨ x = 1) ∧ Q (some (zI x)) G h) := E_zret (by rfl) rfl
theorem e156_0 : zE 156 d Q 0 [l0, some (zI x)] st G h k ↔ zE 156 d Q 1 [l0, some (zI x)] (zI x :: st) G h k := E_iload_n (by rfl) rfl
theorem e156_1 : zE 156 d Q 1 [l0, l1] (zI x :: st) G h k ↔ ((x < 0 → zE 156 d Q 19 [l0, l1] st G h k) ∧ (¬ (x < 0) → zE 156 d Q 4 [l0, l1] st G h k)) := E_if_lt (by rfl)
theorem e156_4 : zE 156 d Q 4 [l0, some (zI x)] st G h k ↔ zE 156 d Q 5 [l0, some (zI x)] (zI x :: st) G h k := E_iload_n (by rfl) rfl
theorem e156_5 : zE 156 d Q 5 [some (.inr (.inr w9)), l1] st G h k ↔ zE 156 d Q 6 [some (.inr (.inr w9)), l1] (.inr (.inr w9) :: st) G h k := E_aload_n (by rfl) rfl
theorem e156_6 : zE 156 d Q 6 [l0, l1] (zR (some r) :: st) G h k ↔ (G.2.1 r = 9 ∧ zE 156 d Q 9 [l0, l1] (zR (G.2.2.2 r 3) :: st) G h k) := E_getR (by rfl) rfl
theorem e156_9 : zE 156 d Q 9 [l0, l1] (zR (some r) :: st) G h k ↔ (G.2.1 r = 8 ∧ zE 156 d Q 12 [l0, l1] (zI (h r 2) :: st) G h k) := E_getI (by rfl) (by decide)
theorem e156_12 : zE 156 d Q 12 [l0, l1] (zI y :: zI x :: st) G h k ↔ ((y ≤ x → zE 156 d Q 19 [l0, l1] st G h k) ∧ (¬ (y ≤ x) → zE 156 d Q 15 [l0, l1] st G h k)) := E_icmp_ge (by rfl)
theorem e156_15 : zE 156 d Q 15 [l0, l1] st G h k ↔ zE 156 d Q 16 [l0, l1] (zI 1 :: st) G h k := E_iconst (by rfl)
theorem e156_16 : zE 156 d Q 16 [l0, l1] st G h k ↔ zE 156 d Q 20 [l0, l1] st G h k := E_goto (by rfl)
theorem e156_19 : zE 156 d Q 19 [l0, l1] st G h k ↔ zE 156 d Q 20 [l0, l1] (zI 0 :: st) G h k := E_iconst (by rfl)
theorem e156_20 : zE 156 d Q 20 [l0, l1] [zI x] G h k ↔ ((x = 0 ∨ x = 1) ∧ Q (some (zI x)) G h) := E_zret (by rfl) rfl
theorem e157_0 : zE 157 d Q 0 [l0, l1] st G h k ↔ zE 157 d Q 1 [l0, l1] (zI 0 :: st) G h k := E_iconst (by rfl)
theorem e157_1 : zE 157 d Q 1 [l0, l1] (zI x :: st) G h k ↔ zE 157 d Q 2 [(zclr l0), some (zI x)] st G h k := E_istore_n (by rfl) (by decide)
theorem e157_2 : zE 157 d Q 2 [l0, some (zI x)] st G h k ↔ zE 157 d Q 3 [l0, some (zI x)] (zI x :: st) G h k := E_iload_n (by rfl) rfl
theorem e157_3 : zE 157 d Q 3 [some (.inr (.inr w9)), l1] st G h k ↔ zE 157 d Q 4 [some (.inr (.inr w9)), l1] (.inr (.inr w9) :: st) G h k := E_aload_n (by rfl) rfl
theorem e157_4 : zE 157 d Q 4 [l0, l1] (zR (some r) :: st) G h k ↔ (G.2.1 r = 9 ∧ zE 157 d Q 7 [l0, l1] (zR (G.2.2.2 r 3) :: st) G h k) := E_getR (by rfl) rfl
theorem e157_7 : zE 157 d Q 7 [l0, l1] (zR (some r) :: st) G h k ↔ (G.2.1 r = 8 ∧ zE 157 d Q 10 [l0, l1] (zI (h r 0) :: st) G h k) := E_getI (by rfl) (by decide)
theorem e157_10 : zE 157 d Q 10 [l0, l1] (zI y :: zI x :: st) G h k ↔ ((y ≤ x → zE 157 d Q 59 [l0, l1] st G h k) ∧ (¬ (y ≤ x) → zE 157 d Q 13 [l0, l1] st G h k)) := E_icmp_ge (by rfl)
theorem e157_13 : zE 157 d Q 13 [some (.inr (.inr w9)), l1] st G h k ↔ zE 157 d Q 14 [some (.inr (.inr w9)), l1] (.inr (.inr w9) :: st) G h k := E_aload_n (by rfl) rfl
theorem e157_14 : zE 157 d Q 14 [l0, l1] (zR (some r) :: st) G h k ↔ (G.2.1 r = 9 ∧ zE 157 d Q 17 [l0, l1] (zR (G.2.2.2 r 23) :: st) G h k) := E_getR (by rfl) rfl
theorem e157_17 : zE 157 d Q 17 [l0, some (zI x)] st G h k ↔ zE 157 d Q 18 [l0, some (zI x)] (zI x :: st) G h k := E_iload_n (by rfl) rfl
theorem e157_18 : zE 157 d Q 18 [some (.inr (.inr w9)), l1] st G h k ↔ zE 157 d Q 19 [some (.inr (.inr w9)), l1] (.inr (.inr w9) :: st) G h k := E_aload_n (by rfl) rfl
theorem e157_19 : zE 157 d Q 19 [l0, l1] (zR (some r) :: st) G h k ↔ (G.2.1 r = 9 ∧ zE 157 d Q 22 [l0, l1] (zR (G.2.2.2 r 3) :: st) G h k) := E_getR (by rfl) rfl
theorem e157_22 : zE 157 d Q 22 [l0, l1] (zR (some r) :: st) G h k ↔ (G.2.1 r = 8 ∧ zE 157 d Q 25 [l0, l1] (zR (G.2.2.2 r 9) :: st) G h k) := E_getR (by rfl) rfl
theorem e157_25 : zE 157 d Q 25 [some (.inr (.inr w9)), l1] st G h k ↔ zE 157 d Q 26 [some (.inr (.inr w9)), l1] (.inr (.inr w9) :: st) G h k := E_aload_n (by rfl) rfl
theorem e157_26 : zE 157 d Q 26 [l0, l1] (zR (some r) :: st) G h k ↔ (G.2.1 r = 9 ∧ zE 157 d Q 29 [l0, l1] (zR (G.2.2.2 r 33) :: st) G h k) := E_getR (by rfl) rfl
theorem e157_29 : zE 157 d Q 29 [l0, some (zI x)] st G h k ↔ zE 157 d Q 30 [l0, some (zI x)] (zI x :: st) G h k := E_iload_n (by rfl) rfl
theorem e157_30 : zE 157 d Q 30 [l0, l1] (zI i :: zR (some r) :: st) G h k ↔ (G.2.1 r = 10 ∧ (0 ≤ i ∧ i < G.2.2.1 r) ∧ zE 157 d Q 31 [l0, l1] (zI (h r i.toNat) :: st) G h k) := E_iaload (by rfl)
theorem e157_31 : zE 157 d Q 31 [l0, l1] (zI i :: zR (some r) :: st) G h k ↔ (G.2.1 r = 10 ∧ (0 ≤ i ∧ i < G.2.2.1 r) ∧ zE 157 d Q 32 [l0, l1] (zI (h r i.toNat) :: st) G h k) := E_iaload (by rfl)
theorem e157_32 : zE 157 d Q 32 [l0, l1] (zI x :: zI i :: zR (some r) :: st) G h k ↔ (G.2.1 r = 10 ∧ (0 ≤ i ∧ i < G.2.2.1 r) ∧ zE 157 d Q 33 [l0, l1] st G (zu h r i.toNat x) k) := E_iastore (by rfl)
theorem e157_33 : zE 157 d Q 33 [some (.inr (.inr w9)), l1] st G h k ↔ zE 157 d Q 34 [some (.inr (.inr w9)), l1] (.inr (.inr w9) :: st) G h k := E_aload_n (by rfl) rfl
theorem e157_34 : zE 157 d Q 34 [l0, l1] (zR (some r) :: st) G h k ↔ (G.2.1 r = 9 ∧ zE 157 d Q 37 [l0, l1] (zR (G.2.2.2 r 24) :: st) G h k) := E_getR (by rfl) rfl
theorem e157_37 : zE 157 d Q 37 [l0, some (zI x)] st G h k ↔ zE 157 d Q 38 [l0, some (zI x)] (zI x :: st) G h k := E_iload_n (by rfl) rfl
theorem e157_38 : zE 157 d Q 38 [some (.inr (.inr w9)), l1] st G h k ↔ zE 157 d Q 39 [some (.inr (.inr w9)), l1] (.inr (.inr w9) :: st) G h k := E_aload_n (by rfl) rfl
theorem e157_39 : zE 157 d Q 39 [l0, l1] (zR (some r) :: st) G h k ↔ (G.2.1 r = 9 ∧ zE 157 d Q 42 [l0, l1] (zR (G.2.2.2 r 3) :: st) G h k) := E_getR (by rfl) rfl
theorem e157_42 : zE 157 d Q 42 [l0, l1] (zR (some r) :: st) G h k ↔ (G.2.1 r = 8 ∧ zE 157 d Q 45 [l0, l1] (zR (G.2.2.2 r 9) :: st) G h k) := E_getR (by rfl) rfl
theorem e157_45 : zE 157 d Q 45 [some (.inr (.inr w9)), l1] st G h k ↔ zE 157 d Q 46 [some (.inr (.inr w9)), l1] (.inr (.inr w9) :: st) G h k := E_aload_n (by rfl) rfl
theorem e157_46 : zE 157 d Q 46 [l0, l1] (zR (some r) :: st) G h k ↔ (G.2.1 r = 9 ∧ zE 157 d Q 49 [l0, l1] (zR (G.2.2.2 r 34) :: st) G h k) := E_getR (by rfl) rfl
theorem e157_49 : zE 157 d Q 49 [l0, some (zI x)] st G h k ↔ zE 157 d Q 50 [l0, some (zI x)] (zI x :: st) G h k := E_iload_n (by rfl) rfl
theorem e157_50 : zE 157 d Q 50 [l0, l1] (zI i :: zR (some r) :: st) G h k ↔ (G.2.1 r = 10 ∧ (0 ≤ i ∧ i < G.2.2.1 r) ∧ zE 157 d Q 51 [l0, l1] (zI (h r i.toNat) :: st) G h k) := E_iaload (by rfl)
theorem e157_51 : zE 157 d Q 51 [l0, l1] (zI i :: zR (some r) :: st) G h k ↔ (G.2.1 r = 10 ∧ (0 ≤ i ∧ i < G.2.2.1 r) ∧ zE 157 d Q 52 [l0, l1] (zI (h r i.toNat) :: st) G h k) := E_iaload (by rfl)
theorem e157_52 : zE 157 d Q 52 [l0, l1] (zI x :: zI i :: zR (some r) :: st) G h k ↔ (G.2.1 r = 10 ∧ (0 ≤ i ∧ i < G.2.2.1 r) ∧ zE 157 d Q 53 [l0, l1] st G (zu h r i.toNat x) k) := E_iastore (by rfl)
theorem e157_53 : zE 157 d Q 53 [l0, some (zI x)] st G h k ↔ zE 157 d Q 56 [(zclr l0), some (zI (wr (x + 1)))] st G h k := E_iinc (by rfl) rfl
theorem e157_56 : zE 157 d Q 56 [l0, l1] st G h k ↔ zE 157 d Q 2 [l0, l1] st G h k := E_goto (by rfl)
theorem e157_59 : zE 157 d Q 59 [l0, l1] [] G h k ↔ Q none G h := E_vret (by rfl) rfl
theorem e158_0 : zE 158 d Q 0 [some (.inr (.inr w9)), l1, l2, l3] st G h k ↔ zE 158 d Q 1 [some (.inr (.inr w9)), l1, l2, l3] (.inr (.inr w9) :: st) G h k := E_aload_n (by rfl) rfl
theorem e158_1 : zE 158 d Q 1 [l0, l1, l2, l3] st G h k ↔ zE 158 d Q 2 [l0, l1, l2, l3] (zI 0 :: st) G h k := E_iconst (by rfl)
theorem e158_2 : zE 158 d Q 2 [l0, l1, l2, l3] (zI x :: zR (some r) :: st) G h k ↔ (G.2.1 r = 9 ∧ zE 158 d Q 5 [l0, l1, l2, l3] st G (zu h r 0 x) k) := E_putI (by rfl) rfl
theorem e158_5 : zE 158 d Q 5 [some (.inr (.inr w9)), l1, l2, l3] st G h k ↔ zE 158 d Q 6 [some (.inr (.inr w9)), l1, l2, l3] (.inr (.inr w9) :: st) G h k := E_aload_n (by rfl) rfl
theorem e158_6 : zE 158 d Q 6 [l0, some (zI x), l2, l3] st G h k ↔ zE 158 d Q 7 [l0, some (zI x), l2, l3] (zI x :: st) G h k := E_iload_n (by rfl) rfl
theorem e158_7 : zE 158 d Q 7 [l0, l1, l2, l3] (v0 :: zR (some r) :: st) G h k ↔ (zsum st ≤ 8 ∧ G.2.1 r = 9 ∧ zRunD ztb zmt' d 154 [zR (some r), v0] G h (fun v G' h' => zE 158 d Q 10 [l0, l1, l2, l3] (v.toList ++ st) G' h' k)) := E_invV2z (by rfl) (by decide) rfl
theorem e158_10 : zE 158 d Q 10 [l0, l1, l2, l3] (zI x :: st) G h k ↔ ((x = 0 → zE 158 d Q 21 [l0, l1, l2, l3] st G h k) ∧ (¬ (x = 0) → zE 158 d Q 13 [l0, l1, l2, l3] st G h k)) := E_if_eq (by rfl)
theorem e158_13 : zE 158 d Q 13 [some (.inr (.inr w9)), l1, l2, l3] st G h k ↔ zE 158 d Q 14 [some (.inr (.inr w9)), l1, l2, l3] (.inr (.inr w9) :: st) G h k := E_aload_n (by rfl) rfl
theorem e158_14 : zE 158 d Q 14 [l0, l1, some (zI x), l3] st G h k ↔ zE 158 d Q 15 [l0, l1, some (zI x), l3] (zI x :: st) G h k := E_iload_n (by rfl) rfl
theorem e158_15 : zE 158 d Q 15 [l0, l1, l2, l3] (v0 :: zR (some r) :: st) G h k ↔ (zsum st ≤ 8 ∧ G.2.1 r = 9 ∧ zRunD ztb zmt' d 155 [zR (some r), v0] G h (fun v G' h' => zE 158 d Q 18 [l0, l1, l2, l3] (v.toList ++ st) G' h' k)) := E_invV2z (by rfl) (by decide) rfl
theorem e158_18 : zE 158 d Q 18 [l0, l1, l2, l3] (zI x :: st) G h k ↔ ((¬ x = 0 → zE 158 d Q 27 [l0, l1, l2, l3] st G h k) ∧ (¬ (¬ x = 0) → zE 158 d Q 21 [l0, l1, l2, l3] st G h k)) := E_if_ne (by rfl)
theorem e158_21 : zE 158 d Q 21 [some (.inr (.inr w9)), l1, l2, l3] st G h k ↔ zE 158 d Q 22 [some (.inr (.inr w9)), l1, l2, l3] (.inr (.inr w9) :: st) G h k := E_aload_n (by rfl) rfl
theorem e158_22 : zE 158 d Q 22 [l0, l1, l2, l3] st G h k ↔ zE 158 d Q 23 [l0, l1, l2, l3] (zI 1 :: st) G h k := E_iconst (by rfl)
theorem e158_23 : zE 158 d Q 23 [l0, l1, l2, l3] (v0 :: zR (some r) :: st) G h k ↔ (zsum st ≤ 8 ∧ G.2.1 r = 9 ∧ zRunD ztb zmt' d 116 [zR (some r), v0] G h (fun v G' h' => zE 158 d Q 26 [l0, l1, l2, l3] (v.toList ++ st) G' h' k)) := E_invV2z (by rfl) (by decide) rfl
theorem e158_26 : zE 158 d Q 26 [l0, l1, l2, l3] [zI x] G h k ↔ ((x = 0 ∨ x = 1) ∧ Q (some (zI x)) G h) := E_zret (by rfl) rfl
theorem e158_27 : zE 158 d Q 27 [l0, l1, l2, some (zI x)] st G h k ↔ zE 158 d Q 28 [l0, l1, l2, some (zI x)] (zI x :: st) G h k := E_iload_n (by rfl) rfl
theorem e158_28 : zE 158 d Q 28 [l0, l1, l2, l3] st G h k ↔ zE 158 d Q 29 [l0, l1, l2, l3] (zI 0 :: st) G h k := E_iconst (by rfl)
theorem e158_29 : zE 158 d Q 29 [l0, l1, l2, l3] st G h k ↔ zE 158 d Q 32 [l0, l1, l2, l3] (zI 9999 :: st) G h k := E_sipush (by rfl)
theorem e158_32 : zE 158 d Q 32 [l0, l1, l2, l3] (v2 :: v1 :: v0 :: st) G h k ↔ (zsum st ≤ 8 ∧ zRunD ztb zmt' d 120 [v0, v1, v2] G h (fun v G' h' => zE 158 d Q 35 [l0, l1, l2, l3] (v.toList ++ st) G' h' k)) := E_invS2z (by rfl) (by decide) rfl
theorem e158_35 : zE 158 d Q 35 [l0, l1, l2, l3] (zI x :: st) G h k ↔ ((¬ x = 0 → zE 158 d Q 44 [l0, l1, l2, l3] st G h k) ∧ (¬ (¬ x = 0) → zE 158 d Q 38 [l0, l1, l2, l3] st G h k)) := E_if_ne (by rfl)
theorem e158_38 : zE 158 d Q 38 [some (.inr (.inr w9)), l1, l2, l3] st G h k ↔ zE 158 d Q 39 [some (.inr (.inr w9)), l1, l2, l3] (.inr (.inr w9) :: st) G h k := E_aload_n (by rfl) rfl
theorem e158_39 : zE 158 d Q 39 [l0, l1, l2, l3] st G h k ↔ zE 158 d Q 40 [l0, l1, l2, l3] (zI 2 :: st) G h k := E_iconst (by rfl)
theorem e158_40 : zE 158 d Q 40 [l0, l1, l2, l3] (v0 :: zR (some r) :: st) G h k ↔ (zsum st ≤ 8 ∧ G.2.1 r = 9 ∧ zRunD ztb zmt' d 116 [zR (some r), v0] G h (fun v G' h' => zE 158 d Q 43 [l0, l1, l2, l3] (v.toList ++ st) G' h' k)) := E_invV2z (by rfl) (by decide) rfl
theorem e158_43 : zE 158 d Q 43 [l0, l1, l2, l3] [zI x] G h k ↔ ((x = 0 ∨ x = 1) ∧ Q (some (zI x)) G h) := E_zret (by rfl) rfl
theorem e158_44 : zE 158 d Q 44 [some (.inr (.inr w9)), l1, l2, l3] st G h k ↔ zE 158 d Q 45 [some (.inr (.inr w9)), l1, l2, l3] (.inr (.inr w9) :: st) G h k := E_aload_n (by rfl) rfl
theorem e158_45 : zE 158 d Q 45 [l0, l1, l2, l3] (zR (some r) :: st) G h k ↔ (G.2.1 r = 9 ∧ zE 158 d Q 48 [l0, l1, l2, l3] (zR (G.2.2.2 r 32) :: st) G h k) := E_getR (by rfl) rfl
theorem e158_48 : zE 158 d Q 48 [l0, l1, some (zI x), l3] st G h k ↔ zE 158 d Q 49 [l0, l1, some (zI x), l3] (zI x :: st) G h k := E_iload_n (by rfl) rfl
theorem e158_49 : zE 158 d Q 49 [l0, some (zI x), l2, l3] st G h k ↔ zE 158 d Q 50 [l0, some (zI x), l2, l3] (zI x :: st) G h k := E_iload_n (by rfl) rfl
theorem e158_50 : zE 158 d Q 50 [l0, l1, l2, l3] (v1 :: v0 :: st) G h k ↔ (zsum st ≤ 8 ∧ zRunD ztb zmt' d 150 [v0, v1] G h (fun v G' h' => zE 158 d Q 53 [l0, l1, l2, l3] (v.toList ++ st) G' h' k)) := E_invS2z (by rfl) (by decide) rfl
theorem e158_53 : zE 158 d Q 53 [l0, l1, l2, some (zI x)] st G h k ↔ zE 158 d Q 54 [l0, l1, l2, some (zI x)] (zI x :: st) G h k := E_iload_n (by rfl) rfl
theorem e158_54 : zE 158 d Q 54 [l0, l1, l2, l3] (zI x :: zI i :: zR (some r) :: st) G h k ↔ (G.2.1 r = 10 ∧ (0 ≤ i ∧ i < G.2.2.1 r) ∧ zE 158 d Q 55 [l0, l1, l2, l3] st G (zu h r i.toNat x) k) := E_iastore (by rfl)
theorem e158_55 : zE 158 d Q 55 [some (.inr (.inr w9)), l1, l2, l3] st G h k ↔ zE 158 d Q 56 [some (.inr (.inr w9)), l1, l2, l3] (.inr (.inr w9) :: st) G h k := E_aload_n (by rfl) rfl
theorem e158_56 : zE 158 d Q 56 [l0, l1, l2, l3] (zR (some r) :: st) G h k ↔ (zsum st ≤ 8 ∧ G.2.1 r = 9 ∧ zRunD ztb zmt' d 119 [zR (some r)] G h (fun v G' h' => zE 158 d Q 59 [l0, l1, l2, l3] (v.toList ++ st) G' h' k)) := E_invV2z (by rfl) (by decide) rfl
theorem e158_59 : zE 158 d Q 59 [l0, l1, l2, l3] [zI x] G h k ↔ ((x = 0 ∨ x = 1) ∧ Q (some (zI x)) G h) := E_zret (by rfl) rfl
theorem e159_0 : zE 159 d Q 0 [some (.inr (.inr w9)), l1, l2, l3] st G h k ↔ zE 159 d Q 1 [some (.inr (.inr w9)), l1, l2, l3] (.inr (.inr w9) :: st) G h k := E_aload_n (by rfl) rfl
theorem e159_1 : zE 159 d Q 1 [l0, l1, l2, l3] st G h k ↔ zE 159 d Q 2 [l0, l1, l2, l3] (zI 0 :: st) G h k := E_iconst (by rfl)
theorem e159_2 : zE 159 d Q 2 [l0, l1, l2, l3] (zI x :: zR (some r) :: st) G h k ↔ (G.2.1 r = 9 ∧ zE 159 d Q 5 [l0, l1, l2, l3] st G (zu h r 0 x) k) := E_putI (by rfl) rfl
theorem e159_5 : zE 159 d Q 5 [some (.inr (.inr w9)), l1, l2, l3] st G h k ↔ zE 159 d Q 6 [some (.inr (.inr w9)), l1, l2, l3] (.inr (.inr w9) :: st) G h k := E_aload_n (by rfl) rfl
theorem e159_6 : zE 159 d Q 6 [l0, some (zI x), l2, l3] st G h k ↔ zE 159 d Q 7 [l0, some (zI x), l2, l3] (zI x :: st) G h k := E_iload_n (by rfl) rfl
theorem e159_7 : zE 159 d Q 7 [l0, l1, l2, l3] (v0 :: zR (some r) :: st) G h k ↔ (zsum st ≤ 8 ∧ G.2.1 r = 9 ∧ zRunD ztb zmt' d 154 [zR (some r), v0] G h (fun v G' h' => zE 159 d Q 10 [l0, l1, l2, l3] (v.toList ++ st) G' h' k)) := E_invV2z (by rfl) (by decide) rfl
theorem e159_10 : zE 159 d Q 10 [l0, l1, l2, l3] (zI x :: st) G h k ↔ ((¬ x = 0 → zE 159 d Q 19 [l0, l1, l2, l3] st G h k) ∧ (¬ (¬ x = 0) → zE 159 d Q 13 [l0, l1, l2, l3] st G h k)) := E_if_ne (by rfl)
theorem e159_13 : zE 159 d Q 13 [some (.inr (.inr w9)), l1, l2, l3] st G h k ↔ zE 159 d Q 14 [some (.inr (.inr w9)), l1, l2, l3] (.inr (.inr w9) :: st) G h k := E_aload_n (by rfl) rfl
theorem e159_14 : zE 159 d Q 14 [l0, l1, l2, l3] st G h k ↔ zE 159 d Q 15 [l0, l1, l2, l3] (zI 1 :: st) G h k := E_iconst (by rfl)
theorem e159_15 : zE 159 d Q 15 [l0, l1, l2, l3] (v0 :: zR (some r) :: st) G h k ↔ (zsum st ≤ 8 ∧ G.2.1 r = 9 ∧ zRunD ztb zmt' d 116 [zR (some r), v0] G h (fun v G' h' => zE 159 d Q 18 [l0, l1, l2, l3] (v.toList ++ st) G' h' k)) := E_invV2z (by rfl) (by decide) rfl
theorem e159_18 : zE 159 d Q 18 [l0, l1, l2, l3] [zI x] G h k ↔ ((x = 0 ∨ x = 1) ∧ Q (some (zI x)) G h) := E_zret (by rfl) rfl
theorem e159_19 : zE 159 d Q 19 [some (.inr (.inr w9)), l1, l2, l3] st G h k ↔ zE 159 d Q 20 [some (.inr (.inr w9)), l1, l2, l3] (.inr (.inr w9) :: st) G h k := E_aload_n (by rfl) rfl
theorem e159_20 : zE 159 d Q 20 [l0, l1, some (zI x), l3] st G h k ↔ zE 159 d Q 21 [l0, l1, some (zI x), l3] (zI x :: st) G h k := E_iload_n (by rfl) rfl
theorem e159_21 : zE 159 d Q 21 [l0, l1, l2, l3] (v0 :: zR (some r) :: st) G h k ↔ (zsum st ≤ 8 ∧ G.2.1 r = 9 ∧ zRunD ztb zmt' d 156 [zR (some r), v0] G h (fun v G' h' => zE 159 d Q 24 [l0, l1, l2, l3] (v.toList ++ st) G' h' k)) := E_invV2z (by rfl) (by decide) rfl
theorem e159_24 : zE 159 d Q 24 [l0, l1, l2, l3] (zI x :: st) G h k ↔ ((x = 0 → zE 159 d Q 35 [l0, l1, l2, l3] st G h k) ∧ (¬ (x = 0) → zE 159 d Q 27 [l0, l1, l2, l3] st G h k)) := E_if_eq (by rfl)
theorem e159_27 : zE 159 d Q 27 [some (.inr (.inr w9)), l1, l2, l3] st G h k ↔ zE 159 d Q 28 [some (.inr (.inr w9)), l1, l2, l3] (.inr (.inr w9) :: st) G h k := E_aload_n (by rfl) rfl
theorem e159_28 : zE 159 d Q 28 [l0, l1, l2, some (zI x)] st G h k ↔ zE 159 d Q 29 [l0, l1, l2, some (zI x)] (zI x :: st) G h k := E_iload_n (by rfl) rfl
theorem e159_29 : zE 159 d Q 29 [l0, l1, l2, l3] (v0 :: zR (some r) :: st) G h k ↔ (zsum st ≤ 8 ∧ G.2.1 r = 9 ∧ zRunD ztb zmt' d 156 [zR (some r), v0] G h (fun v G' h' => zE 159 d Q 32 [l0, l1, l2, l3] (v.toList ++ st) G' h' k)) := E_invV2z (by rfl) (by decide) rfl
theorem e159_32 : zE 159 d Q 32 [l0, l1, l2, l3] (zI x :: st) G h k ↔ ((¬ x = 0 → zE 159 d Q 41 [l0, l1, l2, l3] st G h k) ∧ (¬ (¬ x = 0) → zE 159 d Q 35 [l0, l1, l2, l3] st G h k)) := E_if_ne (by rfl)
theorem e159_35 : zE 159 d Q 35 [some (.inr (.inr w9)), l1, l2, l3] st G h k ↔ zE 159 d Q 36 [some (.inr (.inr w9)), l1, l2, l3] (.inr (.inr w9) :: st) G h k := E_aload_n (by rfl) rfl
theorem e159_36 : zE 159 d Q 36 [l0, l1, l2, l3] st G h k ↔ zE 159 d Q 37 [l0, l1, l2, l3] (zI 2 :: st) G h k := E_iconst (by rfl)
theorem e159_37 : zE 159 d Q 37 [l0, l1, l2, l3] (v0 :: zR (some r) :: st) G h k ↔ (zsum st ≤ 8 ∧ G.2.1 r = 9 ∧ zRunD ztb zmt' d 116 [zR (some r), v0] G h (fun v G' h' => zE 159 d Q 40 [l0, l1, l2, l3] (v.toList ++ st) G' h' k)) := E_invV2z (by rfl) (by decide) rfl
theorem e159_40 : zE 159 d Q 40 [l0, l1, l2, l3] [zI x] G h k ↔ ((x = 0 ∨ x = 1) ∧ Q (some (zI x)) G h) := E_zret (by rfl) rfl
theorem e159_41 : zE 159 d Q 41 [some (.inr (.inr w9)), l1, l2, l3] st G h k ↔ zE 159 d Q 42 [some (.inr (.inr w9)), l1, l2, l3] (.inr (.inr w9) :: st) G h k := E_aload_n (by rfl) rfl
theorem e159_42 : zE 159 d Q 42 [l0, l1, l2, l3] (zR (some r) :: st) G h k ↔ (G.2.1 r = 9 ∧ zE 159 d Q 45 [l0, l1, l2, l3] (zR (G.2.2.2 r 3) :: st) G h k) := E_getR (by rfl) rfl
theorem e159_45 : zE 159 d Q 45 [l0, l1, l2, l3] (zR (some r) :: st) G h k ↔ (G.2.1 r = 8 ∧ zE 159 d Q 48 [l0, l1, l2, l3] (zI (h r 5) :: st) G h k) := E_getI (by rfl) (by decide)
theorem e159_48 : zE 159 d Q 48 [l0, l1, l2, l3] (zI x :: st) G h k ↔ ((¬ x = 0 → zE 159 d Q 62 [l0, l1, l2, l3] st G h k) ∧ (¬ (¬ x = 0) → zE 159 d Q 51 [l0, l1, l2, l3] st G h k)) := E_if_ne (by rfl)
theorem e159_51 : zE 159 d Q 51 [l0, l1, some (zI x), l3] st G h k ↔ zE 159 d Q 52 [l0, l1, some (zI x), l3] (zI x :: st) G h k := E_iload_n (by rfl) rfl
theorem e159_52 : zE 159 d Q 52 [l0, l1, l2, some (zI x)] st G h k ↔ zE 159 d Q 53 [l0, l1, l2, some (zI x)] (zI x :: st) G h k := E_iload_n (by rfl) rfl
theorem e159_53 : zE 159 d Q 53 [l0, l1, l2, l3] (zI y :: zI x :: st) G h k ↔ ((x = y → zE 159 d Q 62 [l0, l1, l2, l3] st G h k) ∧ (¬ (x = y) → zE 159 d Q 56 [l0, l1, l2, l3] st G h k)) := E_icmp_eq (by rfl)
theorem e159_56 : zE 159 d Q 56 [some (.inr (.inr w9)), l1, l2, l3] st G h k ↔ zE 159 d Q 57 [some (.inr (.inr w9)), l1, l2, l3] (.inr (.inr w9) :: st) G h k := E_aload_n (by rfl) rfl
theorem e159_57 : zE 159 d Q 57 [l0, l1, l2, l3] st G h k ↔ zE 159 d Q 58 [l0, l1, l2, l3] (zI 5 :: st) G h k := E_iconst (by rfl)
theorem e159_58 : zE 159 d Q 58 [l0, l1, l2, l3] (v0 :: zR (some r) :: st) G h k ↔ (zsum st ≤ 8 ∧ G.2.1 r = 9 ∧ zRunD ztb zmt' d 116 [zR (some r), v0] G h (fun v G' h' => zE 159 d Q 61 [l0, l1, l2, l3] (v.toList ++ st) G' h' k)) := E_invV2z (by rfl) (by decide) rfl
theorem e159_61 : zE 159 d Q 61 [l0, l1, l2, l3] [zI x] G h k ↔ ((x = 0 ∨ x = 1) ∧ Q (some (zI x)) G h) := E_zret (by rfl) rfl
theorem e159_62 : zE 159 d Q 62 [some (.inr (.inr w9)), l1, l2, l3] st G h k ↔ zE 159 d Q 63 [some (.inr (.inr w9)), l1, l2, l3] (.inr (.inr w9) :: st) G h k := E_aload_n (by rfl) rfl
theorem e159_63 : zE 159 d Q 63 [l0, l1, l2, l3] (zR (some r) :: st) G h k ↔ (G.2.1 r = 9 ∧ zE 159 d Q 66 [l0, l1, l2, l3] (zR (G.2.2.2 r 33) :: st) G h k) := E_getR (by rfl) rfl
theorem e159_66 : zE 159 d Q 66 [l0, some (zI x), l2, l3] st G h k ↔ zE 159 d Q 67 [l0, some (zI x), l2, l3] (zI x :: st) G h k := E_iload_n (by rfl) rfl
theorem e159_67 : zE 159 d Q 67 [l0, l1, some (zI x), l3] st G h k ↔ zE 159 d Q 68 [l0, l1, some (zI x), l3] (zI x :: st) G h k := E_iload_n (by rfl) rfl
theorem e159_68 : zE 159 d Q 68 [l0, l1, l2, l3] (zI x :: zI i :: zR (some r) :: st) G h k ↔ (G.2.1 r = 10 ∧ (0 ≤ i ∧ i < G.2.2.1 r) ∧ zE 159 d Q 69 [l0, l1, l2, l3] st G (zu h r i.toNat x) k) := E_iastore (by rfl)
theorem e159_69 : zE 159 d Q 69 [some (.inr (.inr w9)), l1, l2, l3] st G h k ↔ zE 159 d Q 70 [some (.inr (.inr w9)), l1, l2, l3] (.inr (.inr w9) :: st) G h k := E_aload_n (by rfl) rfl
theorem e159_70 : zE 159 d Q 70 [l0, l1, l2, l3] (zR (some r) :: st) G h k ↔ (G.2.1 r = 9 ∧ zE 159 d Q 73 [l0, l1, l2, l3] (zR (G.2.2.2 r 34) :: st) G h k) := E_getR (by rfl) rfl
theorem e159_73 : zE 159 d Q 73 [l0, some (zI x), l2, l3] st G h k ↔ zE 159 d Q 74 [l0, some (zI x), l2, l3] (zI x :: st) G h k := E_iload_n (by rfl) rfl
theorem e159_74 : zE 159 d Q 74 [l0, l1, l2, some (zI x)] st G h k ↔ zE 159 d Q 75 [l0, l1, l2, some (zI x)] (zI x :: st) G h k := E_iload_n (by rfl) rfl
theorem e159_75 : zE 159 d Q 75 [l0, l1, l2, l3] (zI x :: zI i :: zR (some r) :: st) G h k ↔ (G.2.1 r = 10 ∧ (0 ≤ i ∧ i < G.2.2.1 r) ∧ zE 159 d Q 76 [l0, l1, l2, l3] st G (zu h r i.toNat x) k) := E_iastore (by rfl)
theorem e159_76 : zE 159 d Q 76 [some (.inr (.inr w9)), l1, l2, l3] st G h k ↔ zE 159 d Q 77 [some (.inr (.inr w9)), l1, l2, l3] (.inr (.inr w9) :: st) G h k := E_aload_n (by rfl) rfl
theorem e159_77 : zE 159 d Q 77 [l0, l1, l2, l3] (zR (some r) :: st) G h k ↔ (zsum st ≤ 8 ∧ G.2.1 r = 9 ∧ zRunD ztb zmt' d 119 [zR (some r)] G h (fun v G' h' => zE 159 d Q 80 [l0, l1, l2, l3] (v.toList ++ st) G' h' k)) := E_invV2z (by rfl) (by decide) rfl
theorem e159_80 : zE 159 d Q 80 [l0, l1, l2, l3] [zI x] G h k ↔ ((x = 0 ∨ x = 1) ∧ Q (some (zI x)) G h) := E_zret (by rfl) rfl
theorem e160_0 : zE 160 d Q 0 [some (.inr (.inr w9)), l1, l2] st G h k ↔ zE 160 d Q 1 [some (.inr (.inr w9)), l1, l2] (.inr (.inr w9) :: st) G h k := E_aload_n (by rfl) rfl
theorem e160_1 : zE 160 d Q 1 [l0, l1, l2] st G h k ↔ zE 160 d Q 2 [l0, l1, l2] (zI 0 :: st) G h k := E_iconst (by rfl)
theorem e160_2 : zE 160 d Q 2 [l0, l1, l2] (zI x :: zR (some r) :: st) G h k ↔ (G.2.1 r = 9 ∧ zE 160 d Q 5 [l0, l1, l2] st G (zu h r 0 x) k) := E_putI (by rfl) rfl
theorem e160_5 : zE 160 d Q 5 [some (.inr (.inr w9)), l1, l2] st G h k ↔ zE 160 d Q 6 [some (.inr (.inr w9)), l1, l2] (.inr (.inr w9) :: st) G h k := E_aload_n (by rfl) rfl
theorem e160_6 : zE 160 d Q 6 [l0, l1, some (zI x)] st G h k ↔ zE 160 d Q 7 [l0, l1, some (zI x)] (zI x :: st) G h k := E_iload_n (by rfl) rfl
theorem e160_7 : zE 160 d Q 7 [l0, l1, l2] (v0 :: zR (some r) :: st) G h k ↔ (zsum st ≤ 8 ∧ G.2.1 r = 9 ∧ zRunD ztb zmt' d 155 [zR (some r), v0] G h (fun v G' h' => zE 160 d Q 10 [l0, l1, l2] (v.toList ++ st) G' h' k)) := E_invV2z (by rfl) (by decide) rfl
theorem e160_10 : zE 160 d Q 10 [l0, l1, l2] (zI x :: st) G h k ↔ ((x = 0 → zE 160 d Q 26 [l0, l1, l2] st G h k) ∧ (¬ (x = 0) → zE 160 d Q 13 [l0, l1, l2] st G h k)) := E_if_eq (by rfl)
theorem e160_13 : zE 160 d Q 13 [l0, some (zI x), l2] st G h k ↔ zE 160 d Q 14 [l0, some (zI x), l2] (zI x :: st) G h k := E_iload_n (by rfl) rfl
theorem e160_14 : zE 160 d Q 14 [l0, l1, l2] st G h k ↔ zE 160 d Q 15 [l0, l1, l2] (zI (-1) :: st) G h k := E_iconst (by rfl)
theorem e160_15 : zE 160 d Q 15 [l0, l1, l2] (zI y :: zI x :: st) G h k ↔ ((x = y → zE 160 d Q 32 [l0, l1, l2] st G h k) ∧ (¬ (x = y) → zE 160 d Q 18 [l0, l1, l2] st G h k)) := E_icmp_eq (by rfl)
theorem e160_18 : zE 160 d Q 18 [some (.inr (.inr w9)), l1, l2] st G h k ↔ zE 160 d Q 19 [some (.inr (.inr w9)), l1, l2] (.inr (.inr w9) :: st) G h k := E_aload_n (by rfl) rfl
theorem e160_19 : zE 160 d Q 19 [l0, some (zI x), l2] st G h k ↔ zE 160 d Q 20 [l0, some (zI x), l2] (zI x :: st) G h k := E_iload_n (by rfl) rfl
theorem e160_20 : zE 160 d Q 20 [l0, l1, l2] (v0 :: zR (some r) :: st) G h k ↔ (zsum st ≤ 8 ∧ G.2.1 r = 9 ∧ zRunD ztb zmt' d 154 [zR (some r), v0] G h (fun v G' h' => zE 160 d Q 23 [l0, l1, l2] (v.toList ++ st) G' h' k)) := E_invV2z (by rfl) (by decide) rfl
theorem e160_23 : zE 160 d Q 23 [l0, l1, l2] (zI x :: st) G h k ↔ ((¬ x = 0 → zE 160 d Q 32 [l0, l1, l2] st G h k) ∧ (¬ (¬ x = 0) → zE 160 d Q 26 [l0, l1, l2] st G h k)) := E_if_ne (by rfl)
theorem e160_26 : zE 160 d Q 26 [some (.inr (.inr w9)), l1, l2] st G h k ↔ zE 160 d Q 27 [some (.inr (.inr w9)), l1, l2] (.inr (.inr w9) :: st) G h k := E_aload_n (by rfl) rfl
theorem e160_27 : zE 160 d Q 27 [l0, l1, l2] st G h k ↔ zE 160 d Q 28 [l0, l1, l2] (zI 1 :: st) G h k := E_iconst (by rfl)
theorem e160_28 : zE 160 d Q 28 [l0, l1, l2] (v0 :: zR (some r) :: st) G h k ↔ (zsum st ≤ 8 ∧ G.2.1 r = 9 ∧ zRunD ztb zmt' d 114 [zR (some r), v0] G h (fun v G' h' => zE 160 d Q 31 [l0, l1, l2] (v.toList ++ st) G' h' k)) := E_invV2z (by rfl) (by decide) rfl
theorem e160_31 : zE 160 d Q 31 [l0, l1, l2] [zI x] G h k ↔ Q (some (zI x)) G h := E_iret (by rfl) rfl
theorem e160_32 : zE 160 d Q 32 [some (.inr (.inr w9)), l1, l2] st G h k ↔ zE 160 d Q 33 [some (.inr (.inr w9)), l1, l2] (.inr (.inr w9) :: st) G h k := E_aload_n (by rfl) rfl
theorem e160_33 : zE 160 d Q 33 [l0, l1, l2] st G h k ↔ zE 160 d Q 34 [l0, l1, l2] (zI 0 :: st) G h k := E_iconst (by rfl)
theorem e160_34 : zE 160 d Q 34 [l0, l1, l2] (v0 :: zR (some r) :: st) G h k ↔ (zsum st ≤ 8 ∧ G.2.1 r = 9 ∧ zRunD ztb zmt' d 143 [zR (some r), v0] G h (fun v G' h' => zE 160 d Q 37 [l0, l1, l2] (v.toList ++ st) G' h' k)) := E_invV2z (by rfl) (by decide) rfl
theorem e160_37 : zE 160 d Q 37 [some (.inr (.inr w9)), l1, l2] st G h k ↔ zE 160 d Q 38 [some (.inr (.inr w9)), l1, l2] (.inr (.inr w9) :: st) G h k := E_aload_n (by rfl) rfl
theorem e160_38 : zE 160 d Q 38 [l0, l1, l2] (zR (some r) :: st) G h k ↔ (zsum st ≤ 8 ∧ G.2.1 r = 9 ∧ zRunD ztb zmt' d 157 [zR (some r)] G h (fun v G' h' => zE 160 d Q 41 [l0, l1, l2] (v.toList ++ st) G' h' k)) := E_invV2z (by rfl) (by decide) rfl
theorem e160_41 : zE 160 d Q 41 [some (.inr (.inr w9)), l1, l2] st G h k ↔ zE 160 d Q 42 [some (.inr (.inr w9)), l1, l2] (.inr (.inr w9) :: st) G h k := E_aload_n (by rfl) rfl
theorem e160_42 : zE 160 d Q 42 [some (.inr (.inr w9)), l1, l2] st G h k ↔ zE 160 d Q 43 [some (.inr (.inr w9)), l1, l2] (.inr (.inr w9) :: st) G h k := E_aload_n (by rfl) rfl
theorem e160_43 : zE 160 d Q 43 [l0, some (zI x), l2] st G h k ↔ zE 160 d Q 44 [l0, some (zI x), l2] (zI x :: st) G h k := E_iload_n (by rfl) rfl
theorem e160_44 : zE 160 d Q 44 [l0, l1, some (zI x)] st G h k ↔ zE 160 d Q 45 [l0, l1, some (zI x)] (zI x :: st) G h k := E_iload_n (by rfl) rfl
theorem e160_45 : zE 160 d Q 45 [some (.inr (.inr w9)), l1, l2] st G h k ↔ zE 160 d Q 46 [some (.inr (.inr w9)), l1, l2] (.inr (.inr w9) :: st) G h k := E_aload_n (by rfl) rfl
theorem e160_46 : zE 160 d Q 46 [l0, l1, l2] (zR (some r) :: st) G h k ↔ (G.2.1 r = 9 ∧ zE 160 d Q 49 [l0, l1, l2] (zR (G.2.2.2 r 3) :: st) G h k) := E_getR (by rfl) rfl
theorem e160_49 : zE 160 d Q 49 [l0, l1, l2] (zR (some r) :: st) G h k ↔ (G.2.1 r = 8 ∧ zE 160 d Q 52 [l0, l1, l2] (zR (G.2.2.2 r 14) :: st) G h k) := E_getR (by rfl) rfl
theorem e160_52 : zE 160 d Q 52 [l0, l1, some (zI x)] st G h k ↔ zE 160 d Q 53 [l0, l1, some (zI x)] (zI x :: st) G h k := E_iload_n (by rfl) rfl
theorem e160_53 : zE 160 d Q 53 [l0, l1, l2] (zI i :: zR (some r) :: st) G h k ↔ (G.2.1 r = 13 ∧ (0 ≤ i ∧ i < G.2.2.1 r) ∧ zE 160 d Q 54 [l0, l1, l2] (zI (h r i.toNat) :: st) G h k) := E_baload (by rfl) (by decide)
theorem e160_54 : zE 160 d Q 54 [l0, l1, l2] (v2 :: v1 :: v0 :: zR (some r) :: st) G h k ↔ (zsum st ≤ 8 ∧ G.2.1 r = 9 ∧ zRunD ztb zmt' d 149 [zR (some r), v0, v1, v2] G h (fun v G' h' => zE 160 d Q 57 [l0, l1, l2] (v.toList ++ st) G' h' k)) := E_invV2z (by rfl) (by decide) rfl
theorem e160_57 : zE 160 d Q 57 [l0, l1, l2] (v0 :: zR (some r) :: st) G h k ↔ (zsum st ≤ 8 ∧ G.2.1 r = 9 ∧ zRunD ztb zmt' d 117 [zR (some r), v0] G h (fun v G' h' => zE 160 d Q 60 [l0, l1, l2] (v.toList ++ st) G' h' k)) := E_invV2z (by rfl) (by decide) rfl
theorem e160_60 : zE 160 d Q 60 [l0, l1, l2] [zI x] G h k ↔ Q (some (zI x)) G h := E_iret (by rfl) rfl
theorem e161_0 : zE 161 d Q 0 [some (.inr (.inr w9)), l1, l2, l3] st G h k ↔ zE 161 d Q 1 [some (.inr (.inr w9)), l1, l2, l3] (.inr (.inr w9) :: st) G h k := E_aload_n (by rfl) rfl
theorem e161_1 : zE 161 d Q 1 [l0, l1, l2, l3] st G h k ↔ zE 161 d Q 2 [l0, l1, l2, l3] (zI 0 :: st) G h k := E_iconst (by rfl)
theorem e161_2 : zE 161 d Q 2 [l0, l1, l2, l3] (zI x :: zR (some r) :: st) G h k ↔ (G.2.1 r = 9 ∧ zE 161 d Q 5 [l0, l1, l2, l3] st G (zu h r 0 x) k) := E_putI (by rfl) rfl
theorem e161_5 : zE 161 d Q 5 [some (.inr (.inr w9)), l1, l2, l3] st G h k ↔ zE 161 d Q 6 [some (.inr (.inr w9)), l1, l2, l3] (.inr (.inr w9) :: st) G h k := E_aload_n (by rfl) rfl
theorem e161_6 : zE 161 d Q 6 [l0, l1, some (zI x), l3] st G h k ↔ zE 161 d Q 7 [l0, l1, some (zI x), l3] (zI x :: st) G h k := E_iload_n (by rfl) rfl
theorem e161_7 : zE 161 d Q 7 [l0, l1, l2, l3] (v0 :: zR (some r) :: st) G h k ↔ (zsum st ≤ 8 ∧ G.2.1 r = 9 ∧ zRunD ztb zmt' d 155 [zR (some r), v0] G h (fun v G' h' => zE 161 d Q 10 [l0, l1, l2, l3] (v.toList ++ st) G' h' k)) := E_invV2z (by rfl) (by decide) rfl
theorem e161_10 : zE 161 d Q 10 [l0, l1, l2, l3] (zI x :: st) G h k ↔ ((x = 0 → zE 161 d Q 40 [l0, l1, l2, l3] st G h k) ∧ (¬ (x = 0) → zE 161 d Q 13 [l0, l1, l2, l3] st G h k)) := E_if_eq (by rfl)
theorem e161_13 : zE 161 d Q 13 [l0, some (zI x), l2, l3] st G h k ↔ zE 161 d Q 14 [l0, some (zI x), l2, l3] (zI x :: st) G h k := E_iload_n (by rfl) rfl
theorem e161_14 : zE 161 d Q 14 [l0, l1, l2, l3] st G h k ↔ zE 161 d Q 15 [l0, l1, l2, l3] (zI (-1) :: st) G h k := E_iconst (by rfl)
theorem e161_15 : zE 161 d Q 15 [l0, l1, l2, l3] (zI y :: zI x :: st) G h k ↔ ((x = y → zE 161 d Q 26 [l0, l1, l2, l3] st G h k) ∧ (¬ (x = y) → zE 161 d Q 18 [l0, l1, l2, l3] st G h k)) := E_icmp_eq (by rfl)
theorem e161_18 : zE 161 d Q 18 [some (.inr (.inr w9)), l1, l2, l3] st G h k ↔ zE 161 d Q 19 [some (.inr (.inr w9)), l1, l2, l3] (.inr (.inr w9) :: st) G h k := E_aload_n (by rfl) rfl
theorem e161_19 : zE 161 d Q 19 [l0, some (zI x), l2, l3] st G h k ↔ zE 161 d Q 20 [l0, some (zI x), l2, l3] (zI x :: st) G h k := E_iload_n (by rfl) rfl
theorem e161_20 : zE 161 d Q 20 [l0, l1, l2, l3] (v0 :: zR (some r) :: st) G h k ↔ (zsum st ≤ 8 ∧ G.2.1 r = 9 ∧ zRunD ztb zmt' d 154 [zR (some r), v0] G h (fun v G' h' => zE 161 d Q 23 [l0, l1, l2, l3] (v.toList ++ st) G' h' k)) := E_invV2z (by rfl) (by decide) rfl
theorem e161_23 : zE 161 d Q 23 [l0, l1, l2, l3] (zI x :: st) G h k ↔ ((x = 0 → zE 161 d Q 40 [l0, l1, l2, l3] st G h k) ∧ (¬ (x = 0) → zE 161 d Q 26 [l0, l1, l2, l3] st G h k)) := E_if_eq (by rfl)
theorem e161_26 : zE 161 d Q 26 [l0, l1, l2, some (zI x)] st G h k ↔ zE 161 d Q 27 [l0, l1, l2, some (zI x)] (zI x :: st) G h k := E_iload_n (by rfl) rfl
theorem e161_27 : zE 161 d Q 27 [l0, l1, l2, l3] st G h k ↔ zE 161 d Q 29 [l0, l1, l2, l3] (zI (-2) :: st) G h k := E_bipush (by rfl)
theorem e161_29 : zE 161 d Q 29 [l0, l1, l2, l3] (zI y :: zI x :: st) G h k ↔ ((x = y → zE 161 d Q 50 [l0, l1, l2, l3] st G h k) ∧ (¬ (x = y) → zE 161 d Q 32 [l0, l1, l2, l3] st G h k)) := E_icmp_eq (by rfl)
theorem e161_32 : zE 161 d Q 32 [some (.inr (.inr w9)), l1, l2, l3] st G h k ↔ zE 161 d Q 33 [some (.inr (.inr w9)), l1, l2, l3] (.inr (.inr w9) :: st) G h k := E_aload_n (by rfl) rfl
theorem e161_33 : zE 161 d Q 33 [l0, l1, l2, some (zI x)] st G h k ↔ zE 161 d Q 34 [l0, l1, l2, some (zI x)] (zI x :: st) G h k := E_iload_n (by rfl) rfl
theorem e161_34 : zE 161 d Q 34 [l0, l1, l2, l3] (v0 :: zR (some r) :: st) G h k ↔ (zsum st ≤ 8 ∧ G.2.1 r = 9 ∧ zRunD ztb zmt' d 154 [zR (some r), v0] G h (fun v G' h' => zE 161 d Q 37 [l0, l1, l2, l3] (v.toList ++ st) G' h' k)) := E_invV2z (by rfl) (by decide) rfl
theorem e161_37 : zE 161 d Q 37 [l0, l1, l2, l3] (zI x :: st) G h k ↔ ((¬ x = 0 → zE 161 d Q 50 [l0, l1, l2, l3] st G h k) ∧ (¬ (¬ x = 0) → zE 161 d Q 40 [l0, l1, l2, l3] st G h k)) := E_if_ne (by rfl)
theorem e161_40 : zE 161 d Q 40 [some (.inr (.inr w9)), l1, l2, l3] st G h k ↔ zE 161 d Q 41 [some (.inr (.inr w9)), l1, l2, l3] (.inr (.inr w9) :: st) G h k := E_aload_n (by rfl) rfl
theorem e161_41 : zE 161 d Q 41 [l0, l1, l2, l3] st G h k ↔ zE 161 d Q 42 [l0, l1, l2, l3] (zI 1 :: st) G h k := E_iconst (by rfl)
theorem e161_42 : zE 161 d Q 42 [l0, l1, l2, l3] (v0 :: zR (some r) :: st) G h k ↔ (zsum st ≤ 8 ∧ G.2.1 r = 9 ∧ zRunD ztb zmt' d 114 [zR (some r), v0] G h (fun v G' h' => zE 161 d Q 45 [l0, l1, l2, l3] (v.toList ++ st) G' h' k)) := E_invV2z (by rfl) (by decide) rfl
theorem e161_45 : zE 161 d Q 45 [l0, l1, l2, l3] (zI x :: st) G h k ↔ zE 161 d Q 46 [l0, l1, l2, l3] st G h k := E_pop (by rfl) rfl
theorem e161_46 : zE 161 d Q 46 [l0, l1, l2, l3] st G h k ↔ zE 161 d Q 49 [l0, l1, l2, l3] (zI (-2147483648) :: st) G h k := E_ldc_wI (by rfl) rfl
theorem e161_49 : zE 161 d Q 49 [l0, l1, l2, l3] [zI x] G h k ↔ Q (some (zI x)) G h := E_iret (by rfl) rfl
theorem e161_50 : zE 161 d Q 50 [some (.inr (.inr w9)), l1, l2, l3] st G h k ↔ zE 161 d Q 51 [some (.inr (.inr w9)), l1, l2, l3] (.inr (.inr w9) :: st) G h k := E_aload_n (by rfl) rfl
theorem e161_51 : zE 161 d Q 51 [l0, l1, l2, l3] st G h k ↔ zE 161 d Q 52 [l0, l1, l2, l3] (zI 0 :: st) G h k := E_iconst (by rfl)
theorem e161_52 : zE 161 d Q 52 [l0, l1, l2, l3] (v0 :: zR (some r) :: st) G h k ↔ (zsum st ≤ 8 ∧ G.2.1 r = 9 ∧ zRunD ztb zmt' d 143 [zR (some r), v0] G h (fun v G' h' => zE 161 d Q 55 [l0, l1, l2, l3] (v.toList ++ st) G' h' k)) := E_invV2z (by rfl) (by decide) rfl
theorem e161_55 : zE 161 d Q 55 [some (.inr (.inr w9)), l1, l2, l3] st G h k ↔ zE 161 d Q 56 [some (.inr (.inr w9)), l1, l2, l3] (.inr (.inr w9) :: st) G h k := E_aload_n (by rfl) rfl
theorem e161_56 : zE 161 d Q 56 [l0, l1, l2, l3] (zR (some r) :: st) G h k ↔ (zsum st ≤ 8 ∧ G.2.1 r = 9 ∧ zRunD ztb zmt' d 157 [zR (some r)] G h (fun v G' h' => zE 161 d Q 59 [l0, l1, l2, l3] (v.toList ++ st) G' h' k)) := E_invV2z (by rfl) (by decide) rfl
theorem e161_59 : zE 161 d Q 59 [some (.inr (.inr w9)), l1, l2, l3] st G h k ↔ zE 161 d Q 60 [some (.inr (.inr w9)), l1, l2, l3] (.inr (.inr w9) :: st) G h k := E_aload_n (by rfl) rfl
theorem e161_60 : zE 161 d Q 60 [some (.inr (.inr w9)), l1, l2, l3] st G h k ↔ zE 161 d Q 61 [some (.inr (.inr w9)), l1, l2, l3] (.inr (.inr w9) :: st) G h k := E_aload_n (by rfl) rfl
theorem e161_61 : zE 161 d Q 61 [l0, some (zI x), l2, l3] st G h k ↔ zE 161 d Q 62 [l0, some (zI x), l2, l3] (zI x :: st) G h k := E_iload_n (by rfl) rfl
theorem e161_62 : zE 161 d Q 62 [l0, l1, some (zI x), l3] st G h k ↔ zE 161 d Q 63 [l0, l1, some (zI x), l3] (zI x :: st) G h k := E_iload_n (by rfl) rfl
theorem e161_63 : zE 161 d Q 63 [l0, l1, l2, some (zI x)] st G h k ↔ zE 161 d Q 64 [l0, l1, l2, some (zI x)] (zI x :: st) G h k := E_iload_n (by rfl) rfl
theorem e161_64 : zE 161 d Q 64 [some (.inr (.inr w9)), l1, l2, l3] st G h k ↔ zE 161 d Q 65 [some (.inr (.inr w9)), l1, l2, l3] (.inr (.inr w9) :: st) G h k := E_aload_n (by rfl) rfl
theorem e161_65 : zE 161 d Q 65 [l0, l1, l2, l3] (zR (some r) :: st) G h k ↔ (G.2.1 r = 9 ∧ zE 161 d Q 68 [l0, l1, l2, l3] (zR (G.2.2.2 r 3) :: st) G h k) := E_getR (by rfl) rfl
theorem e161_68 : zE 161 d Q 68 [l0, l1, l2, l3] (zR (some r) :: st) G h k ↔ (G.2.1 r = 8 ∧ zE 161 d Q 71 [l0, l1, l2, l3] (zR (G.2.2.2 r 14) :: st) G h k) := E_getR (by rfl) rfl
theorem e161_71 : zE 161 d Q 71 [l0, l1, some (zI x), l3] st G h k ↔ zE 161 d Q 72 [l0, l1, some (zI x), l3] (zI x :: st) G h k := E_iload_n (by rfl) rfl
theorem e161_72 : zE 161 d Q 72 [l0, l1, l2, l3] (zI i :: zR (some r) :: st) G h k ↔ (G.2.1 r = 13 ∧ (0 ≤ i ∧ i < G.2.2.1 r) ∧ zE 161 d Q 73 [l0, l1, l2, l3] (zI (h r i.toNat) :: st) G h k) := E_baload (by rfl) (by decide)
theorem e161_73 : zE 161 d Q 73 [l0, l1, l2, l3] (v3 :: v2 :: v1 :: v0 :: zR (some r) :: st) G h k ↔ (zsum st ≤ 8 ∧ G.2.1 r = 9 ∧ zRunD ztb zmt' d 148 [zR (some r), v0, v1, v2, v3] G h (fun v G' h' => zE 161 d Q 76 [l0, l1, l2, l3] (v.toList ++ st) G' h' k)) := E_invV2z (by rfl) (by decide) rfl
theorem e161_76 : zE 161 d Q 76 [l0, l1, l2, l3] (v0 :: zR (some r) :: st) G h k ↔ (zsum st ≤ 8 ∧ G.2.1 r = 9 ∧ zRunD ztb zmt' d 117 [zR (some r), v0] G h (fun v G' h' => zE 161 d Q 79 [l0, l1, l2, l3] (v.toList ++ st) G' h' k)) := E_invV2z (by rfl) (by decide) rfl
theorem e161_79 : zE 161 d Q 79 [l0, l1, l2, l3] [zI x] G h k ↔ Q (some (zI x)) G h := E_iret (by rfl) rfl
theorem e162_0 : zE 162 d Q 0 [some (.inr (.inr w9)), l1] st G h k ↔ zE 162 d Q 1 [some (.inr (.inr w9)), l1] (.inr (.inr w9) :: st) G h k := E_aload_n (by rfl) rfl
theorem e162_1 : zE 162 d Q 1 [l0, l1] st G h k ↔ zE 162 d Q 2 [l0, l1] (zI 0 :: st) G h k := E_iconst (by rfl)
theorem e162_2 : zE 162 d Q 2 [l0, l1] (zI x :: zR (some r) :: st) G h k ↔ (G.2.1 r = 9 ∧ zE 162 d Q 5 [l0, l1] st G (zu h r 0 x) k) := E_putI (by rfl) rfl
theorem e162_5 : zE 162 d Q 5 [some (.inr (.inr w9)), l1] st G h k ↔ zE 162 d Q 6 [some (.inr (.inr w9)), l1] (.inr (.inr w9) :: st) G h k := E_aload_n (by rfl) rfl
theorem e162_6 : zE 162 d Q 6 [l0, l1] (zR (some r) :: st) G h k ↔ (G.2.1 r = 9 ∧ zE 162 d Q 9 [l0, l1] (zR (G.2.2.2 r 3) :: st) G h k) := E_getR (by rfl) rfl
theorem e162_9 : zE 162 d Q 9 [l0, l1] (zR q9 :: st) G h k ↔ ((q9 = none → zE 162 d Q 12 [l0, l1] st G h k) ∧ (∀ q, q9 = some q → zE 162 d Q 18 [l0, l1] st G h k)) := E_ifnonnull (by rfl)
theorem e162_12 : zE 162 d Q 12 [some (.inr (.inr w9)), l1] st G h k ↔ zE 162 d Q 13 [some (.inr (.inr w9)), l1] (.inr (.inr w9) :: st) G h k := E_aload_n (by rfl) rfl
theorem e162_13 : zE 162 d Q 13 [l0, l1] st G h k ↔ zE 162 d Q 14 [l0, l1] (zI 1 :: st) G h k := E_iconst (by rfl)
theorem e162_14 : zE 162 d Q 14 [l0, l1] (v0 :: zR (some r) :: st) G h k ↔ (zsum st ≤ 8 ∧ G.2.1 r = 9 ∧ zRunD ztb zmt' d 116 [zR (some r), v0] G h (fun v G' h' => zE 162 d Q 17 [l0, l1] (v.toList ++ st) G' h' k)) := E_invV2z (by rfl) (by decide) rfl
theorem e162_17 : zE 162 d Q 17 [l0, l1] [zI x] G h k ↔ ((x = 0 ∨ x = 1) ∧ Q (some (zI x)) G h) := E_zret (by rfl) rfl
theorem e162_18 : zE 162 d Q 18 [l0, some (zI x)] st G h k ↔ zE 162 d Q 19 [l0, some (zI x)] (zI x :: st) G h k := E_iload_n (by rfl) rfl
theorem e162_19 : zE 162 d Q 19 [l0, l1] st G h k ↔ zE 162 d Q 20 [l0, l1] (zI 0 :: st) G h k := E_iconst (by rfl)
theorem e162_20 : zE 162 d Q 20 [l0, l1] st G h k ↔ zE 162 d Q 23 [l0, l1] (zI 65536 :: st) G h k := E_ldc_wI (by rfl) rfl
theorem e162_23 : zE 162 d Q 23 [l0, l1] (v2 :: v1 :: v0 :: st) G h k ↔ (zsum st ≤ 8 ∧ zRunD ztb zmt' d 120 [v0, v1, v2] G h (fun v G' h' => zE 162 d Q 26 [l0, l1] (v.toList ++ st) G' h' k)) := E_invS2z (by rfl) (by decide) rfl
theorem e162_26 : zE 162 d Q 26 [l0, l1] (zI x :: st) G h k ↔ ((¬ x = 0 → zE 162 d Q 35 [l0, l1] st G h k) ∧ (¬ (¬ x = 0) → zE 162 d Q 29 [l0, l1] st G h k)) := E_if_ne (by rfl)
theorem e162_29 : zE 162 d Q 29 [some (.inr (.inr w9)), l1] st G h k ↔ zE 162 d Q 30 [some (.inr (.inr w9)), l1] (.inr (.inr w9) :: st) G h k := E_aload_n (by rfl) rfl
theorem e162_30 : zE 162 d Q 30 [l0, l1] st G h k ↔ zE 162 d Q 31 [l0, l1] (zI 2 :: st) G h k := E_iconst (by rfl)
theorem e162_31 : zE 162 d Q 31 [l0, l1] (v0 :: zR (some r) :: st) G h k ↔ (zsum st ≤ 8 ∧ G.2.1 r = 9 ∧ zRunD ztb zmt' d 116 [zR (some r), v0] G h (fun v G' h' => zE 162 d Q 34 [l0, l1] (v.toList ++ st) G' h' k)) := E_invV2z (by rfl) (by decide) rfl
theorem e162_34 : zE 162 d Q 34 [l0, l1] [zI x] G h k ↔ ((x = 0 ∨ x = 1) ∧ Q (some (zI x)) G h) := E_zret (by rfl) rfl
theorem e162_35 : zE 162 d Q 35 [some (.inr (.inr w9)), l1] st G h k ↔ zE 162 d Q 36 [some (.inr (.inr w9)), l1] (.inr (.inr w9) :: st) G h k := E_aload_n (by rfl) rfl
theorem e162_36 : zE 162 d Q 36 [l0, some (zI x)] st G h k ↔ zE 162 d Q 37 [l0, some (zI x)] (zI x :: st) G h k := E_iload_n (by rfl) rfl
theorem e162_37 : zE 162 d Q 37 [l0, l1] (zI x :: zR (some r) :: st) G h k ↔ (G.2.1 r = 9 ∧ zE 162 d Q 40 [l0, l1] st G (zu h r 30 x) k) := E_putI (by rfl) rfl
theorem e162_40 : zE 162 d Q 40 [some (.inr (.inr w9)), l1] st G h k ↔ zE 162 d Q 41 [some (.inr (.inr w9)), l1] (.inr (.inr w9) :: st) G h k := E_aload_n (by rfl) rfl
theorem e162_41 : zE 162 d Q 41 [l0, l1] (zR (some r) :: st) G h k ↔ (zsum st ≤ 8 ∧ G.2.1 r = 9 ∧ zRunD ztb zmt' d 119 [zR (some r)] G h (fun v G' h' => zE 162 d Q 44 [l0, l1] (v.toList ++ st) G' h' k)) := E_invV2z (by rfl) (by decide) rfl
theorem e162_44 : zE 162 d Q 44 [l0, l1] [zI x] G h k ↔ ((x = 0 ∨ x = 1) ∧ Q (some (zI x)) G h) := E_zret (by rfl) rfl
theorem e163_0 : zE 163 d Q 0 [some (.inr (.inr w9)), l1, l2] st G h k ↔ zE 163 d Q 1 [some (.inr (.inr w9)), l1, l2] (.inr (.inr w9) :: st) G h k := E_aload_n (by rfl) rfl
theorem e163_1 : zE 163 d Q 1 [l0, l1, l2] (zR (some r) :: st) G h k ↔ (zsum st ≤ 8 ∧ G.2.1 r = 9 ∧ zRunD ztb zmt' d 153 [zR (some r)] G h (fun v G' h' => zE 163 d Q 4 [l0, l1, l2] (v.toList ++ st) G' h' k)) := E_invV2z (by rfl) (by decide) rfl
theorem e163_4 : zE 163 d Q 4 [l0, l1, l2] st G h k ↔ zE 163 d Q 5 [l0, l1, l2] (zI 0 :: st) G h k := E_iconst (by rfl)
theorem e163_5 : zE 163 d Q 5 [l0, l1, l2] (zI x :: st) G h k ↔ zE 163 d Q 6 [(zclr l0), some (zI x), l2] st G h k := E_istore_n (by rfl) (by decide)
theorem e163_6 : zE 163 d Q 6 [l0, some (zI x), l2] st G h k ↔ zE 163 d Q 7 [l0, some (zI x), l2] (zI x :: st) G h k := E_iload_n (by rfl) rfl
theorem e163_7 : zE 163 d Q 7 [some (.inr (.inr w9)), l1, l2] st G h k ↔ zE 163 d Q 8 [some (.inr (.inr w9)), l1, l2] (.inr (.inr w9) :: st) G h k := E_aload_n (by rfl) rfl
theorem e163_8 : zE 163 d Q 8 [l0, l1, l2] (zR (some r) :: st) G h k ↔ (G.2.1 r = 9 ∧ zE 163 d Q 11 [l0, l1, l2] (zR (G.2.2.2 r 3) :: st) G h k) := E_getR (by rfl) rfl
theorem e163_11 : zE 163 d Q 11 [l0, l1, l2] (zR (some r) :: st) G h k ↔ (G.2.1 r = 8 ∧ zE 163 d Q 14 [l0, l1, l2] (zI (h r 1) :: st) G h k) := E_getI (by rfl) (by decide)
theorem e163_14 : zE 163 d Q 14 [l0, l1, l2] (zI y :: zI x :: st) G h k ↔ ((y ≤ x → zE 163 d Q 79 [l0, l1, l2] st G h k) ∧ (¬ (y ≤ x) → zE 163 d Q 17 [l0, l1, l2] st G h k)) := E_icmp_ge (by rfl)
theorem e163_17 : zE 163 d Q 17 [some (.inr (.inr w9)), l1, l2] st G h k ↔ zE 163 d Q 18 [some (.inr (.inr w9)), l1, l2] (.inr (.inr w9) :: st) G h k := E_aload_n (by rfl) rfl
theorem e163_18 : zE 163 d Q 18 [l0, l1, l2] (zR (some r) :: st) G h k ↔ (G.2.1 r = 9 ∧ zE 163 d Q 21 [l0, l1, l2] (zI (h r 30) :: st) G h k) := E_getI (by rfl) (by decide)
theorem e163_21 : zE 163 d Q 21 [l0, l1, l2] (zI x :: st) G h k ↔ ((x ≤ 0 → zE 163 d Q 79 [l0, l1, l2] st G h k) ∧ (¬ (x ≤ 0) → zE 163 d Q 24 [l0, l1, l2] st G h k)) := E_if_le (by rfl)
theorem e163_24 : zE 163 d Q 24 [some (.inr (.inr w9)), l1, l2] st G h k ↔ zE 163 d Q 25 [some (.inr (.inr w9)), l1, l2] (.inr (.inr w9) :: st) G h k := E_aload_n (by rfl) rfl
theorem e163_25 : zE 163 d Q 25 [l0, l1, l2] st G h k ↔ zE 163 d Q 27 [l0, l1, l2] (zI 75 :: st) G h k := E_bipush (by rfl)
theorem e163_27 : zE 163 d Q 27 [some (.inr (.inr w9)), l1, l2] st G h k ↔ zE 163 d Q 28 [some (.inr (.inr w9)), l1, l2] (.inr (.inr w9) :: st) G h k := E_aload_n (by rfl) rfl
theorem e163_28 : zE 163 d Q 28 [l0, l1, l2] (zR (some r) :: st) G h k ↔ (G.2.1 r = 9 ∧ zE 163 d Q 31 [l0, l1, l2] (zI (h r 30) :: st) G h k) := E_getI (by rfl) (by decide)
theorem e163_31 : zE 163 d Q 31 [l0, l1, l2] (zI y :: zI x :: st) G h k ↔ zE 163 d Q 32 [l0, l1, l2] (zI (wr (x * y)) :: st) G h k := E_imul (by rfl)
theorem e163_32 : zE 163 d Q 32 [l0, l1, l2] st G h k ↔ zE 163 d Q 34 [l0, l1, l2] (zI 74 :: st) G h k := E_bipush (by rfl)
theorem e163_34 : zE 163 d Q 34 [l0, l1, l2] (zI y :: zI x :: st) G h k ↔ zE 163 d Q 35 [l0, l1, l2] (zI (wr (x + y)) :: st) G h k := E_iadd (by rfl)
theorem e163_35 : zE 163 d Q 35 [l0, l1, l2] st G h k ↔ zE 163 d Q 38 [l0, l1, l2] (zI 65537 :: st) G h k := E_ldc_wI (by rfl) rfl
theorem e163_38 : zE 163 d Q 38 [l0, l1, l2] (zI y :: zI x :: st) G h k ↔ (y ≠ 0 ∧ zE 163 d Q 39 [l0, l1, l2] (zI (x.tmod y) :: st) G h k) := E_irem (by rfl)
theorem e163_39 : zE 163 d Q 39 [l0, l1, l2] (zI x :: zR (some r) :: st) G h k ↔ (G.2.1 r = 9 ∧ zE 163 d Q 42 [l0, l1, l2] st G (zu h r 30 x) k) := E_putI (by rfl) rfl
theorem e163_42 : zE 163 d Q 42 [some (.inr (.inr w9)), l1, l2] st G h k ↔ zE 163 d Q 43 [some (.inr (.inr w9)), l1, l2] (.inr (.inr w9) :: st) G h k := E_aload_n (by rfl) rfl
theorem e163_43 : zE 163 d Q 43 [l0, l1, l2] (zR (some r) :: st) G h k ↔ (G.2.1 r = 9 ∧ zE 163 d Q 46 [l0, l1, l2] (zR (G.2.2.2 r 29) :: st) G h k) := E_getR (by rfl) rfl
theorem e163_46 : zE 163 d Q 46 [l0, some (zI x), l2] st G h k ↔ zE 163 d Q 47 [l0, some (zI x), l2] (zI x :: st) G h k := E_iload_n (by rfl) rfl
theorem e163_47 : zE 163 d Q 47 [l0, l1, l2] (zI i :: zR (some r) :: st) G h k ↔ (G.2.1 r = 10 ∧ (0 ≤ i ∧ i < G.2.2.1 r) ∧ zE 163 d Q 48 [l0, l1, l2] (zI (h r i.toNat) :: st) G h k) := E_iaload (by rfl)
theorem e163_48 : zE 163 d Q 48 [some (.inr (.inr w9)), l1, l2] st G h k ↔ zE 163 d Q 49 [some (.inr (.inr w9)), l1, l2] (.inr (.inr w9) :: st) G h k := E_aload_n (by rfl) rfl
theorem e163_49 : zE 163 d Q 49 [l0, l1, l2] (zR (some r) :: st) G h k ↔ (G.2.1 r = 9 ∧ zE 163 d Q 52 [l0, l1, l2] (zI (h r 30) :: st) G h k) := E_getI (by rfl) (by decide)
theorem e163_52 : zE 163 d Q 52 [l0, l1, l2] st G h k ↔ zE 163 d Q 53 [l0, l1, l2] (zI 3 :: st) G h k := E_iconst (by rfl)
theorem e163_53 : zE 163 d Q 53 [l0, l1, l2] (zI y :: zI x :: st) G h k ↔ (y ≠ 0 ∧ zE 163 d Q 54 [l0, l1, l2] (zI (x.tmod y) :: st) G h k) := E_irem (by rfl)
theorem e163_54 : zE 163 d Q 54 [l0, l1, l2] (zI y :: zI x :: st) G h k ↔ zE 163 d Q 55 [l0, l1, l2] (zI (wr (x + y)) :: st) G h k := E_iadd (by rfl)
theorem e163_55 : zE 163 d Q 55 [l0, l1, l2] st G h k ↔ zE 163 d Q 56 [l0, l1, l2] (zI 1 :: st) G h k := E_iconst (by rfl)
theorem e163_56 : zE 163 d Q 56 [l0, l1, l2] (zI y :: zI x :: st) G h k ↔ zE 163 d Q 57 [l0, l1, l2] (zI (wr (x - y)) :: st) G h k := E_isub (by rfl)
theorem e163_57 : zE 163 d Q 57 [l0, l1, l2] (zI x :: st) G h k ↔ zE 163 d Q 58 [l0, (zclr l1), some (zI x)] st G h k := E_istore_n (by rfl) (by decide)
theorem e163_58 : zE 163 d Q 58 [some (.inr (.inr w9)), l1, l2] st G h k ↔ zE 163 d Q 59 [some (.inr (.inr w9)), l1, l2] (.inr (.inr w9) :: st) G h k := E_aload_n (by rfl) rfl
theorem e163_59 : zE 163 d Q 59 [l0, l1, l2] (zR (some r) :: st) G h k ↔ (G.2.1 r = 9 ∧ zE 163 d Q 62 [l0, l1, l2] (zR (G.2.2.2 r 29) :: st) G h k) := E_getR (by rfl) rfl
theorem e163_62 : zE 163 d Q 62 [l0, some (zI x), l2] st G h k ↔ zE 163 d Q 63 [l0, some (zI x), l2] (zI x :: st) G h k := E_iload_n (by rfl) rfl
theorem e163_63 : zE 163 d Q 63 [l0, l1, some (zI x)] st G h k ↔ zE 163 d Q 64 [l0, l1, some (zI x)] (zI x :: st) G h k := E_iload_n (by rfl) rfl
theorem e163_64 : zE 163 d Q 64 [l0, l1, l2] (zI x :: st) G h k ↔ ((0 ≤ x → zE 163 d Q 71 [l0, l1, l2] st G h k) ∧ (¬ (0 ≤ x) → zE 163 d Q 67 [l0, l1, l2] st G h k)) := E_if_ge (by rfl)
theorem e163_67 : zE 163 d Q 67 [l0, l1, l2] st G h k ↔ zE 163 d Q 68 [l0, l1, l2] (zI 0 :: st) G h k := E_iconst (by rfl)
theorem e163_68 : zE 163 d Q 68 [l0, l1, l2] st G h k ↔ zE 163 d Q 72 [l0, l1, l2] st G h k := E_goto (by rfl)
theorem e163_71 : zE 163 d Q 71 [l0, l1, some (zI x)] st G h k ↔ zE 163 d Q 72 [l0, l1, some (zI x)] (zI x :: st) G h k := E_iload_n (by rfl) rfl
theorem e163_72 : zE 163 d Q 72 [l0, l1, l2] (zI x :: zI i :: zR (some r) :: st) G h k ↔ (G.2.1 r = 10 ∧ (0 ≤ i ∧ i < G.2.2.1 r) ∧ zE 163 d Q 73 [l0, l1, l2] st G (zu h r i.toNat x) k) := E_iastore (by rfl)
theorem e163_73 : zE 163 d Q 73 [l0, some (zI x), l2] st G h k ↔ zE 163 d Q 76 [(zclr l0), some (zI (wr (x + 1))), l2] st G h k := E_iinc (by rfl) rfl
theorem e163_76 : zE 163 d Q 76 [l0, l1, l2] st G h k ↔ zE 163 d Q 6 [l0, l1, l2] st G h k := E_goto (by rfl)
theorem e163_79 : zE 163 d Q 79 [l0, l1, l2] [] G h k ↔ Q none G h := E_vret (by rfl) rfl
theorem e164_0 : zE 164 d Q 0 [l0, l1, l2] st G h k ↔ zE 164 d Q 1 [l0, l1, l2] (zI 0 :: st) G h k := E_iconst (by rfl)
theorem e164_1 : zE 164 d Q 1 [l0, l1, l2] (zI x :: st) G h k ↔ zE 164 d Q 2 [(zclr l0), some (zI x), l2] st G h k := E_istore_n (by rfl) (by decide)
theorem e164_2 : zE 164 d Q 2 [l0, some (zI x), l2] st G h k ↔ zE 164 d Q 3 [l0, some (zI x), l2] (zI x :: st) G h k := E_iload_n (by rfl) rfl
theorem e164_3 : zE 164 d Q 3 [l0, l1, l2] st G h k ↔ zE 164 d Q 5 [l0, l1, l2] (zI 12 :: st) G h k := E_bipush (by rfl)
theorem e164_5 : zE 164 d Q 5 [l0, l1, l2] (zI y :: zI x :: st) G h k ↔ ((y ≤ x → zE 164 d Q 34 [l0, l1, l2] st G h k) ∧ (¬ (y ≤ x) → zE 164 d Q 8 [l0, l1, l2] st G h k)) := E_icmp_ge (by rfl)
theorem e164_8 : zE 164 d Q 8 [some (.inr (.inr w9)), l1, l2] st G h k ↔ zE 164 d Q 9 [some (.inr (.inr w9)), l1, l2] (.inr (.inr w9) :: st) G h k := E_aload_n (by rfl) rfl
theorem e164_9 : zE 164 d Q 9 [l0, l1, l2] (zR (some r) :: st) G h k ↔ (G.2.1 r = 9 ∧ zE 164 d Q 12 [l0, l1, l2] (zR (G.2.2.2 r 35) :: st) G h k) := E_getR (by rfl) rfl
theorem e164_12 : zE 164 d Q 12 [l0, l1, l2] st G h k ↔ zE 164 d Q 14 [l0, l1, l2] (zI 12 :: st) G h k := E_bipush (by rfl)
theorem e164_14 : zE 164 d Q 14 [some (.inr (.inr w9)), l1, l2] st G h k ↔ zE 164 d Q 15 [some (.inr (.inr w9)), l1, l2] (.inr (.inr w9) :: st) G h k := E_aload_n (by rfl) rfl
theorem e164_15 : zE 164 d Q 15 [l0, l1, l2] (zR (some r) :: st) G h k ↔ (G.2.1 r = 9 ∧ zE 164 d Q 18 [l0, l1, l2] (zI (h r 31) :: st) G h k) := E_getI (by rfl) (by decide)
theorem e164_18 : zE 164 d Q 18 [l0, l1, l2] (zI y :: zI x :: st) G h k ↔ zE 164 d Q 19 [l0, l1, l2] (zI (wr (x * y)) :: st) G h k := E_imul (by rfl)
theorem e164_19 : zE 164 d Q 19 [l0, some (zI x), l2] st G h k ↔ zE 164 d Q 20 [l0, some (zI x), l2] (zI x :: st) G h k := E_iload_n (by rfl) rfl
theorem e164_20 : zE 164 d Q 20 [l0, l1, l2] (zI y :: zI x :: st) G h k ↔ zE 164 d Q 21 [l0, l1, l2] (zI (wr (x + y)) :: st) G h k := E_iadd (by rfl)
theorem e164_21 : zE 164 d Q 21 [some (.inr (.inr w9)), l1, l2] st G h k ↔ zE 164 d Q 22 [some (.inr (.inr w9)), l1, l2] (.inr (.inr w9) :: st) G h k := E_aload_n (by rfl) rfl
theorem e164_22 : zE 164 d Q 22 [l0, l1, l2] (zR (some r) :: st) G h k ↔ (G.2.1 r = 9 ∧ zE 164 d Q 25 [l0, l1, l2] (zR (G.2.2.2 r 32) :: st) G h k) := E_getR (by rfl) rfl
theorem e164_25 : zE 164 d Q 25 [l0, some (zI x), l2] st G h k ↔ zE 164 d Q 26 [l0, some (zI x), l2] (zI x :: st) G h k := E_iload_n (by rfl) rfl
theorem e164_26 : zE 164 d Q 26 [l0, l1, l2] (zI i :: zR (some r) :: st) G h k ↔ (G.2.1 r = 10 ∧ (0 ≤ i ∧ i < G.2.2.1 r) ∧ zE 164 d Q 27 [l0, l1, l2] (zI (h r i.toNat) :: st) G h k) := E_iaload (by rfl)
theorem e164_27 : zE 164 d Q 27 [l0, l1, l2] (zI x :: zI i :: zR (some r) :: st) G h k ↔ (G.2.1 r = 10 ∧ (0 ≤ i ∧ i < G.2.2.1 r) ∧ zE 164 d Q 28 [l0, l1, l2] st G (zu h r i.toNat x) k) := E_iastore (by rfl)
theorem e164_28 : zE 164 d Q 28 [l0, some (zI x), l2] st G h k ↔ zE 164 d Q 31 [(zclr l0), some (zI (wr (x + 1))), l2] st G h k := E_iinc (by rfl) rfl
theorem e164_31 : zE 164 d Q 31 [l0, l1, l2] st G h k ↔ zE 164 d Q 2 [l0, l1, l2] st G h k := E_goto (by rfl)
theorem e164_34 : zE 164 d Q 34 [l0, l1, l2] st G h k ↔ zE 164 d Q 35 [l0, l1, l2] (zI 0 :: st) G h k := E_iconst (by rfl)
theorem e164_35 : zE 164 d Q 35 [l0, l1, l2] (zI x :: st) G h k ↔ zE 164 d Q 36 [(zclr l0), some (zI x), l2] st G h k := E_istore_n (by rfl) (by decide)
theorem e164_36 : zE 164 d Q 36 [l0, some (zI x), l2] st G h k ↔ zE 164 d Q 37 [l0, some (zI x), l2] (zI x :: st) G h k := E_iload_n (by rfl) rfl
theorem e164_37 : zE 164 d Q 37 [l0, l1, l2] st G h k ↔ zE 164 d Q 38 [l0, l1, l2] (zI 3 :: st) G h k := E_iconst (by rfl)
theorem e164_38 : zE 164 d Q 38 [l0, l1, l2] (zI y :: zI x :: st) G h k ↔ ((y ≤ x → zE 164 d Q 85 [l0, l1, l2] st G h k) ∧ (¬ (y ≤ x) → zE 164 d Q 41 [l0, l1, l2] st G h k)) := E_icmp_ge (by rfl)
theorem e164_41 : zE 164 d Q 41 [some (.inr (.inr w9)), l1, l2] st G h k ↔ zE 164 d Q 42 [some (.inr (.inr w9)), l1, l2] (.inr (.inr w9) :: st) G h k := E_aload_n (by rfl) rfl
theorem e164_42 : zE 164 d Q 42 [l0, l1, l2] (zR (some r) :: st) G h k ↔ (G.2.1 r = 9 ∧ zE 164 d Q 45 [l0, l1, l2] (zR (G.2.2.2 r 36) :: st) G h k) := E_getR (by rfl) rfl
theorem e164_45 : zE 164 d Q 45 [l0, l1, l2] st G h k ↔ zE 164 d Q 46 [l0, l1, l2] (zI 3 :: st) G h k := E_iconst (by rfl)
theorem e164_46 : zE 164 d Q 46 [some (.inr (.inr w9)), l1, l2] st G h k ↔ zE 164 d Q 47 [some (.inr (.inr w9)), l1, l2] (.inr (.inr w9) :: st) G h k := E_aload_n (by rfl) rfl
theorem e164_47 : zE 164 d Q 47 [l0, l1, l2] (zR (some r) :: st) G h k ↔ (G.2.1 r = 9 ∧ zE 164 d Q 50 [l0, l1, l2] (zI (h r 31) :: st) G h k) := E_getI (by rfl) (by decide)
theorem e164_50 : zE 164 d Q 50 [l0, l1, l2] (zI y :: zI x :: st) G h k ↔ zE 164 d Q 51 [l0, l1, l2] (zI (wr (x * y)) :: st) G h k := E_imul (by rfl)
theorem e164_51 : zE 164 d Q 51 [l0, some (zI x), l2] st G h k ↔ zE 164 d Q 52 [l0, some (zI x), l2] (zI x :: st) G h k := E_iload_n (by rfl) rfl
theorem e164_52 : zE 164 d Q 52 [l0, l1, l2] (zI y :: zI x :: st) G h k ↔ zE 164 d Q 53 [l0, l1, l2] (zI (wr (x + y)) :: st) G h k := E_iadd (by rfl)
theorem e164_53 : zE 164 d Q 53 [some (.inr (.inr w9)), l1, l2] st G h k ↔ zE 164 d Q 54 [some (.inr (.inr w9)), l1, l2] (.inr (.inr w9) :: st) G h k := E_aload_n (by rfl) rfl
theorem e164_54 : zE 164 d Q 54 [l0, l1, l2] (zR (some r) :: st) G h k ↔ (G.2.1 r = 9 ∧ zE 164 d Q 57 [l0, l1, l2] (zR (G.2.2.2 r 33) :: st) G h k) := E_getR (by rfl) rfl
theorem e164_57 : zE 164 d Q 57 [l0, some (zI x), l2] st G h k ↔ zE 164 d Q 58 [l0, some (zI x), l2] (zI x :: st) G h k := E_iload_n (by rfl) rfl
theorem e164_58 : zE 164 d Q 58 [l0, l1, l2] (zI i :: zR (some r) :: st) G h k ↔ (G.2.1 r = 10 ∧ (0 ≤ i ∧ i < G.2.2.1 r) ∧ zE 164 d Q 59 [l0, l1, l2] (zI (h r i.toNat) :: st) G h k) := E_iaload (by rfl)
theorem e164_59 : zE 164 d Q 59 [l0, l1, l2] (zI x :: zI i :: zR (some r) :: st) G h k ↔ (G.2.1 r = 10 ∧ (0 ≤ i ∧ i < G.2.2.1 r) ∧ zE 164 d Q 60 [l0, l1, l2] st G (zu h r i.toNat x) k) := E_iastore (by rfl)
theorem e164_60 : zE 164 d Q 60 [some (.inr (.inr w9)), l1, l2] st G h k ↔ zE 164 d Q 61 [some (.inr (.inr w9)), l1, l2] (.inr (.inr w9) :: st) G h k := E_aload_n (by rfl) rfl
theorem e164_61 : zE 164 d Q 61 [l0, l1, l2] (zR (some r) :: st) G h k ↔ (G.2.1 r = 9 ∧ zE 164 d Q 64 [l0, l1, l2] (zR (G.2.2.2 r 37) :: st) G h k) := E_getR (by rfl) rfl
theorem e164_64 : zE 164 d Q 64 [l0, l1, l2] st G h k ↔ zE 164 d Q 65 [l0, l1, l2] (zI 3 :: st) G h k := E_iconst (by rfl)
theorem e164_65 : zE 164 d Q 65 [some (.inr (.inr w9)), l1, l2] st G h k ↔ zE 164 d Q 66 [some (.inr (.inr w9)), l1, l2] (.inr (.inr w9) :: st) G h k := E_aload_n (by rfl) rfl
theorem e164_66 : zE 164 d Q 66 [l0, l1, l2] (zR (some r) :: st) G h k ↔ (G.2.1 r = 9 ∧ zE 164 d Q 69 [l0, l1, l2] (zI (h r 31) :: st) G h k) := E_getI (by rfl) (by decide)
theorem e164_69 : zE 164 d Q 69 [l0, l1, l2] (zI y :: zI x :: st) G h k ↔ zE 164 d Q 70 [l0, l1, l2] (zI (wr (x * y)) :: st) G h k := E_imul (by rfl)
theorem e164_70 : zE 164 d Q 70 [l0, some (zI x), l2] st G h k ↔ zE 164 d Q 71 [l0, some (zI x), l2] (zI x :: st) G h k := E_iload_n (by rfl) rfl
theorem e164_71 : zE 164 d Q 71 [l0, l1, l2] (zI y :: zI x :: st) G h k ↔ zE 164 d Q 72 [l0, l1, l2] (zI (wr (x + y)) :: st) G h k := E_iadd (by rfl)
theorem e164_72 : zE 164 d Q 72 [some (.inr (.inr w9)), l1, l2] st G h k ↔ zE 164 d Q 73 [some (.inr (.inr w9)), l1, l2] (.inr (.inr w9) :: st) G h k := E_aload_n (by rfl) rfl
theorem e164_73 : zE 164 d Q 73 [l0, l1, l2] (zR (some r) :: st) G h k ↔ (G.2.1 r = 9 ∧ zE 164 d Q 76 [l0, l1, l2] (zR (G.2.2.2 r 34) :: st) G h k) := E_getR (by rfl) rfl
theorem e164_76 : zE 164 d Q 76 [l0, some (zI x), l2] st G h k ↔ zE 164 d Q 77 [l0, some (zI x), l2] (zI x :: st) G h k := E_iload_n (by rfl) rfl
theorem e164_77 : zE 164 d Q 77 [l0, l1, l2] (zI i :: zR (some r) :: st) G h k ↔ (G.2.1 r = 10 ∧ (0 ≤ i ∧ i < G.2.2.1 r) ∧ zE 164 d Q 78 [l0, l1, l2] (zI (h r i.toNat) :: st) G h k) := E_iaload (by rfl)
theorem e164_78 : zE 164 d Q 78 [l0, l1, l2] (zI x :: zI i :: zR (some r) :: st) G h k ↔ (G.2.1 r = 10 ∧ (0 ≤ i ∧ i < G.2.2.1 r) ∧ zE 164 d Q 79 [l0, l1, l2] st G (zu h r i.toNat x) k) := E_iastore (by rfl)
theorem e164_79 : zE 164 d Q 79 [l0, some (zI x), l2] st G h k ↔ zE 164 d Q 82 [(zclr l0), some (zI (wr (x + 1))), l2] st G h k := E_iinc (by rfl) rfl
theorem e164_82 : zE 164 d Q 82 [l0, l1, l2] st G h k ↔ zE 164 d Q 36 [l0, l1, l2] st G h k := E_goto (by rfl)
theorem e164_85 : zE 164 d Q 85 [some (.inr (.inr w9)), l1, l2] st G h k ↔ zE 164 d Q 86 [some (.inr (.inr w9)), l1, l2] (.inr (.inr w9) :: st) G h k := E_aload_n (by rfl) rfl
theorem e164_86 : zE 164 d Q 86 [l0, l1, l2] (zR (some r) :: st) G h k ↔ (G.2.1 r = 9 ∧ zE 164 d Q 89 [l0, l1, l2] (zR (G.2.2.2 r 38) :: st) G h k) := E_getR (by rfl) rfl
theorem e164_89 : zE 164 d Q 89 [some (.inr (.inr w9)), l1, l2] st G h k ↔ zE 164 d Q 90 [some (.inr (.inr w9)), l1, l2] (.inr (.inr w9) :: st) G h k := E_aload_n (by rfl) rfl
theorem e164_90 : zE 164 d Q 90 [l0, l1, l2] (zR (some r) :: st) G h k ↔ (G.2.1 r = 9 ∧ zE 164 d Q 93 [l0, l1, l2] (zI (h r 31) :: st) G h k) := E_getI (by rfl) (by decide)
theorem e164_93 : zE 164 d Q 93 [some (.inr (.inr w9)), l1, l2] st G h k ↔ zE 164 d Q 94 [some (.inr (.inr w9)), l1, l2] (.inr (.inr w9) :: st) G h k := E_aload_n (by rfl) rfl
theorem e164_94 : zE 164 d Q 94 [l0, l1, l2] (zR (some r) :: st) G h k ↔ (G.2.1 r = 9 ∧ zE 164 d Q 97 [l0, l1, l2] (zI (h r 30) :: st) G h k) := E_getI (by rfl) (by decide)
theorem e164_97 : zE 164 d Q 97 [l0, l1, l2] (zI x :: zI i :: zR (some r) :: st) G h k ↔ (G.2.1 r = 10 ∧ (0 ≤ i ∧ i < G.2.2.1 r) ∧ zE 164 d Q 98 [l0, l1, l2] st G (zu h r i.toNat x) k) := E_iastore (by rfl)
theorem e164_98 : zE 164 d Q 98 [some (.inr (.inr w9)), l1, l2] st G h k ↔ zE 164 d Q 99 [some (.inr (.inr w9)), l1, l2] (.inr (.inr w9) :: st) G h k := E_aload_n (by rfl) rfl
theorem e164_99 : zE 164 d Q 99 [l0, l1, l2] (zR (some r) :: st) G h k ↔ (zsum st ≤ 8 ∧ G.2.1 r = 9 ∧ zRunD ztb zmt' d 163 [zR (some r)] G h (fun v G' h' => zE 164 d Q 102 [l0, l1, l2] (v.toList ++ st) G' h' k)) := E_invV2z (by rfl) (by decide) rfl
theorem e164_102 : zE 164 d Q 102 [some (.inr (.inr w9)), l1, l2] st G h k ↔ zE 164 d Q 103 [some (.inr (.inr w9)), l1, l2] (.inr (.inr w9) :: st) G h k := E_aload_n (by rfl) rfl
theorem e164_103 : zE 164 d Q 103 [some (.inr (.inr w9)), l1, l2] st G h k ↔ zE 164 d Q 104 [some (.inr (.inr w9)), l1, l2] (.inr (.inr w9) :: st) G h k := E_aload_n (by rfl) rfl
theorem e164_104 : zE 164 d Q 104 [l0, l1, l2] (zR (some r) :: st) G h k ↔ (G.2.1 r = 9 ∧ zE 164 d Q 107 [l0, l1, l2] (zR (G.2.2.2 r 32) :: st) G h k) := E_getR (by rfl) rfl
theorem e164_107 : zE 164 d Q 107 [l0, l1, l2] st G h k ↔ zE 164 d Q 108 [l0, l1, l2] (zI 0 :: st) G h k := E_iconst (by rfl)
theorem e164_108 : zE 164 d Q 108 [l0, l1, l2] st G h k ↔ zE 164 d Q 110 [l0, l1, l2] (zI 12 :: st) G h k := E_bipush (by rfl)
theorem e164_110 : zE 164 d Q 110 [l0, l1, l2] (v2 :: v1 :: v0 :: zR (some r) :: st) G h k ↔ (zsum st ≤ 8 ∧ G.2.1 r = 9 ∧ zRunD ztb zmt' d 152 [zR (some r), v0, v1, v2] G h (fun v G' h' => zE 164 d Q 113 [l0, l1, l2] (v.toList ++ st) G' h' k)) := E_invV2z (by rfl) (by decide) rfl
theorem e164_113 : zE 164 d Q 113 [l0, l1, l2] st G h k ↔ zE 164 d Q 114 [l0, l1, l2] (zI 0 :: st) G h k := E_iconst (by rfl)
theorem e164_114 : zE 164 d Q 114 [l0, l1, l2] (zI x :: st) G h k ↔ zE 164 d Q 115 [(zclr l0), some (zI x), l2] st G h k := E_istore_n (by rfl) (by decide)
theorem e164_115 : zE 164 d Q 115 [l0, l1, l2] st G h k ↔ zE 164 d Q 116 [l0, l1, l2] (zI 0 :: st) G h k := E_iconst (by rfl)
theorem e164_116 : zE 164 d Q 116 [l0, l1, l2] (zI x :: st) G h k ↔ zE 164 d Q 117 [l0, (zclr l1), some (zI x)] st G h k := E_istore_n (by rfl) (by decide)
theorem e164_117 : zE 164 d Q 117 [l0, l1, some (zI x)] st G h k ↔ zE 164 d Q 118 [l0, l1, some (zI x)] (zI x :: st) G h k := E_iload_n (by rfl) rfl
theorem e164_118 : zE 164 d Q 118 [some (.inr (.inr w9)), l1, l2] st G h k ↔ zE 164 d Q 119 [some (.inr (.inr w9)), l1, l2] (.inr (.inr w9) :: st) G h k := E_aload_n (by rfl) rfl
theorem e164_119 : zE 164 d Q 119 [l0, l1, l2] (zR (some r) :: st) G h k ↔ (G.2.1 r = 9 ∧ zE 164 d Q 122 [l0, l1, l2] (zR (G.2.2.2 r 3) :: st) G h k) := E_getR (by rfl) rfl
theorem e164_122 : zE 164 d Q 122 [l0, l1, l2] (zR (some r) :: st) G h k ↔ (G.2.1 r = 8 ∧ zE 164 d Q 125 [l0, l1, l2] (zI (h r 1) :: st) G h k) := E_getI (by rfl) (by decide)
theorem e164_125 : zE 164 d Q 125 [l0, l1, l2] (zI y :: zI x :: st) G h k ↔ ((y ≤ x → zE 164 d Q 143 [l0, l1, l2] st G h k) ∧ (¬ (y ≤ x) → zE 164 d Q 128 [l0, l1, l2] st G h k)) := E_icmp_ge (by rfl)
theorem e164_128 : zE 164 d Q 128 [l0, some (zI x), l2] st G h k ↔ zE 164 d Q 129 [l0, some (zI x), l2] (zI x :: st) G h k := E_iload_n (by rfl) rfl
theorem e164_129 : zE 164 d Q 129 [some (.inr (.inr w9)), l1, l2] st G h k ↔ zE 164 d Q 130 [some (.inr (.inr w9)), l1, l2] (.inr (.inr w9) :: st) G h k := E_aload_n (by rfl) rfl
theorem e164_130 : zE 164 d Q 130 [l0, l1, l2] (zR (some r) :: st) G h k ↔ (G.2.1 r = 9 ∧ zE 164 d Q 133 [l0, l1, l2] (zR (G.2.2.2 r 27) :: st) G h k) := E_getR (by rfl) rfl
theorem e164_133 : zE 164 d Q 133 [l0, l1, some (zI x)] st G h k ↔ zE 164 d Q 134 [l0, l1, some (zI x)] (zI x :: st) G h k := E_iload_n (by rfl) rfl
theorem e164_134 : zE 164 d Q 134 [l0, l1, l2] (zI i :: zR (some r) :: st) G h k ↔ (G.2.1 r = 10 ∧ (0 ≤ i ∧ i < G.2.2.1 r) ∧ zE 164 d Q 135 [l0, l1, l2] (zI (h r i.toNat) :: st) G h k) := E_iaload (by rfl)
theorem e164_135 : zE 164 d Q 135 [l0, l1, l2] (zI y :: zI x :: st) G h k ↔ zE 164 d Q 136 [l0, l1, l2] (zI (wr (x + y)) :: st) G h k := E_iadd (by rfl)
theorem e164_136 : zE 164 d Q 136 [l0, l1, l2] (zI x :: st) G h k ↔ zE 164 d Q 137 [(zclr l0), some (zI x), l2] st G h k := E_istore_n (by rfl) (by decide)
theorem e164_137 : zE 164 d Q 137 [l0, l1, some (zI x)] st G h k ↔ zE 164 d Q 140 [l0, (zclr l1), some (zI (wr (x + 1)))] st G h k := E_iinc (by rfl) rfl
theorem e164_140 : zE 164 d Q 140 [l0, l1, l2] st G h k ↔ zE 164 d Q 117 [l0, l1, l2] st G h k := E_goto (by rfl)
theorem e164_143 : zE 164 d Q 143 [l0, l1, l2] st G h k ↔ zE 164 d Q 144 [l0, l1, l2] (zI 0 :: st) G h k := E_iconst (by rfl)
theorem e164_144 : zE 164 d Q 144 [l0, l1, l2] (zI x :: st) G h k ↔ zE 164 d Q 145 [l0, (zclr l1), some (zI x)] st G h k := E_istore_n (by rfl) (by decide)
theorem e164_145 : zE 164 d Q 145 [l0, l1, some (zI x)] st G h k ↔ zE 164 d Q 146 [l0, l1, some (zI x)] (zI x :: st) G h k := E_iload_n (by rfl) rfl
theorem e164_146 : zE 164 d Q 146 [l0, l1, l2] st G h k ↔ zE 164 d Q 147 [l0, l1, l2] (zI 3 :: st) G h k := E_iconst (by rfl)
theorem e164_147 : zE 164 d Q 147 [l0, l1, l2] (zI y :: zI x :: st) G h k ↔ ((y ≤ x → zE 164 d Q 175 [l0, l1, l2] st G h k) ∧ (¬ (y ≤ x) → zE 164 d Q 150 [l0, l1, l2] st G h k)) := E_icmp_ge (by rfl)
theorem e164_150 : zE 164 d Q 150 [some (.inr (.inr w9)), l1, l2] st G h k ↔ zE 164 d Q 151 [some (.inr (.inr w9)), l1, l2] (.inr (.inr w9) :: st) G h k := E_aload_n (by rfl) rfl
theorem e164_151 : zE 164 d Q 151 [l0, l1, l2] (zR (some r) :: st) G h k ↔ (G.2.1 r = 9 ∧ zE 164 d Q 154 [l0, l1, l2] (zR (G.2.2.2 r 39) :: st) G h k) := E_getR (by rfl) rfl
theorem e164_154 : zE 164 d Q 154 [l0, l1, l2] st G h k ↔ zE 164 d Q 155 [l0, l1, l2] (zI 3 :: st) G h k := E_iconst (by rfl)
theorem e164_155 : zE 164 d Q 155 [some (.inr (.inr w9)), l1, l2] st G h k ↔ zE 164 d Q 156 [some (.inr (.inr w9)), l1, l2] (.inr (.inr w9) :: st) G h k := E_aload_n (by rfl) rfl
theorem e164_156 : zE 164 d Q 156 [l0, l1, l2] (zR (some r) :: st) G h k ↔ (G.2.1 r = 9 ∧ zE 164 d Q 159 [l0, l1, l2] (zI (h r 31) :: st) G h k) := E_getI (by rfl) (by decide)
theorem e164_159 : zE 164 d Q 159 [l0, l1, l2] (zI y :: zI x :: st) G h k ↔ zE 164 d Q 160 [l0, l1, l2] (zI (wr (x * y)) :: st) G h k := E_imul (by rfl)
theorem e164_160 : zE 164 d Q 160 [l0, l1, some (zI x)] st G h k ↔ zE 164 d Q 161 [l0, l1, some (zI x)] (zI x :: st) G h k := E_iload_n (by rfl) rfl
theorem e164_161 : zE 164 d Q 161 [l0, l1, l2] (zI y :: zI x :: st) G h k ↔ zE 164 d Q 162 [l0, l1, l2] (zI (wr (x + y)) :: st) G h k := E_iadd (by rfl)
theorem e164_162 : zE 164 d Q 162 [some (.inr (.inr w9)), l1, l2] st G h k ↔ zE 164 d Q 163 [some (.inr (.inr w9)), l1, l2] (.inr (.inr w9) :: st) G h k := E_aload_n (by rfl) rfl
theorem e164_163 : zE 164 d Q 163 [l0, l1, l2] (zR (some r) :: st) G h k ↔ (G.2.1 r = 9 ∧ zE 164 d Q 166 [l0, l1, l2] (zR (G.2.2.2 r 25) :: st) G h k) := E_getR (by rfl) rfl
theorem e164_166 : zE 164 d Q 166 [l0, l1, some (zI x)] st G h k ↔ zE 164 d Q 167 [l0, l1, some (zI x)] (zI x :: st) G h k := E_iload_n (by rfl) rfl
theorem e164_167 : zE 164 d Q 167 [l0, l1, l2] (zI i :: zR (some r) :: st) G h k ↔ (G.2.1 r = 10 ∧ (0 ≤ i ∧ i < G.2.2.1 r) ∧ zE 164 d Q 168 [l0, l1, l2] (zI (h r i.toNat) :: st) G h k) := E_iaload (by rfl)
theorem e164_168 : zE 164 d Q 168 [l0, l1, l2] (zI x :: zI i :: zR (some r) :: st) G h k ↔ (G.2.1 r = 10 ∧ (0 ≤ i ∧ i < G.2.2.1 r) ∧ zE 164 d Q 169 [l0, l1, l2] st G (zu h r i.toNat x) k) := E_iastore (by rfl)
theorem e164_169 : zE 164 d Q 169 [l0, l1, some (zI x)] st G h k ↔ zE 164 d Q 172 [l0, (zclr l1), some (zI (wr (x + 1)))] st G h k := E_iinc (by rfl) rfl
theorem e164_172 : zE 164 d Q 172 [l0, l1, l2] st G h k ↔ zE 164 d Q 145 [l0, l1, l2] st G h k := E_goto (by rfl)
theorem e164_175 : zE 164 d Q 175 [some (.inr (.inr w9)), l1, l2] st G h k ↔ zE 164 d Q 176 [some (.inr (.inr w9)), l1, l2] (.inr (.inr w9) :: st) G h k := E_aload_n (by rfl) rfl
theorem e164_176 : zE 164 d Q 176 [l0, l1, l2] (zR (some r) :: st) G h k ↔ (G.2.1 r = 9 ∧ zE 164 d Q 179 [l0, l1, l2] (zR (G.2.2.2 r 40) :: st) G h k) := E_getR (by rfl) rfl
theorem e164_179 : zE 164 d Q 179 [some (.inr (.inr w9)), l1, l2] st G h k ↔ zE 164 d Q 180 [some (.inr (.inr w9)), l1, l2] (.inr (.inr w9) :: st) G h k := E_aload_n (by rfl) rfl
theorem e164_180 : zE 164 d Q 180 [l0, l1, l2] (zR (some r) :: st) G h k ↔ (G.2.1 r = 9 ∧ zE 164 d Q 183 [l0, l1, l2] (zI (h r 31) :: st) G h k) := E_getI (by rfl) (by decide)
theorem e164_183 : zE 164 d Q 183 [l0, some (zI x), l2] st G h k ↔ zE 164 d Q 184 [l0, some (zI x), l2] (zI x :: st) G h k := E_iload_n (by rfl) rfl
theorem e164_184 : zE 164 d Q 184 [l0, l1, l2] (zI x :: zI i :: zR (some r) :: st) G h k ↔ (G.2.1 r = 10 ∧ (0 ≤ i ∧ i < G.2.2.1 r) ∧ zE 164 d Q 185 [l0, l1, l2] st G (zu h r i.toNat x) k) := E_iastore (by rfl)
theorem e164_185 : zE 164 d Q 185 [l0, l1, l2] st G h k ↔ zE 164 d Q 186 [l0, l1, l2] (zI 0 :: st) G h k := E_iconst (by rfl)
theorem e164_186 : zE 164 d Q 186 [l0, l1, l2] (zI x :: st) G h k ↔ zE 164 d Q 187 [l0, (zclr l1), some (zI x)] st G h k := E_istore_n (by rfl) (by decide)
theorem e164_187 : zE 164 d Q 187 [l0, l1, some (zI x)] st G h k ↔ zE 164 d Q 188 [l0, l1, some (zI x)] (zI x :: st) G h k := E_iload_n (by rfl) rfl
theorem e164_188 : zE 164 d Q 188 [l0, l1, l2] st G h k ↔ zE 164 d Q 190 [l0, l1, l2] (zI 12 :: st) G h k := E_bipush (by rfl)
theorem e164_190 : zE 164 d Q 190 [l0, l1, l2] (zI y :: zI x :: st) G h k ↔ ((y ≤ x → zE 164 d Q 214 [l0, l1, l2] st G h k) ∧ (¬ (y ≤ x) → zE 164 d Q 193 [l0, l1, l2] st G h k)) := E_icmp_ge (by rfl)
theorem e164_193 : zE 164 d Q 193 [some (.inr (.inr w9)), l1, l2] st G h k ↔ zE 164 d Q 194 [some (.inr (.inr w9)), l1, l2] (.inr (.inr w9) :: st) G h k := E_aload_n (by rfl) rfl
theorem e164_194 : zE 164 d Q 194 [l0, l1, l2] (zR (some r) :: st) G h k ↔ (G.2.1 r = 9 ∧ zE 164 d Q 197 [l0, l1, l2] (zR (G.2.2.2 r 32) :: st) G h k) := E_getR (by rfl) rfl
theorem e164_197 : zE 164 d Q 197 [l0, l1, some (zI x)] st G h k ↔ zE 164 d Q 198 [l0, l1, some (zI x)] (zI x :: st) G h k := E_iload_n (by rfl) rfl
theorem e164_198 : zE 164 d Q 198 [some (.inr (.inr w9)), l1, l2] st G h k ↔ zE 164 d Q 199 [some (.inr (.inr w9)), l1, l2] (.inr (.inr w9) :: st) G h k := E_aload_n (by rfl) rfl
theorem e164_199 : zE 164 d Q 199 [l0, l1, l2] (zR (some r) :: st) G h k ↔ (G.2.1 r = 9 ∧ zE 164 d Q 202 [l0, l1, l2] (zR (G.2.2.2 r 32) :: st) G h k) := E_getR (by rfl) rfl
theorem e164_202 : zE 164 d Q 202 [l0, l1, l2] st G h k ↔ zE 164 d Q 204 [l0, l1, l2] (zI 12 :: st) G h k := E_bipush (by rfl)
theorem e164_204 : zE 164 d Q 204 [l0, l1, some (zI x)] st G h k ↔ zE 164 d Q 205 [l0, l1, some (zI x)] (zI x :: st) G h k := E_iload_n (by rfl) rfl
theorem e164_205 : zE 164 d Q 205 [l0, l1, l2] (zI y :: zI x :: st) G h k ↔ zE 164 d Q 206 [l0, l1, l2] (zI (wr (x + y)) :: st) G h k := E_iadd (by rfl)
theorem e164_206 : zE 164 d Q 206 [l0, l1, l2] (zI i :: zR (some r) :: st) G h k ↔ (G.2.1 r = 10 ∧ (0 ≤ i ∧ i < G.2.2.1 r) ∧ zE 164 d Q 207 [l0, l1, l2] (zI (h r i.toNat) :: st) G h k) := E_iaload (by rfl)
theorem e164_207 : zE 164 d Q 207 [l0, l1, l2] (zI x :: zI i :: zR (some r) :: st) G h k ↔ (G.2.1 r = 10 ∧ (0 ≤ i ∧ i < G.2.2.1 r) ∧ zE 164 d Q 208 [l0, l1, l2] st G (zu h r i.toNat x) k) := E_iastore (by rfl)
theorem e164_208 : zE 164 d Q 208 [l0, l1, some (zI x)] st G h k ↔ zE 164 d Q 211 [l0, (zclr l1), some (zI (wr (x + 1)))] st G h k := E_iinc (by rfl) rfl
theorem e164_211 : zE 164 d Q 211 [l0, l1, l2] st G h k ↔ zE 164 d Q 187 [l0, l1, l2] st G h k := E_goto (by rfl)
theorem e164_214 : zE 164 d Q 214 [some (.inr (.inr w9)), l1, l2] st G h k ↔ zE 164 d Q 215 [some (.inr (.inr w9)), l1, l2] (.inr (.inr w9) :: st) G h k := E_aload_n (by rfl) rfl
theorem e164_215 : zE 164 d Q 215 [l0, l1, l2] (.inr (.inr w9) :: st) G h k ↔ zE 164 d Q 216 [l0, l1, l2] (.inr (.inr w9) :: .inr (.inr w9) :: st) G h k := E_dup (by rfl) rfl
theorem e164_216 : zE 164 d Q 216 [l0, l1, l2] (zR (some r) :: st) G h k ↔ (G.2.1 r = 9 ∧ zE 164 d Q 219 [l0, l1, l2] (zI (h r 31) :: st) G h k) := E_getI (by rfl) (by decide)
theorem e164_219 : zE 164 d Q 219 [l0, l1, l2] st G h k ↔ zE 164 d Q 220 [l0, l1, l2] (zI 1 :: st) G h k := E_iconst (by rfl)
theorem e164_220 : zE 164 d Q 220 [l0, l1, l2] (zI y :: zI x :: st) G h k ↔ zE 164 d Q 221 [l0, l1, l2] (zI (wr (x + y)) :: st) G h k := E_iadd (by rfl)
theorem e164_221 : zE 164 d Q 221 [l0, l1, l2] (zI x :: zR (some r) :: st) G h k ↔ (G.2.1 r = 9 ∧ zE 164 d Q 224 [l0, l1, l2] st G (zu h r 31 x) k) := E_putI (by rfl) rfl
theorem e164_224 : zE 164 d Q 224 [l0, some (zI x), l2] st G h k ↔ zE 164 d Q 225 [l0, some (zI x), l2] (zI x :: st) G h k := E_iload_n (by rfl) rfl
theorem e164_225 : zE 164 d Q 225 [l0, l1, l2] [zI x] G h k ↔ Q (some (zI x)) G h := E_iret (by rfl) rfl
theorem e165_0 : zE 165 d Q 0 [some (.inr (.inr w9)), l1, l2, l3] st G h k ↔ zE 165 d Q 1 [some (.inr (.inr w9)), l1, l2, l3] (.inr (.inr w9) :: st) G h k := E_aload_n (by rfl) rfl
theorem e165_1 : zE 165 d Q 1 [l0, l1, l2, l3] st G h k ↔ zE 165 d Q 2 [l0, l1, l2, l3] (zI 0 :: st) G h k := E_iconst (by rfl)
theorem e165_2 : zE 165 d Q 2 [l0, l1, l2, l3] (zI x :: zR (some r) :: st) G h k ↔ (G.2.1 r = 9 ∧ zE 165 d Q 5 [l0, l1, l2, l3] st G (zu h r 0 x) k) := E_putI (by rfl) rfl
theorem e165_5 : zE 165 d Q 5 [some (.inr (.inr w9)), l1, l2, l3] st G h k ↔ zE 165 d Q 6 [some (.inr (.inr w9)), l1, l2, l3] (.inr (.inr w9) :: st) G h k := E_aload_n (by rfl) rfl
theorem e165_6 : zE 165 d Q 6 [l0, l1, l2, l3] (zR (some r) :: st) G h k ↔ (G.2.1 r = 9 ∧ zE 165 d Q 9 [l0, l1, l2, l3] (zR (G.2.2.2 r 3) :: st) G h k) := E_getR (by rfl) rfl
theorem e165_9 : zE 165 d Q 9 [l0, l1, l2, l3] (zR q9 :: st) G h k ↔ ((q9 = none → zE 165 d Q 12 [l0, l1, l2, l3] st G h k) ∧ (∀ q, q9 = some q → zE 165 d Q 18 [l0, l1, l2, l3] st G h k)) := E_ifnonnull (by rfl)
theorem e165_12 : zE 165 d Q 12 [some (.inr (.inr w9)), l1, l2, l3] st G h k ↔ zE 165 d Q 13 [some (.inr (.inr w9)), l1, l2, l3] (.inr (.inr w9) :: st) G h k := E_aload_n (by rfl) rfl
theorem e165_13 : zE 165 d Q 13 [l0, l1, l2, l3] st G h k ↔ zE 165 d Q 14 [l0, l1, l2, l3] (zI 1 :: st) G h k := E_iconst (by rfl)
theorem e165_14 : zE 165 d Q 14 [l0, l1, l2, l3] (v0 :: zR (some r) :: st) G h k ↔ (zsum st ≤ 8 ∧ G.2.1 r = 9 ∧ zRunD ztb zmt' d 114 [zR (some r), v0] G h (fun v G' h' => zE 165 d Q 17 [l0, l1, l2, l3] (v.toList ++ st) G' h' k)) := E_invV2z (by rfl) (by decide) rfl
theorem e165_17 : zE 165 d Q 17 [l0, l1, l2, l3] [zI x] G h k ↔ Q (some (zI x)) G h := E_iret (by rfl) rfl
theorem e165_18 : zE 165 d Q 18 [l0, some (zI x), l2, l3] st G h k ↔ zE 165 d Q 19 [l0, some (zI x), l2, l3] (zI x :: st) G h k := E_iload_n (by rfl) rfl
theorem e165_19 : zE 165 d Q 19 [l0, l1, l2, l3] st G h k ↔ zE 165 d Q 20 [l0, l1, l2, l3] (zI 1 :: st) G h k := E_iconst (by rfl)
theorem e165_20 : zE 165 d Q 20 [l0, l1, l2, l3] st G h k ↔ zE 165 d Q 22 [l0, l1, l2, l3] (zI 10 :: st) G h k := E_bipush (by rfl)
theorem e165_22 : zE 165 d Q 22 [l0, l1, l2, l3] (v2 :: v1 :: v0 :: st) G h k ↔ (zsum st ≤ 8 ∧ zRunD ztb zmt' d 120 [v0, v1, v2] G h (fun v G' h' => zE 165 d Q 25 [l0, l1, l2, l3] (v.toList ++ st) G' h' k)) := E_invS2z (by rfl) (by decide) rfl
theorem e165_25 : zE 165 d Q 25 [l0, l1, l2, l3] (zI x :: st) G h k ↔ ((¬ x = 0 → zE 165 d Q 34 [l0, l1, l2, l3] st G h k) ∧ (¬ (¬ x = 0) → zE 165 d Q 28 [l0, l1, l2, l3] st G h k)) := E_if_ne (by rfl)
theorem e165_28 : zE 165 d Q 28 [some (.inr (.inr w9)), l1, l2, l3] st G h k ↔ zE 165 d Q 29 [some (.inr (.inr w9)), l1, l2, l3] (.inr (.inr w9) :: st) G h k := E_aload_n (by rfl) rfl
theorem e165_29 : zE 165 d Q 29 [l0, l1, l2, l3] st G h k ↔ zE 165 d Q 30 [l0, l1, l2, l3] (zI 2 :: st) G h k := E_iconst (by rfl)
theorem e165_30 : zE 165 d Q 30 [l0, l1, l2, l3] (v0 :: zR (some r) :: st) G h k ↔ (zsum st ≤ 8 ∧ G.2.1 r = 9 ∧ zRunD ztb zmt' d 114 [zR (some r), v0] G h (fun v G' h' => zE 165 d Q 33 [l0, l1, l2, l3] (v.toList ++ st) G' h' k)) := E_invV2z (by rfl) (by decide) rfl
theorem e165_33 : zE 165 d Q 33 [l0, l1, l2, l3] [zI x] G h k ↔ Q (some (zI x)) G h := E_iret (by rfl) rfl
theorem e165_34 : zE 165 d Q 34 [some (.inr (.inr w9)), l1, l2, l3] st G h k ↔ zE 165 d Q 35 [some (.inr (.inr w9)), l1, l2, l3] (.inr (.inr w9) :: st) G h k := E_aload_n (by rfl) rfl
theorem e165_35 : zE 165 d Q 35 [l0, l1, l2, l3] (zR (some r) :: st) G h k ↔ (G.2.1 r = 9 ∧ zE 165 d Q 38 [l0, l1, l2, l3] (zI (h r 31) :: st) G h k) := E_getI (by rfl) (by decide)
theorem e165_38 : zE 165 d Q 38 [l0, some (zI x), l2, l3] st G h k ↔ zE 165 d Q 39 [l0, some (zI x), l2, l3] (zI x :: st) G h k := E_iload_n (by rfl) rfl
theorem e165_39 : zE 165 d Q 39 [l0, l1, l2, l3] (zI y :: zI x :: st) G h k ↔ zE 165 d Q 40 [l0, l1, l2, l3] (zI (wr (x + y)) :: st) G h k := E_iadd (by rfl)
theorem e165_40 : zE 165 d Q 40 [l0, l1, l2, l3] st G h k ↔ zE 165 d Q 42 [l0, l1, l2, l3] (zI 40 :: st) G h k := E_bipush (by rfl)
theorem e165_42 : zE 165 d Q 42 [l0, l1, l2, l3] (zI y :: zI x :: st) G h k ↔ ((x ≤ y → zE 165 d Q 51 [l0, l1, l2, l3] st G h k) ∧ (¬ (x ≤ y) → zE 165 d Q 45 [l0, l1, l2, l3] st G h k)) := E_icmp_le (by rfl)
theorem e165_45 : zE 165 d Q 45 [some (.inr (.inr w9)), l1, l2, l3] st G h k ↔ zE 165 d Q 46 [some (.inr (.inr w9)), l1, l2, l3] (.inr (.inr w9) :: st) G h k := E_aload_n (by rfl) rfl
theorem e165_46 : zE 165 d Q 46 [l0, l1, l2, l3] st G h k ↔ zE 165 d Q 47 [l0, l1, l2, l3] (zI 3 :: st) G h k := E_iconst (by rfl)
theorem e165_47 : zE 165 d Q 47 [l0, l1, l2, l3] (v0 :: zR (some r) :: st) G h k ↔ (zsum st ≤ 8 ∧ G.2.1 r = 9 ∧ zRunD ztb zmt' d 114 [zR (some r), v0] G h (fun v G' h' => zE 165 d Q 50 [l0, l1, l2, l3] (v.toList ++ st) G' h' k)) := E_invV2z (by rfl) (by decide) rfl
theorem e165_50 : zE 165 d Q 50 [l0, l1, l2, l3] [zI x] G h k ↔ Q (some (zI x)) G h := E_iret (by rfl) rfl
theorem e165_51 : zE 165 d Q 51 [some (.inr (.inr w9)), l1, l2, l3] st G h k ↔ zE 165 d Q 52 [some (.inr (.inr w9)), l1, l2, l3] (.inr (.inr w9) :: st) G h k := E_aload_n (by rfl) rfl
theorem e165_52 : zE 165 d Q 52 [l0, l1, l2, l3] st G h k ↔ zE 165 d Q 53 [l0, l1, l2, l3] (zI 0 :: st) G h k := E_iconst (by rfl)
theorem e165_53 : zE 165 d Q 53 [l0, l1, l2, l3] (v0 :: zR (some r) :: st) G h k ↔ (zsum st ≤ 8 ∧ G.2.1 r = 9 ∧ zRunD ztb zmt' d 143 [zR (some r), v0] G h (fun v G' h' => zE 165 d Q 56 [l0, l1, l2, l3] (v.toList ++ st) G' h' k)) := E_invV2z (by rfl) (by decide) rfl
theorem e165_56 : zE 165 d Q 56 [some (.inr (.inr w9)), l1, l2, l3] st G h k ↔ zE 165 d Q 57 [some (.inr (.inr w9)), l1, l2, l3] (.inr (.inr w9) :: st) G h k := E_aload_n (by rfl) rfl
theorem e165_57 : zE 165 d Q 57 [l0, l1, l2, l3] (zR (some r) :: st) G h k ↔ (zsum st ≤ 8 ∧ G.2.1 r = 9 ∧ zRunD ztb zmt' d 157 [zR (some r)] G h (fun v G' h' => zE 165 d Q 60 [l0, l1, l2, l3] (v.toList ++ st) G' h' k)) := E_invV2z (by rfl) (by decide) rfl
theorem e165_60 : zE 165 d Q 60 [l0, l1, l2, l3] st G h k ↔ zE 165 d Q 61 [l0, l1, l2, l3] (zI 0 :: st) G h k := E_iconst (by rfl)
theorem e165_61 : zE 165 d Q 61 [l0, l1, l2, l3] (zI x :: st) G h k ↔ zE 165 d Q 62 [l0, (zclr l1), some (zI x), l3] st G h k := E_istore_n (by rfl) (by decide)
theorem e165_62 : zE 165 d Q 62 [l0, l1, l2, l3] st G h k ↔ zE 165 d Q 63 [l0, l1, l2, l3] (zI 0 :: st) G h k := E_iconst (by rfl)
theorem e165_63 : zE 165 d Q 63 [l0, l1, l2, l3] (zI x :: st) G h k ↔ zE 165 d Q 64 [l0, l1, (zclr l2), some (zI x)] st G h k := E_istore_n (by rfl) (by decide)
theorem e165_64 : zE 165 d Q 64 [l0, l1, l2, some (zI x)] st G h k ↔ zE 165 d Q 65 [l0, l1, l2, some (zI x)] (zI x :: st) G h k := E_iload_n (by rfl) rfl
theorem e165_65 : zE 165 d Q 65 [l0, some (zI x), l2, l3] st G h k ↔ zE 165 d Q 66 [l0, some (zI x), l2, l3] (zI x :: st) G h k := E_iload_n (by rfl) rfl
theorem e165_66 : zE 165 d Q 66 [l0, l1, l2, l3] (zI y :: zI x :: st) G h k ↔ ((y ≤ x → zE 165 d Q 82 [l0, l1, l2, l3] st G h k) ∧ (¬ (y ≤ x) → zE 165 d Q 69 [l0, l1, l2, l3] st G h k)) := E_icmp_ge (by rfl)
theorem e165_69 : zE 165 d Q 69 [l0, l1, some (zI x), l3] st G h k ↔ zE 165 d Q 70 [l0, l1, some (zI x), l3] (zI x :: st) G h k := E_iload_n (by rfl) rfl
theorem e165_70 : zE 165 d Q 70 [some (.inr (.inr w9)), l1, l2, l3] st G h k ↔ zE 165 d Q 71 [some (.inr (.inr w9)), l1, l2, l3] (.inr (.inr w9) :: st) G h k := E_aload_n (by rfl) rfl
theorem e165_71 : zE 165 d Q 71 [l0, l1, l2, l3] (zR (some r) :: st) G h k ↔ (zsum st ≤ 8 ∧ G.2.1 r = 9 ∧ zRunD ztb zmt' d 164 [zR (some r)] G h (fun v G' h' => zE 165 d Q 74 [l0, l1, l2, l3] (v.toList ++ st) G' h' k)) := E_invV2z (by rfl) (by decide) rfl
theorem e165_74 : zE 165 d Q 74 [l0, l1, l2, l3] (zI y :: zI x :: st) G h k ↔ zE 165 d Q 75 [l0, l1, l2, l3] (zI (wr (x + y)) :: st) G h k := E_iadd (by rfl)
theorem e165_75 : zE 165 d Q 75 [l0, l1, l2, l3] (zI x :: st) G h k ↔ zE 165 d Q 76 [l0, (zclr l1), some (zI x), l3] st G h k := E_istore_n (by rfl) (by decide)
theorem e165_76 : zE 165 d Q 76 [l0, l1, l2, some (zI x)] st G h k ↔ zE 165 d Q 79 [l0, l1, (zclr l2), some (zI (wr (x + 1)))] st G h k := E_iinc (by rfl) rfl
theorem e165_79 : zE 165 d Q 79 [l0, l1, l2, l3] st G h k ↔ zE 165 d Q 64 [l0, l1, l2, l3] st G h k := E_goto (by rfl)
theorem e165_82 : zE 165 d Q 82 [some (.inr (.inr w9)), l1, l2, l3] st G h k ↔ zE 165 d Q 83 [some (.inr (.inr w9)), l1, l2, l3] (.inr (.inr w9) :: st) G h k := E_aload_n (by rfl) rfl
theorem e165_83 : zE 165 d Q 83 [l0, l1, some (zI x), l3] st G h k ↔ zE 165 d Q 84 [l0, l1, some (zI x), l3] (zI x :: st) G h k := E_iload_n (by rfl) rfl
theorem e165_84 : zE 165 d Q 84 [l0, l1, l2, l3] (v0 :: zR (some r) :: st) G h k ↔ (zsum st ≤ 8 ∧ G.2.1 r = 9 ∧ zRunD ztb zmt' d 117 [zR (some r), v0] G h (fun v G' h' => zE 165 d Q 87 [l0, l1, l2, l3] (v.toList ++ st) G' h' k)) := E_invV2z (by rfl) (by decide) rfl
theorem e165_87 : zE 165 d Q 87 [l0, l1, l2, l3] [zI x] G h k ↔ Q (some (zI x)) G h := E_iret (by rfl) rfl
theorem e166_0 : zE 166 d Q 0 [some (.inr (.inr w9)), l1, l2] st G h k ↔ zE 166 d Q 1 [some (.inr (.inr w9)), l1, l2] (.inr (.inr w9) :: st) G h k := E_aload_n (by rfl) rfl
theorem e166_1 : zE 166 d Q 1 [l0, l1, l2] st G h k ↔ zE 166 d Q 2 [l0, l1, l2] (zI 0 :: st) G h k := E_iconst (by rfl)
theorem e166_2 : zE 166 d Q 2 [l0, l1, l2] (zI x :: zR (some r) :: st) G h k ↔ (G.2.1 r = 9 ∧ zE 166 d Q 5 [l0, l1, l2] st G (zu h r 0 x) k) := E_putI (by rfl) rfl
theorem e166_5 : zE 166 d Q 5 [some (.inr (.inr w9)), l1, l2] st G h k ↔ zE 166 d Q 6 [some (.inr (.inr w9)), l1, l2] (.inr (.inr w9) :: st) G h k := E_aload_n (by rfl) rfl
theorem e166_6 : zE 166 d Q 6 [l0, l1, l2] (zR (some r) :: st) G h k ↔ (G.2.1 r = 9 ∧ zE 166 d Q 9 [l0, l1, l2] (zR (G.2.2.2 r 3) :: st) G h k) := E_getR (by rfl) rfl
theorem e166_9 : zE 166 d Q 9 [l0, l1, l2] (zR q9 :: st) G h k ↔ ((q9 = none → zE 166 d Q 12 [l0, l1, l2] st G h k) ∧ (∀ q, q9 = some q → zE 166 d Q 18 [l0, l1, l2] st G h k)) := E_ifnonnull (by rfl)
theorem e166_12 : zE 166 d Q 12 [some (.inr (.inr w9)), l1, l2] st G h k ↔ zE 166 d Q 13 [some (.inr (.inr w9)), l1, l2] (.inr (.inr w9) :: st) G h k := E_aload_n (by rfl) rfl
theorem e166_13 : zE 166 d Q 13 [l0, l1, l2] st G h k ↔ zE 166 d Q 14 [l0, l1, l2] (zI 1 :: st) G h k := E_iconst (by rfl)
theorem e166_14 : zE 166 d Q 14 [l0, l1, l2] (v0 :: zR (some r) :: st) G h k ↔ (zsum st ≤ 8 ∧ G.2.1 r = 9 ∧ zRunD ztb zmt' d 116 [zR (some r), v0] G h (fun v G' h' => zE 166 d Q 17 [l0, l1, l2] (v.toList ++ st) G' h' k)) := E_invV2z (by rfl) (by decide) rfl
theorem e166_17 : zE 166 d Q 17 [l0, l1, l2] [zI x] G h k ↔ ((x = 0 ∨ x = 1) ∧ Q (some (zI x)) G h) := E_zret (by rfl) rfl
theorem e166_18 : zE 166 d Q 18 [l0, some (zI x), l2] st G h k ↔ zE 166 d Q 19 [l0, some (zI x), l2] (zI x :: st) G h k := E_iload_n (by rfl) rfl
theorem e166_19 : zE 166 d Q 19 [l0, l1, l2] st G h k ↔ zE 166 d Q 20 [l0, l1, l2] (zI 0 :: st) G h k := E_iconst (by rfl)
theorem e166_20 : zE 166 d Q 20 [some (.inr (.inr w9)), l1, l2] st G h k ↔ zE 166 d Q 21 [some (.inr (.inr w9)), l1, l2] (.inr (.inr w9) :: st) G h k := E_aload_n (by rfl) rfl
theorem e166_21 : zE 166 d Q 21 [l0, l1, l2] (zR (some r) :: st) G h k ↔ (G.2.1 r = 9 ∧ zE 166 d Q 24 [l0, l1, l2] (zI (h r 31) :: st) G h k) := E_getI (by rfl) (by decide)
theorem e166_24 : zE 166 d Q 24 [l0, l1, l2] (v2 :: v1 :: v0 :: st) G h k ↔ (zsum st ≤ 8 ∧ zRunD ztb zmt' d 120 [v0, v1, v2] G h (fun v G' h' => zE 166 d Q 27 [l0, l1, l2] (v.toList ++ st) G' h' k)) := E_invS2z (by rfl) (by decide) rfl
theorem e166_27 : zE 166 d Q 27 [l0, l1, l2] (zI x :: st) G h k ↔ ((¬ x = 0 → zE 166 d Q 36 [l0, l1, l2] st G h k) ∧ (¬ (¬ x = 0) → zE 166 d Q 30 [l0, l1, l2] st G h k)) := E_if_ne (by rfl)
theorem e166_30 : zE 166 d Q 30 [some (.inr (.inr w9)), l1, l2] st G h k ↔ zE 166 d Q 31 [some (.inr (.inr w9)), l1, l2] (.inr (.inr w9) :: st) G h k := E_aload_n (by rfl) rfl
theorem e166_31 : zE 166 d Q 31 [l0, l1, l2] st G h k ↔ zE 166 d Q 32 [l0, l1, l2] (zI 2 :: st) G h k := E_iconst (by rfl)
theorem e166_32 : zE 166 d Q 32 [l0, l1, l2] (v0 :: zR (some r) :: st) G h k ↔ (zsum st ≤ 8 ∧ G.2.1 r = 9 ∧ zRunD ztb zmt' d 116 [zR (some r), v0] G h (fun v G' h' => zE 166 d Q 35 [l0, l1, l2] (v.toList ++ st) G' h' k)) := E_invV2z (by rfl) (by decide) rfl
theorem e166_35 : zE 166 d Q 35 [l0, l1, l2] [zI x] G h k ↔ ((x = 0 ∨ x = 1) ∧ Q (some (zI x)) G h) := E_zret (by rfl) rfl
theorem e166_36 : zE 166 d Q 36 [l0, some (zI x), l2] st G h k ↔ zE 166 d Q 37 [l0, some (zI x), l2] (zI x :: st) G h k := E_iload_n (by rfl) rfl
theorem e166_37 : zE 166 d Q 37 [some (.inr (.inr w9)), l1, l2] st G h k ↔ zE 166 d Q 38 [some (.inr (.inr w9)), l1, l2] (.inr (.inr w9) :: st) G h k := E_aload_n (by rfl) rfl
theorem e166_38 : zE 166 d Q 38 [l0, l1, l2] (zR (some r) :: st) G h k ↔ (G.2.1 r = 9 ∧ zE 166 d Q 41 [l0, l1, l2] (zI (h r 31) :: st) G h k) := E_getI (by rfl) (by decide)
theorem e166_41 : zE 166 d Q 41 [l0, l1, l2] (zI y :: zI x :: st) G h k ↔ ((¬ x = y → zE 166 d Q 49 [l0, l1, l2] st G h k) ∧ (¬ (¬ x = y) → zE 166 d Q 44 [l0, l1, l2] st G h k)) := E_icmp_ne (by rfl)
theorem e166_44 : zE 166 d Q 44 [some (.inr (.inr w9)), l1, l2] st G h k ↔ zE 166 d Q 45 [some (.inr (.inr w9)), l1, l2] (.inr (.inr w9) :: st) G h k := E_aload_n (by rfl) rfl
theorem e166_45 : zE 166 d Q 45 [l0, l1, l2] (zR (some r) :: st) G h k ↔ (zsum st ≤ 8 ∧ G.2.1 r = 9 ∧ zRunD ztb zmt' d 119 [zR (some r)] G h (fun v G' h' => zE 166 d Q 48 [l0, l1, l2] (v.toList ++ st) G' h' k)) := E_invV2z (by rfl) (by decide) rfl
theorem e166_48 : zE 166 d Q 48 [l0, l1, l2] [zI x] G h k ↔ ((x = 0 ∨ x = 1) ∧ Q (some (zI x)) G h) := E_zret (by rfl) rfl
theorem e166_49 : zE 166 d Q 49 [l0, l1, l2] st G h k ↔ zE 166 d Q 50 [l0, l1, l2] (zI 0 :: st) G h k := E_iconst (by rfl)
theorem e166_50 : zE 166 d Q 50 [l0, l1, l2] (zI x :: st) G h k ↔ zE 166 d Q 51 [l0, (zclr l1), some (zI x)] st G h k := E_istore_n (by rfl) (by decide)
theorem e166_51 : zE 166 d Q 51 [l0, l1, some (zI x)] st G h k ↔ zE 166 d Q 52 [l0, l1, some (zI x)] (zI x :: st) G h k := E_iload_n (by rfl) rfl
theorem e166_52 : zE 166 d Q 52 [l0, l1, l2] st G h k ↔ zE 166 d Q 54 [l0, l1, l2] (zI 12 :: st) G h k := E_bipush (by rfl)
theorem e166_54 : zE 166 d Q 54 [l0, l1, l2] (zI y :: zI x :: st) G h k ↔ ((y ≤ x → zE 166 d Q 80 [l0, l1, l2] st G h k) ∧ (¬ (y ≤ x) → zE 166 d Q 57 [l0, l1, l2] st G h k)) := E_icmp_ge (by rfl)
theorem e166_57 : zE 166 d Q 57 [some (.inr (.inr w9)), l1, l2] st G h k ↔ zE 166 d Q 58 [some (.inr (.inr w9)), l1, l2] (.inr (.inr w9) :: st) G h k := E_aload_n (by rfl) rfl
theorem e166_58 : zE 166 d Q 58 [l0, l1, l2] (zR (some r) :: st) G h k ↔ (G.2.1 r = 9 ∧ zE 166 d Q 61 [l0, l1, l2] (zR (G.2.2.2 r 32) :: st) G h k) := E_getR (by rfl) rfl
theorem e166_61 : zE 166 d Q 61 [l0, l1, some (zI x)] st G h k ↔ zE 166 d Q 62 [l0, l1, some (zI x)] (zI x :: st) G h k := E_iload_n (by rfl) rfl
theorem e166_62 : zE 166 d Q 62 [some (.inr (.inr w9)), l1, l2] st G h k ↔ zE 166 d Q 63 [some (.inr (.inr w9)), l1, l2] (.inr (.inr w9) :: st) G h k := E_aload_n (by rfl) rfl
theorem e166_63 : zE 166 d Q 63 [l0, l1, l2] (zR (some r) :: st) G h k ↔ (G.2.1 r = 9 ∧ zE 166 d Q 66 [l0, l1, l2] (zR (G.2.2.2 r 35) :: st) G h k) := E_getR (by rfl) rfl
theorem e166_66 : zE 166 d Q 66 [l0, l1, l2] st G h k ↔ zE 166 d Q 68 [l0, l1, l2] (zI 12 :: st) G h k := E_bipush (by rfl)
theorem e166_68 : zE 166 d Q 68 [l0, some (zI x), l2] st G h k ↔ zE 166 d Q 69 [l0, some (zI x), l2] (zI x :: st) G h k := E_iload_n (by rfl) rfl
theorem e166_69 : zE 166 d Q 69 [l0, l1, l2] (zI y :: zI x :: st) G h k ↔ zE 166 d Q 70 [l0, l1, l2] (zI (wr (x * y)) :: st) G h k := E_imul (by rfl)
theorem e166_70 : zE 166 d Q 70 [l0, l1, some (zI x)] st G h k ↔ zE 166 d Q 71 [l0, l1, some (zI x)] (zI x :: st) G h k := E_iload_n (by rfl) rfl
theorem e166_71 : zE 166 d Q 71 [l0, l1, l2] (zI y :: zI x :: st) G h k ↔ zE 166 d Q 72 [l0, l1, l2] (zI (wr (x + y)) :: st) G h k := E_iadd (by rfl)
theorem e166_72 : zE 166 d Q 72 [l0, l1, l2] (zI i :: zR (some r) :: st) G h k ↔ (G.2.1 r = 10 ∧ (0 ≤ i ∧ i < G.2.2.1 r) ∧ zE 166 d Q 73 [l0, l1, l2] (zI (h r i.toNat) :: st) G h k) := E_iaload (by rfl)
theorem e166_73 : zE 166 d Q 73 [l0, l1, l2] (zI x :: zI i :: zR (some r) :: st) G h k ↔ (G.2.1 r = 10 ∧ (0 ≤ i ∧ i < G.2.2.1 r) ∧ zE 166 d Q 74 [l0, l1, l2] st G (zu h r i.toNat x) k) := E_iastore (by rfl)
theorem e166_74 : zE 166 d Q 74 [l0, l1, some (zI x)] st G h k ↔ zE 166 d Q 77 [l0, (zclr l1), some (zI (wr (x + 1)))] st G h k := E_iinc (by rfl) rfl
theorem e166_77 : zE 166 d Q 77 [l0, l1, l2] st G h k ↔ zE 166 d Q 51 [l0, l1, l2] st G h k := E_goto (by rfl)
theorem e166_80 : zE 166 d Q 80 [l0, l1, l2] st G h k ↔ zE 166 d Q 81 [l0, l1, l2] (zI 0 :: st) G h k := E_iconst (by rfl)
theorem e166_81 : zE 166 d Q 81 [l0, l1, l2] (zI x :: st) G h k ↔ zE 166 d Q 82 [l0, (zclr l1), some (zI x)] st G h k := E_istore_n (by rfl) (by decide)
theorem e166_82 : zE 166 d Q 82 [l0, l1, some (zI x)] st G h k ↔ zE 166 d Q 83 [l0, l1, some (zI x)] (zI x :: st) G h k := E_iload_n (by rfl) rfl
theorem e166_83 : zE 166 d Q 83 [l0, l1, l2] st G h k ↔ zE 166 d Q 84 [l0, l1, l2] (zI 3 :: st) G h k := E_iconst (by rfl)
theorem e166_84 : zE 166 d Q 84 [l0, l1, l2] (zI y :: zI x :: st) G h k ↔ ((y ≤ x → zE 166 d Q 125 [l0, l1, l2] st G h k) ∧ (¬ (y ≤ x) → zE 166 d Q 87 [l0, l1, l2] st G h k)) := E_icmp_ge (by rfl)
theorem e166_87 : zE 166 d Q 87 [some (.inr (.inr w9)), l1, l2] st G h k ↔ zE 166 d Q 88 [some (.inr (.inr w9)), l1, l2] (.inr (.inr w9) :: st) G h k := E_aload_n (by rfl) rfl
theorem e166_88 : zE 166 d Q 88 [l0, l1, l2] (zR (some r) :: st) G h k ↔ (G.2.1 r = 9 ∧ zE 166 d Q 91 [l0, l1, l2] (zR (G.2.2.2 r 33) :: st) G h k) := E_getR (by rfl) rfl
theorem e166_91 : zE 166 d Q 91 [l0, l1, some (zI x)] st G h k ↔ zE 166 d Q 92 [l0, l1, some (zI x)] (zI x :: st) G h k := E_iload_n (by rfl) rfl
theorem e166_92 : zE 166 d Q 92 [some (.inr (.inr w9)), l1, l2] st G h k ↔ zE 166 d Q 93 [some (.inr (.inr w9)), l1, l2] (.inr (.inr w9) :: st) G h k := E_aload_n (by rfl) rfl
theorem e166_93 : zE 166 d Q 93 [l0, l1, l2] (zR (some r) :: st) G h k ↔ (G.2.1 r = 9 ∧ zE 166 d Q 96 [l0, l1, l2] (zR (G.2.2.2 r 36) :: st) G h k) := E_getR (by rfl) rfl
theorem e166_96 : zE 166 d Q 96 [l0, l1, l2] st G h k ↔ zE 166 d Q 97 [l0, l1, l2] (zI 3 :: st) G h k := E_iconst (by rfl)
theorem e166_97 : zE 166 d Q 97 [l0, some (zI x), l2] st G h k ↔ zE 166 d Q 98 [l0, some (zI x), l2] (zI x :: st) G h k := E_iload_n (by rfl) rfl
theorem e166_98 : zE 166 d Q 98 [l0, l1, l2] (zI y :: zI x :: st) G h k ↔ zE 166 d Q 99 [l0, l1, l2] (zI (wr (x * y)) :: st) G h k := E_imul (by rfl)
theorem e166_99 : zE 166 d Q 99 [l0, l1, some (zI x)] st G h k ↔ zE 166 d Q 100 [l0, l1, some (zI x)] (zI x :: st) G h k := E_iload_n (by rfl) rfl
theorem e166_100 : zE 166 d Q 100 [l0, l1, l2] (zI y :: zI x :: st) G h k ↔ zE 166 d Q 101 [l0, l1, l2] (zI (wr (x + y)) :: st) G h k := E_iadd (by rfl)
theorem e166_101 : zE 166 d Q 101 [l0, l1, l2] (zI i :: zR (some r) :: st) G h k ↔ (G.2.1 r = 10 ∧ (0 ≤ i ∧ i < G.2.2.1 r) ∧ zE 166 d Q 102 [l0, l1, l2] (zI (h r i.toNat) :: st) G h k) := E_iaload (by rfl)
theorem e166_102 : zE 166 d Q 102 [l0, l1, l2] (zI x :: zI i :: zR (some r) :: st) G h k ↔ (G.2.1 r = 10 ∧ (0 ≤ i ∧ i < G.2.2.1 r) ∧ zE 166 d Q 103 [l0, l1, l2] st G (zu h r i.toNat x) k) := E_iastore (by rfl)
theorem e166_103 : zE 166 d Q 103 [some (.inr (.inr w9)), l1, l2] st G h k ↔ zE 166 d Q 104 [some (.inr (.inr w9)), l1, l2] (.inr (.inr w9) :: st) G h k := E_aload_n (by rfl) rfl
theorem e166_104 : zE 166 d Q 104 [l0, l1, l2] (zR (some r) :: st) G h k ↔ (G.2.1 r = 9 ∧ zE 166 d Q 107 [l0, l1, l2] (zR (G.2.2.2 r 34) :: st) G h k) := E_getR (by rfl) rfl
theorem e166_107 : zE 166 d Q 107 [l0, l1, some (zI x)] st G h k ↔ zE 166 d Q 108 [l0, l1, some (zI x)] (zI x :: st) G h k := E_iload_n (by rfl) rfl
theorem e166_108 : zE 166 d Q 108 [some (.inr (.inr w9)), l1, l2] st G h k ↔ zE 166 d Q 109 [some (.inr (.inr w9)), l1, l2] (.inr (.inr w9) :: st) G h k := E_aload_n (by rfl) rfl
theorem e166_109 : zE 166 d Q 109 [l0, l1, l2] (zR (some r) :: st) G h k ↔ (G.2.1 r = 9 ∧ zE 166 d Q 112 [l0, l1, l2] (zR (G.2.2.2 r 37) :: st) G h k) := E_getR (by rfl) rfl
theorem e166_112 : zE 166 d Q 112 [l0, l1, l2] st G h k ↔ zE 166 d Q 113 [l0, l1, l2] (zI 3 :: st) G h k := E_iconst (by rfl)
theorem e166_113 : zE 166 d Q 113 [l0, some (zI x), l2] st G h k ↔ zE 166 d Q 114 [l0, some (zI x), l2] (zI x :: st) G h k := E_iload_n (by rfl) rfl
theorem e166_114 : zE 166 d Q 114 [l0, l1, l2] (zI y :: zI x :: st) G h k ↔ zE 166 d Q 115 [l0, l1, l2] (zI (wr (x * y)) :: st) G h k := E_imul (by rfl)
theorem e166_115 : zE 166 d Q 115 [l0, l1, some (zI x)] st G h k ↔ zE 166 d Q 116 [l0, l1, some (zI x)] (zI x :: st) G h k := E_iload_n (by rfl) rfl
theorem e166_116 : zE 166 d Q 116 [l0, l1, l2] (zI y :: zI x :: st) G h k ↔ zE 166 d Q 117 [l0, l1, l2] (zI (wr (x + y)) :: st) G h k := E_iadd (by rfl)
theorem e166_117 : zE 166 d Q 117 [l0, l1, l2] (zI i :: zR (some r) :: st) G h k ↔ (G.2.1 r = 10 ∧ (0 ≤ i ∧ i < G.2.2.1 r) ∧ zE 166 d Q 118 [l0, l1, l2] (zI (h r i.toNat) :: st) G h k) := E_iaload (by rfl)
theorem e166_118 : zE 166 d Q 118 [l0, l1, l2] (zI x :: zI i :: zR (some r) :: st) G h k ↔ (G.2.1 r = 10 ∧ (0 ≤ i ∧ i < G.2.2.1 r) ∧ zE 166 d Q 119 [l0, l1, l2] st G (zu h r i.toNat x) k) := E_iastore (by rfl)
theorem e166_119 : zE 166 d Q 119 [l0, l1, some (zI x)] st G h k ↔ zE 166 d Q 122 [l0, (zclr l1), some (zI (wr (x + 1)))] st G h k := E_iinc (by rfl) rfl
theorem e166_122 : zE 166 d Q 122 [l0, l1, l2] st G h k ↔ zE 166 d Q 82 [l0, l1, l2] st G h k := E_goto (by rfl)
theorem e166_125 : zE 166 d Q 125 [some (.inr (.inr w9)), l1, l2] st G h k ↔ zE 166 d Q 126 [some (.inr (.inr w9)), l1, l2] (.inr (.inr w9) :: st) G h k := E_aload_n (by rfl) rfl
theorem e166_126 : zE 166 d Q 126 [some (.inr (.inr w9)), l1, l2] st G h k ↔ zE 166 d Q 127 [some (.inr (.inr w9)), l1, l2] (.inr (.inr w9) :: st) G h k := E_aload_n (by rfl) rfl
theorem e166_127 : zE 166 d Q 127 [l0, l1, l2] (zR (some r) :: st) G h k ↔ (G.2.1 r = 9 ∧ zE 166 d Q 130 [l0, l1, l2] (zR (G.2.2.2 r 38) :: st) G h k) := E_getR (by rfl) rfl
theorem e166_130 : zE 166 d Q 130 [l0, some (zI x), l2] st G h k ↔ zE 166 d Q 131 [l0, some (zI x), l2] (zI x :: st) G h k := E_iload_n (by rfl) rfl
theorem e166_131 : zE 166 d Q 131 [l0, l1, l2] (zI i :: zR (some r) :: st) G h k ↔ (G.2.1 r = 10 ∧ (0 ≤ i ∧ i < G.2.2.1 r) ∧ zE 166 d Q 132 [l0, l1, l2] (zI (h r i.toNat) :: st) G h k) := E_iaload (by rfl)
theorem e166_132 : zE 166 d Q 132 [l0, l1, l2] (zI x :: zR (some r) :: st) G h k ↔ (G.2.1 r = 9 ∧ zE 166 d Q 135 [l0, l1, l2] st G (zu h r 30 x) k) := E_putI (by rfl) rfl
theorem e166_135 : zE 166 d Q 135 [some (.inr (.inr w9)), l1, l2] st G h k ↔ zE 166 d Q 136 [some (.inr (.inr w9)), l1, l2] (.inr (.inr w9) :: st) G h k := E_aload_n (by rfl) rfl
theorem e166_136 : zE 166 d Q 136 [l0, some (zI x), l2] st G h k ↔ zE 166 d Q 137 [l0, some (zI x), l2] (zI x :: st) G h k := E_iload_n (by rfl) rfl
theorem e166_137 : zE 166 d Q 137 [l0, l1, l2] (zI x :: zR (some r) :: st) G h k ↔ (G.2.1 r = 9 ∧ zE 166 d Q 140 [l0, l1, l2] st G (zu h r 31 x) k) := E_putI (by rfl) rfl
theorem e166_140 : zE 166 d Q 140 [some (.inr (.inr w9)), l1, l2] st G h k ↔ zE 166 d Q 141 [some (.inr (.inr w9)), l1, l2] (.inr (.inr w9) :: st) G h k := E_aload_n (by rfl) rfl
theorem e166_141 : zE 166 d Q 141 [l0, l1, l2] (zR (some r) :: st) G h k ↔ (zsum st ≤ 8 ∧ G.2.1 r = 9 ∧ zRunD ztb zmt' d 119 [zR (some r)] G h (fun v G' h' => zE 166 d Q 144 [l0, l1, l2] (v.toList ++ st) G' h' k)) := E_invV2z (by rfl) (by decide) rfl
theorem e166_144 : zE 166 d Q 144 [l0, l1, l2] [zI x] G h k ↔ ((x = 0 ∨ x = 1) ∧ Q (some (zI x)) G h) := E_zret (by rfl) rfl
theorem e167_0 : zE 167 d Q 0 [some (.inr (.inr w9)), l1, l2] st G h k ↔ zE 167 d Q 1 [some (.inr (.inr w9)), l1, l2] (.inr (.inr w9) :: st) G h k := E_aload_n (by rfl) rfl
theorem e167_1 : zE 167 d Q 1 [l0, l1, l2] st G h k ↔ zE 167 d Q 2 [l0, l1, l2] (zI 0 :: st) G h k := E_iconst (by rfl)
theorem e167_2 : zE 167 d Q 2 [l0, l1, l2] (zI x :: zR (some r) :: st) G h k ↔ (G.2.1 r = 9 ∧ zE 167 d Q 5 [l0, l1, l2] st G (zu h r 0 x) k) := E_putI (by rfl) rfl
theorem e167_5 : zE 167 d Q 5 [some (.inr (.inr w9)), l1, l2] st G h k ↔ zE 167 d Q 6 [some (.inr (.inr w9)), l1, l2] (.inr (.inr w9) :: st) G h k := E_aload_n (by rfl) rfl
theorem e167_6 : zE 167 d Q 6 [l0, some (zI x), l2] st G h k ↔ zE 167 d Q 7 [l0, some (zI x), l2] (zI x :: st) G h k := E_iload_n (by rfl) rfl
theorem e167_7 : zE 167 d Q 7 [l0, l1, l2] (v0 :: zR (some r) :: st) G h k ↔ (zsum st ≤ 8 ∧ G.2.1 r = 9 ∧ zRunD ztb zmt' d 154 [zR (some r), v0] G h (fun v G' h' => zE 167 d Q 10 [l0, l1, l2] (v.toList ++ st) G' h' k)) := E_invV2z (by rfl) (by decide) rfl
theorem e167_10 : zE 167 d Q 10 [l0, l1, l2] (zI x :: st) G h k ↔ ((x = 0 → zE 167 d Q 38 [l0, l1, l2] st G h k) ∧ (¬ (x = 0) → zE 167 d Q 13 [l0, l1, l2] st G h k)) := E_if_eq (by rfl)
theorem e167_13 : zE 167 d Q 13 [some (.inr (.inr w9)), l1, l2] st G h k ↔ zE 167 d Q 14 [some (.inr (.inr w9)), l1, l2] (.inr (.inr w9) :: st) G h k := E_aload_n (by rfl) rfl
theorem e167_14 : zE 167 d Q 14 [l0, l1, some (zI x)] st G h k ↔ zE 167 d Q 15 [l0, l1, some (zI x)] (zI x :: st) G h k := E_iload_n (by rfl) rfl
theorem e167_15 : zE 167 d Q 15 [l0, l1, l2] (v0 :: zR (some r) :: st) G h k ↔ (zsum st ≤ 8 ∧ G.2.1 r = 9 ∧ zRunD ztb zmt' d 155 [zR (some r), v0] G h (fun v G' h' => zE 167 d Q 18 [l0, l1, l2] (v.toList ++ st) G' h' k)) := E_invV2z (by rfl) (by decide) rfl
theorem e167_18 : zE 167 d Q 18 [l0, l1, l2] (zI x :: st) G h k ↔ ((x = 0 → zE 167 d Q 38 [l0, l1, l2] st G h k) ∧ (¬ (x = 0) → zE 167 d Q 21 [l0, l1, l2] st G h k)) := E_if_eq (by rfl)
theorem e167_21 : zE 167 d Q 21 [some (.inr (.inr w9)), l1, l2] st G h k ↔ zE 167 d Q 22 [some (.inr (.inr w9)), l1, l2] (.inr (.inr w9) :: st) G h k := E_aload_n (by rfl) rfl
theorem e167_22 : zE 167 d Q 22 [some (.inr (.inr w9)), l1, l2] st G h k ↔ zE 167 d Q 23 [some (.inr (.inr w9)), l1, l2] (.inr (.inr w9) :: st) G h k := E_aload_n (by rfl) rfl
theorem e167_23 : zE 167 d Q 23 [l0, l1, l2] (zR (some r) :: st) G h k ↔ (G.2.1 r = 9 ∧ zE 167 d Q 26 [l0, l1, l2] (zR (G.2.2.2 r 32) :: st) G h k) := E_getR (by rfl) rfl
theorem e167_26 : zE 167 d Q 26 [l0, l1, some (zI x)] st G h k ↔ zE 167 d Q 27 [l0, l1, some (zI x)] (zI x :: st) G h k := E_iload_n (by rfl) rfl
theorem e167_27 : zE 167 d Q 27 [l0, some (zI x), l2] st G h k ↔ zE 167 d Q 28 [l0, some (zI x), l2] (zI x :: st) G h k := E_iload_n (by rfl) rfl
theorem e167_28 : zE 167 d Q 28 [l0, l1, l2] (v1 :: v0 :: st) G h k ↔ (zsum st ≤ 8 ∧ zRunD ztb zmt' d 150 [v0, v1] G h (fun v G' h' => zE 167 d Q 31 [l0, l1, l2] (v.toList ++ st) G' h' k)) := E_invS2z (by rfl) (by decide) rfl
theorem e167_31 : zE 167 d Q 31 [l0, l1, l2] (zI i :: zR (some r) :: st) G h k ↔ (G.2.1 r = 10 ∧ (0 ≤ i ∧ i < G.2.2.1 r) ∧ zE 167 d Q 32 [l0, l1, l2] (zI (h r i.toNat) :: st) G h k) := E_iaload (by rfl)
theorem e167_32 : zE 167 d Q 32 [l0, l1, l2] (v0 :: zR (some r) :: st) G h k ↔ (zsum st ≤ 8 ∧ G.2.1 r = 9 ∧ zRunD ztb zmt' d 117 [zR (some r), v0] G h (fun v G' h' => zE 167 d Q 35 [l0, l1, l2] (v.toList ++ st) G' h' k)) := E_invV2z (by rfl) (by decide) rfl
theorem e167_35 : zE 167 d Q 35 [l0, l1, l2] st G h k ↔ zE 167 d Q 43 [l0, l1, l2] st G h k := E_goto (by rfl)
theorem e167_38 : zE 167 d Q 38 [some (.inr (.inr w9)), l1, l2] st G h k ↔ zE 167 d Q 39 [some (.inr (.inr w9)), l1, l2] (.inr (.inr w9) :: st) G h k := E_aload_n (by rfl) rfl
theorem e167_39 : zE 167 d Q 39 [l0, l1, l2] st G h k ↔ zE 167 d Q 40 [l0, l1, l2] (zI 1 :: st) G h k := E_iconst (by rfl)
theorem e167_40 : zE 167 d Q 40 [l0, l1, l2] (v0 :: zR (some r) :: st) G h k ↔ (zsum st ≤ 8 ∧ G.2.1 r = 9 ∧ zRunD ztb zmt' d 114 [zR (some r), v0] G h (fun v G' h' => zE 167 d Q 43 [l0, l1, l2] (v.toList ++ st) G' h' k)) := E_invV2z (by rfl) (by decide) rfl
theorem e167_43 : zE 167 d Q 43 [l0, l1, l2] [zI x] G h k ↔ Q (some (zI x)) G h := E_iret (by rfl) rfl
theorem e168_0 : zE 168 d Q 0 [some (.inr (.inr w9)), l1, l2] st G h k ↔ zE 168 d Q 1 [some (.inr (.inr w9)), l1, l2] (.inr (.inr w9) :: st) G h k := E_aload_n (by rfl) rfl
theorem e168_1 : zE 168 d Q 1 [l0, l1, l2] st G h k ↔ zE 168 d Q 2 [l0, l1, l2] (zI 0 :: st) G h k := E_iconst (by rfl)
theorem e168_2 : zE 168 d Q 2 [l0, l1, l2] (zI x :: zR (some r) :: st) G h k ↔ (G.2.1 r = 9 ∧ zE 168 d Q 5 [l0, l1, l2] st G (zu h r 0 x) k) := E_putI (by rfl) rfl
theorem e168_5 : zE 168 d Q 5 [some (.inr (.inr w9)), l1, l2] st G h k ↔ zE 168 d Q 6 [some (.inr (.inr w9)), l1, l2] (.inr (.inr w9) :: st) G h k := E_aload_n (by rfl) rfl
theorem e168_6 : zE 168 d Q 6 [l0, some (zI x), l2] st G h k ↔ zE 168 d Q 7 [l0, some (zI x), l2] (zI x :: st) G h k := E_iload_n (by rfl) rfl
theorem e168_7 : zE 168 d Q 7 [l0, l1, l2] (v0 :: zR (some r) :: st) G h k ↔ (zsum st ≤ 8 ∧ G.2.1 r = 9 ∧ zRunD ztb zmt' d 154 [zR (some r), v0] G h (fun v G' h' => zE 168 d Q 10 [l0, l1, l2] (v.toList ++ st) G' h' k)) := E_invV2z (by rfl) (by decide) rfl
theorem e168_10 : zE 168 d Q 10 [l0, l1, l2] (zI x :: st) G h k ↔ ((x = 0 → zE 168 d Q 43 [l0, l1, l2] st G h k) ∧ (¬ (x = 0) → zE 168 d Q 13 [l0, l1, l2] st G h k)) := E_if_eq (by rfl)
theorem e168_13 : zE 168 d Q 13 [l0, l1, some (zI x)] st G h k ↔ zE 168 d Q 14 [l0, l1, some (zI x)] (zI x :: st) G h k := E_iload_n (by rfl) rfl
theorem e168_14 : zE 168 d Q 14 [l0, l1, l2] (zI x :: st) G h k ↔ ((x < 0 → zE 168 d Q 43 [l0, l1, l2] st G h k) ∧ (¬ (x < 0) → zE 168 d Q 17 [l0, l1, l2] st G h k)) := E_if_lt (by rfl)
theorem e168_17 : zE 168 d Q 17 [l0, l1, some (zI x)] st G h k ↔ zE 168 d Q 18 [l0, l1, some (zI x)] (zI x :: st) G h k := E_iload_n (by rfl) rfl
theorem e168_18 : zE 168 d Q 18 [some (.inr (.inr w9)), l1, l2] st G h k ↔ zE 168 d Q 19 [some (.inr (.inr w9)), l1, l2] (.inr (.inr w9) :: st) G h k := E_aload_n (by rfl) rfl
theorem e168_19 : zE 168 d Q 19 [l0, l1, l2] (zR (some r) :: st) G h k ↔ (G.2.1 r = 9 ∧ zE 168 d Q 22 [l0, l1, l2] (zI (h r 31) :: st) G h k) := E_getI (by rfl) (by decide)
theorem e168_22 : zE 168 d Q 22 [l0, l1, l2] (zI y :: zI x :: st) G h k ↔ ((y ≤ x → zE 168 d Q 43 [l0, l1, l2] st G h k) ∧ (¬ (y ≤ x) → zE 168 d Q 25 [l0, l1, l2] st G h k)) := E_icmp_ge (by rfl)
theorem e168_25 : zE 168 d Q 25 [some (.inr (.inr w9)), l1, l2] st G h k ↔ zE 168 d Q 26 [some (.inr (.inr w9)), l1, l2] (.inr (.inr w9) :: st) G h k := E_aload_n (by rfl) rfl
theorem e168_26 : zE 168 d Q 26 [some (.inr (.inr w9)), l1, l2] st G h k ↔ zE 168 d Q 27 [some (.inr (.inr w9)), l1, l2] (.inr (.inr w9) :: st) G h k := E_aload_n (by rfl) rfl
theorem e168_27 : zE 168 d Q 27 [l0, l1, l2] (zR (some r) :: st) G h k ↔ (G.2.1 r = 9 ∧ zE 168 d Q 30 [l0, l1, l2] (zR (G.2.2.2 r 39) :: st) G h k) := E_getR (by rfl) rfl
theorem e168_30 : zE 168 d Q 30 [l0, l1, l2] st G h k ↔ zE 168 d Q 31 [l0, l1, l2] (zI 3 :: st) G h k := E_iconst (by rfl)
theorem e168_31 : zE 168 d Q 31 [l0, l1, some (zI x)] st G h k ↔ zE 168 d Q 32 [l0, l1, some (zI x)] (zI x :: st) G h k := E_iload_n (by rfl) rfl
theorem e168_32 : zE 168 d Q 32 [l0, l1, l2] (zI y :: zI x :: st) G h k ↔ zE 168 d Q 33 [l0, l1, l2] (zI (wr (x * y)) :: st) G h k := E_imul (by rfl)
theorem e168_33 : zE 168 d Q 33 [l0, some (zI x), l2] st G h k ↔ zE 168 d Q 34 [l0, some (zI x), l2] (zI x :: st) G h k := E_iload_n (by rfl) rfl
theorem e168_34 : zE 168 d Q 34 [l0, l1, l2] (zI y :: zI x :: st) G h k ↔ zE 168 d Q 35 [l0, l1, l2] (zI (wr (x + y)) :: st) G h k := E_iadd (by rfl)
theorem e168_35 : zE 168 d Q 35 [l0, l1, l2] (zI i :: zR (some r) :: st) G h k ↔ (G.2.1 r = 10 ∧ (0 ≤ i ∧ i < G.2.2.1 r) ∧ zE 168 d Q 36 [l0, l1, l2] (zI (h r i.toNat) :: st) G h k) := E_iaload (by rfl)
theorem e168_36 : zE 168 d Q 36 [l0, l1, l2] (zI x :: st) G h k ↔ zE 168 d Q 37 [l0, l1, l2] (zL x :: st) G h k := E_i2l (by rfl)
theorem e168_37 : zE 168 d Q 37 [l0, l1, l2] (v0 :: zR (some r) :: st) G h k ↔ (zsum st ≤ 8 ∧ G.2.1 r = 9 ∧ zRunD ztb zmt' d 118 [zR (some r), v0] G h (fun v G' h' => zE 168 d Q 40 [l0, l1, l2] (v.toList ++ st) G' h' k)) := E_invV2z (by rfl) (by decide) rfl
theorem e168_40 : zE 168 d Q 40 [l0, l1, l2] st G h k ↔ zE 168 d Q 48 [l0, l1, l2] st G h k := E_goto (by rfl)
theorem e168_43 : zE 168 d Q 43 [some (.inr (.inr w9)), l1, l2] st G h k ↔ zE 168 d Q 44 [some (.inr (.inr w9)), l1, l2] (.inr (.inr w9) :: st) G h k := E_aload_n (by rfl) rfl
theorem e168_44 : zE 168 d Q 44 [l0, l1, l2] st G h k ↔ zE 168 d Q 45 [l0, l1, l2] (zI 1 :: st) G h k := E_iconst (by rfl)
theorem e168_45 : zE 168 d Q 45 [l0, l1, l2] (v0 :: zR (some r) :: st) G h k ↔ (zsum st ≤ 8 ∧ G.2.1 r = 9 ∧ zRunD ztb zmt' d 115 [zR (some r), v0] G h (fun v G' h' => zE 168 d Q 48 [l0, l1, l2] (v.toList ++ st) G' h' k)) := E_invV2z (by rfl) (by decide) rfl
theorem e168_48 : zE 168 d Q 48 [l0, l1, l2] [zL x] G h k ↔ Q (some (zL x)) G h := E_lret (by rfl) rfl
theorem e169_0 : zE 169 d Q 0 [l0, some (zI x), l2] st G h k ↔ zE 169 d Q 1 [l0, some (zI x), l2] (zI x :: st) G h k := E_iload_n (by rfl) rfl
theorem e169_1 : zE 169 d Q 1 [some (.inr (.inr w9)), l1, l2] st G h k ↔ zE 169 d Q 2 [some (.inr (.inr w9)), l1, l2] (.inr (.inr w9) :: st) G h k := E_aload_n (by rfl) rfl
theorem e169_2 : zE 169 d Q 2 [l0, l1, l2] (zR (some r) :: st) G h k ↔ (G.2.1 r = 9 ∧ zE 169 d Q 5 [l0, l1, l2] (zI (h r 20) :: st) G h k) := E_getI (by rfl) (by decide)
theorem e169_5 : zE 169 d Q 5 [l0, l1, l2] (zI y :: zI x :: st) G h k ↔ ((¬ x = y → zE 169 d Q 17 [l0, l1, l2] st G h k) ∧ (¬ (¬ x = y) → zE 169 d Q 8 [l0, l1, l2] st G h k)) := E_icmp_ne (by rfl)
theorem e169_8 : zE 169 d Q 8 [some (.inr (.inr w9)), l1, l2] st G h k ↔ zE 169 d Q 9 [some (.inr (.inr w9)), l1, l2] (.inr (.inr w9) :: st) G h k := E_aload_n (by rfl) rfl
theorem e169_9 : zE 169 d Q 9 [l0, l1, l2] (zR (some r) :: st) G h k ↔ (G.2.1 r = 9 ∧ zE 169 d Q 12 [l0, l1, l2] (zI (h r 21) :: st) G h k) := E_getI (by rfl) (by decide)
theorem e169_12 : zE 169 d Q 12 [l0, l1, l2] st G h k ↔ zE 169 d Q 13 [l0, l1, l2] (zI 1 :: st) G h k := E_iconst (by rfl)
theorem e169_13 : zE 169 d Q 13 [l0, l1, l2] (zI y :: zI x :: st) G h k ↔ zE 169 d Q 14 [l0, l1, l2] (zI (wr (x + y)) :: st) G h k := E_iadd (by rfl)
theorem e169_14 : zE 169 d Q 14 [l0, l1, l2] st G h k ↔ zE 169 d Q 24 [l0, l1, l2] st G h k := E_goto (by rfl)
theorem e169_17 : zE 169 d Q 17 [some (.inr (.inr w9)), l1, l2] st G h k ↔ zE 169 d Q 18 [some (.inr (.inr w9)), l1, l2] (.inr (.inr w9) :: st) G h k := E_aload_n (by rfl) rfl
theorem e169_18 : zE 169 d Q 18 [l0, l1, l2] (zR (some r) :: st) G h k ↔ (G.2.1 r = 9 ∧ zE 169 d Q 21 [l0, l1, l2] (zR (G.2.2.2 r 3) :: st) G h k) := E_getR (by rfl) rfl
theorem e169_21 : zE 169 d Q 21 [l0, l1, l2] (zR (some r) :: st) G h k ↔ (G.2.1 r = 8 ∧ zE 169 d Q 24 [l0, l1, l2] (zI (h r 2) :: st) G h k) := E_getI (by rfl) (by decide)
theorem e169_24 : zE 169 d Q 24 [l0, l1, l2] (zI x :: st) G h k ↔ zE 169 d Q 25 [l0, (zclr l1), some (zI x)] st G h k := E_istore_n (by rfl) (by decide)
theorem e169_25 : zE 169 d Q 25 [some (.inr (.inr w9)), l1, l2] st G h k ↔ zE 169 d Q 26 [some (.inr (.inr w9)), l1, l2] (.inr (.inr w9) :: st) G h k := E_aload_n (by rfl) rfl
theorem e169_26 : zE 169 d Q 26 [l0, l1, l2] (zR (some r) :: st) G h k ↔ (G.2.1 r = 9 ∧ zE 169 d Q 29 [l0, l1, l2] (zI (h r 16) :: st) G h k) := E_getI (by rfl) (by decide)
theorem e169_29 : zE 169 d Q 29 [l0, l1, l2] (zI x :: st) G h k ↔ ((x = 0 → zE 169 d Q 44 [l0, l1, l2] st G h k) ∧ (¬ (x = 0) → zE 169 d Q 32 [l0, l1, l2] st G h k)) := E_if_eq (by rfl)
theorem e169_32 : zE 169 d Q 32 [l0, l1, some (zI x)] st G h k ↔ zE 169 d Q 33 [l0, l1, some (zI x)] (zI x :: st) G h k := E_iload_n (by rfl) rfl
theorem e169_33 : zE 169 d Q 33 [some (.inr (.inr w9)), l1, l2] st G h k ↔ zE 169 d Q 34 [some (.inr (.inr w9)), l1, l2] (.inr (.inr w9) :: st) G h k := E_aload_n (by rfl) rfl
theorem e169_34 : zE 169 d Q 34 [l0, l1, l2] (zR (some r) :: st) G h k ↔ (G.2.1 r = 9 ∧ zE 169 d Q 37 [l0, l1, l2] (zR (G.2.2.2 r 3) :: st) G h k) := E_getR (by rfl) rfl
theorem e169_37 : zE 169 d Q 37 [l0, l1, l2] (zR (some r) :: st) G h k ↔ (G.2.1 r = 8 ∧ zE 169 d Q 40 [l0, l1, l2] (zI (h r 2) :: st) G h k) := E_getI (by rfl) (by decide)
theorem e169_40 : zE 169 d Q 40 [l0, l1, l2] (zI y :: zI x :: st) G h k ↔ zE 169 d Q 41 [l0, l1, l2] (zI (wr (x * y)) :: st) G h k := E_imul (by rfl)
theorem e169_41 : zE 169 d Q 41 [l0, l1, l2] st G h k ↔ zE 169 d Q 45 [l0, l1, l2] st G h k := E_goto (by rfl)
theorem e169_44 : zE 169 d Q 44 [l0, l1, some (zI x)] st G h k ↔ zE 169 d Q 45 [l0, l1, some (zI x)] (zI x :: st) G h k := E_iload_n (by rfl) rfl
theorem e169_45 : zE 169 d Q 45 [l0, l1, l2] [zI x] G h k ↔ Q (some (zI x)) G h := E_iret (by rfl) rfl
theorem e170_0 : zE 170 d Q 0 [l0, l1, l2] st G h k ↔ zE 170 d Q 1 [l0, l1, l2] (zI 1 :: st) G h k := E_iconst (by rfl)
theorem e170_1 : zE 170 d Q 1 [l0, l1, l2] (zI x :: st) G h k ↔ zE 170 d Q 2 [(zclr l0), some (zI x), l2] st G h k := E_istore_n (by rfl) (by decide)
theorem e170_2 : zE 170 d Q 2 [l0, l1, l2] st G h k ↔ zE 170 d Q 3 [l0, l1, l2] (zI 0 :: st) G h k := E_iconst (by rfl)
theorem e170_3 : zE 170 d Q 3 [l0, l1, l2] (zI x :: st) G h k ↔ zE 170 d Q 4 [l0, (zclr l1), some (zI x)] st G h k := E_istore_n (by rfl) (by decide)
theorem e170_4 : zE 170 d Q 4 [l0, l1, some (zI x)] st G h k ↔ zE 170 d Q 5 [l0, l1, some (zI x)] (zI x :: st) G h k := E_iload_n (by rfl) rfl
theorem e170_5 : zE 170 d Q 5 [some (.inr (.inr w9)), l1, l2] st G h k ↔ zE 170 d Q 6 [some (.inr (.inr w9)), l1, l2] (.inr (.inr w9) :: st) G h k := E_aload_n (by rfl) rfl
theorem e170_6 : zE 170 d Q 6 [l0, l1, l2] (zR (some r) :: st) G h k ↔ (G.2.1 r = 9 ∧ zE 170 d Q 9 [l0, l1, l2] (zR (G.2.2.2 r 3) :: st) G h k) := E_getR (by rfl) rfl
theorem e170_9 : zE 170 d Q 9 [l0, l1, l2] (zR (some r) :: st) G h k ↔ (G.2.1 r = 8 ∧ zE 170 d Q 12 [l0, l1, l2] (zI (h r 0) :: st) G h k) := E_getI (by rfl) (by decide)
theorem e170_12 : zE 170 d Q 12 [l0, l1, l2] (zI y :: zI x :: st) G h k ↔ ((y ≤ x → zE 170 d Q 29 [l0, l1, l2] st G h k) ∧ (¬ (y ≤ x) → zE 170 d Q 15 [l0, l1, l2] st G h k)) := E_icmp_ge (by rfl)
theorem e170_15 : zE 170 d Q 15 [l0, some (zI x), l2] st G h k ↔ zE 170 d Q 16 [l0, some (zI x), l2] (zI x :: st) G h k := E_iload_n (by rfl) rfl
theorem e170_16 : zE 170 d Q 16 [some (.inr (.inr w9)), l1, l2] st G h k ↔ zE 170 d Q 17 [some (.inr (.inr w9)), l1, l2] (.inr (.inr w9) :: st) G h k := E_aload_n (by rfl) rfl
theorem e170_17 : zE 170 d Q 17 [l0, l1, some (zI x)] st G h k ↔ zE 170 d Q 18 [l0, l1, some (zI x)] (zI x :: st) G h k := E_iload_n (by rfl) rfl
theorem e170_18 : zE 170 d Q 18 [l0, l1, l2] (v0 :: zR (some r) :: st) G h k ↔ (zsum st ≤ 8 ∧ G.2.1 r = 9 ∧ zRunD ztb zmt' d 169 [zR (some r), v0] G h (fun v G' h' => zE 170 d Q 21 [l0, l1, l2] (v.toList ++ st) G' h' k)) := E_invV2z (by rfl) (by decide) rfl
theorem e170_21 : zE 170 d Q 21 [l0, l1, l2] (zI y :: zI x :: st) G h k ↔ zE 170 d Q 22 [l0, l1, l2] (zI (wr (x * y)) :: st) G h k := E_imul (by rfl)
theorem e170_22 : zE 170 d Q 22 [l0, l1, l2] (zI x :: st) G h k ↔ zE 170 d Q 23 [(zclr l0), some (zI x), l2] st G h k := E_istore_n (by rfl) (by decide)
theorem e170_23 : zE 170 d Q 23 [l0, l1, some (zI x)] st G h k ↔ zE 170 d Q 26 [l0, (zclr l1), some (zI (wr (x + 1)))] st G h k := E_iinc (by rfl) rfl
theorem e170_26 : zE 170 d Q 26 [l0, l1, l2] st G h k ↔ zE 170 d Q 4 [l0, l1, l2] st G h k := E_goto (by rfl)
theorem e170_29 : zE 170 d Q 29 [l0, some (zI x), l2] st G h k ↔ zE 170 d Q 30 [l0, some (zI x), l2] (zI x :: st) G h k := E_iload_n (by rfl) rfl
theorem e170_30 : zE 170 d Q 30 [l0, l1, l2] [zI x] G h k ↔ Q (some (zI x)) G h := E_iret (by rfl) rfl
theorem e171_0 : zE 171 d Q 0 [l0, l1, l2, l3, l4] st G h k ↔ zE 171 d Q 1 [l0, l1, l2, l3, l4] (zL 1 :: st) G h k := E_lconst (by rfl)
theorem e171_1 : zE 171 d Q 1 [l0, l1, l2, l3, l4] (zL x :: st) G h k ↔ zE 171 d Q 2 [l0, (zclr l1), some (zL x), none, l4] st G h k := E_lstore_n (by rfl) (by decide)
theorem e171_2 : zE 171 d Q 2 [l0, l1, l2, l3, l4] st G h k ↔ zE 171 d Q 3 [l0, l1, l2, l3, l4] (zI 0 :: st) G h k := E_iconst (by rfl)
theorem e171_3 : zE 171 d Q 3 [l0, l1, l2, l3, l4] (zI x :: st) G h k ↔ zE 171 d Q 5 [l0, l1, l2, (zclr l3), some (zI x)] st G h k := E_istore (by rfl) (by decide)
theorem e171_5 : zE 171 d Q 5 [l0, l1, l2, l3, some (zI x)] st G h k ↔ zE 171 d Q 7 [l0, l1, l2, l3, some (zI x)] (zI x :: st) G h k := E_iload (by rfl) rfl
theorem e171_7 : zE 171 d Q 7 [l0, some (zI x), l2, l3, l4] st G h k ↔ zE 171 d Q 8 [l0, some (zI x), l2, l3, l4] (zI x :: st) G h k := E_iload_n (by rfl) rfl
theorem e171_8 : zE 171 d Q 8 [l0, l1, l2, l3, l4] (zI y :: zI x :: st) G h k ↔ ((y ≤ x → zE 171 d Q 25 [l0, l1, l2, l3, l4] st G h k) ∧ (¬ (y ≤ x) → zE 171 d Q 11 [l0, l1, l2, l3, l4] st G h k)) := E_icmp_ge (by rfl)
theorem e171_11 : zE 171 d Q 11 [l0, l1, some (zL x), l3, l4] st G h k ↔ zE 171 d Q 12 [l0, l1, some (zL x), l3, l4] (zL x :: st) G h k := E_lload_n (by rfl) rfl
theorem e171_12 : zE 171 d Q 12 [some (.inr (.inr w9)), l1, l2, l3, l4] st G h k ↔ zE 171 d Q 13 [some (.inr (.inr w9)), l1, l2, l3, l4] (.inr (.inr w9) :: st) G h k := E_aload_n (by rfl) rfl
theorem e171_13 : zE 171 d Q 13 [l0, l1, l2, l3, l4] (zR (some r) :: st) G h k ↔ (zsum st ≤ 8 ∧ G.2.1 r = 9 ∧ zRunD ztb zmt' d 170 [zR (some r)] G h (fun v G' h' => zE 171 d Q 16 [l0, l1, l2, l3, l4] (v.toList ++ st) G' h' k)) := E_invV2z (by rfl) (by decide) rfl
theorem e171_16 : zE 171 d Q 16 [l0, l1, l2, l3, l4] (zI x :: st) G h k ↔ zE 171 d Q 17 [l0, l1, l2, l3, l4] (zL x :: st) G h k := E_i2l (by rfl)
theorem e171_17 : zE 171 d Q 17 [l0, l1, l2, l3, l4] (zL y :: zL x :: st) G h k ↔ zE 171 d Q 18 [l0, l1, l2, l3, l4] (zL (wl (x * y)) :: st) G h k := E_lmul (by rfl)
theorem e171_18 : zE 171 d Q 18 [l0, l1, l2, l3, l4] (zL x :: st) G h k ↔ zE 171 d Q 19 [l0, (zclr l1), some (zL x), none, l4] st G h k := E_lstore_n (by rfl) (by decide)
theorem e171_19 : zE 171 d Q 19 [l0, l1, l2, l3, some (zI x)] st G h k ↔ zE 171 d Q 22 [l0, l1, l2, (zclr l3), some (zI (wr (x + 1)))] st G h k := E_iinc (by rfl) rfl
theorem e171_22 : zE 171 d Q 22 [l0, l1, l2, l3, l4] st G h k ↔ zE 171 d Q 5 [l0, l1, l2, l3, l4] st G h k := E_goto (by rfl)
theorem e171_25 : zE 171 d Q 25 [l0, l1, some (zL x), l3, l4] st G h k ↔ zE 171 d Q 26 [l0, l1, some (zL x), l3, l4] (zL x :: st) G h k := E_lload_n (by rfl) rfl
theorem e171_26 : zE 171 d Q 26 [l0, l1, l2, l3, l4] st G h k ↔ zE 171 d Q 29 [l0, l1, l2, l3, l4] (zL 20000 :: st) G h k := E_ldc2_w (by rfl)
theorem e171_29 : zE 171 d Q 29 [l0, l1, l2, l3, l4] (zL y :: zL x :: st) G h k ↔ zE 171 d Q 30 [l0, l1, l2, l3, l4] (zI (zlc x y) :: st) G h k := E_lcmp (by rfl)
theorem e171_30 : zE 171 d Q 30 [l0, l1, l2, l3, l4] (zI x :: st) G h k ↔ ((x ≤ 0 → zE 171 d Q 37 [l0, l1, l2, l3, l4] st G h k) ∧ (¬ (x ≤ 0) → zE 171 d Q 33 [l0, l1, l2, l3, l4] st G h k)) := E_if_le (by rfl)
theorem e171_33 : zE 171 d Q 33 [l0, l1, l2, l3, l4] st G h k ↔ zE 171 d Q 34 [l0, l1, l2, l3, l4] (zI 1 :: st) G h k := E_iconst (by rfl)
theorem e171_34 : zE 171 d Q 34 [l0, l1, l2, l3, l4] st G h k ↔ zE 171 d Q 38 [l0, l1, l2, l3, l4] st G h k := E_goto (by rfl)
theorem e171_37 : zE 171 d Q 37 [l0, l1, l2, l3, l4] st G h k ↔ zE 171 d Q 38 [l0, l1, l2, l3, l4] (zI 0 :: st) G h k := E_iconst (by rfl)
theorem e171_38 : zE 171 d Q 38 [l0, l1, l2, l3, l4] [zI x] G h k ↔ ((x = 0 ∨ x = 1) ∧ Q (some (zI x)) G h) := E_zret (by rfl) rfl
theorem e172_0 : zE 172 d Q 0 [l0, l1, l2, l3] st G h k ↔ zE 172 d Q 1 [l0, l1, l2, l3] (zI 1 :: st) G h k := E_iconst (by rfl)
theorem e172_1 : zE 172 d Q 1 [l0, l1, l2, l3] (zI x :: st) G h k ↔ zE 172 d Q 2 [l0, (zclr l1), some (zI x), l3] st G h k := E_istore_n (by rfl) (by decide)
theorem e172_2 : zE 172 d Q 2 [l0, some (zI x), l2, l3] st G h k ↔ zE 172 d Q 3 [l0, some (zI x), l2, l3] (zI x :: st) G h k := E_iload_n (by rfl) rfl
theorem e172_3 : zE 172 d Q 3 [l0, l1, l2, l3] st G h k ↔ zE 172 d Q 4 [l0, l1, l2, l3] (zI 1 :: st) G h k := E_iconst (by rfl)
theorem e172_4 : zE 172 d Q 4 [l0, l1, l2, l3] (zI y :: zI x :: st) G h k ↔ zE 172 d Q 5 [l0, l1, l2, l3] (zI (wr (x + y)) :: st) G h k := E_iadd (by rfl)
theorem e172_5 : zE 172 d Q 5 [l0, l1, l2, l3] (zI x :: st) G h k ↔ zE 172 d Q 6 [l0, l1, (zclr l2), some (zI x)] st G h k := E_istore_n (by rfl) (by decide)
theorem e172_6 : zE 172 d Q 6 [l0, l1, l2, some (zI x)] st G h k ↔ zE 172 d Q 7 [l0, l1, l2, some (zI x)] (zI x :: st) G h k := E_iload_n (by rfl) rfl
theorem e172_7 : zE 172 d Q 7 [some (.inr (.inr w9)), l1, l2, l3] st G h k ↔ zE 172 d Q 8 [some (.inr (.inr w9)), l1, l2, l3] (.inr (.inr w9) :: st) G h k := E_aload_n (by rfl) rfl
theorem e172_8 : zE 172 d Q 8 [l0, l1, l2, l3] (zR (some r) :: st) G h k ↔ (G.2.1 r = 9 ∧ zE 172 d Q 11 [l0, l1, l2, l3] (zR (G.2.2.2 r 3) :: st) G h k) := E_getR (by rfl) rfl
theorem e172_11 : zE 172 d Q 11 [l0, l1, l2, l3] (zR (some r) :: st) G h k ↔ (G.2.1 r = 8 ∧ zE 172 d Q 14 [l0, l1, l2, l3] (zI (h r 0) :: st) G h k) := E_getI (by rfl) (by decide)
theorem e172_14 : zE 172 d Q 14 [l0, l1, l2, l3] (zI y :: zI x :: st) G h k ↔ ((y ≤ x → zE 172 d Q 31 [l0, l1, l2, l3] st G h k) ∧ (¬ (y ≤ x) → zE 172 d Q 17 [l0, l1, l2, l3] st G h k)) := E_icmp_ge (by rfl)
theorem e172_17 : zE 172 d Q 17 [l0, l1, some (zI x), l3] st G h k ↔ zE 172 d Q 18 [l0, l1, some (zI x), l3] (zI x :: st) G h k := E_iload_n (by rfl) rfl
theorem e172_18 : zE 172 d Q 18 [some (.inr (.inr w9)), l1, l2, l3] st G h k ↔ zE 172 d Q 19 [some (.inr (.inr w9)), l1, l2, l3] (.inr (.inr w9) :: st) G h k := E_aload_n (by rfl) rfl
theorem e172_19 : zE 172 d Q 19 [l0, l1, l2, some (zI x)] st G h k ↔ zE 172 d Q 20 [l0, l1, l2, some (zI x)] (zI x :: st) G h k := E_iload_n (by rfl) rfl
theorem e172_20 : zE 172 d Q 20 [l0, l1, l2, l3] (v0 :: zR (some r) :: st) G h k ↔ (zsum st ≤ 8 ∧ G.2.1 r = 9 ∧ zRunD ztb zmt' d 169 [zR (some r), v0] G h (fun v G' h' => zE 172 d Q 23 [l0, l1, l2, l3] (v.toList ++ st) G' h' k)) := E_invV2z (by rfl) (by decide) rfl
theorem e172_23 : zE 172 d Q 23 [l0, l1, l2, l3] (zI y :: zI x :: st) G h k ↔ zE 172 d Q 24 [l0, l1, l2, l3] (zI (wr (x * y)) :: st) G h k := E_imul (by rfl)
theorem e172_24 : zE 172 d Q 24 [l0, l1, l2, l3] (zI x :: st) G h k ↔ zE 172 d Q 25 [l0, (zclr l1), some (zI x), l3] st G h k := E_istore_n (by rfl) (by decide)
theorem e172_25 : zE 172 d Q 25 [l0, l1, l2, some (zI x)] st G h k ↔ zE 172 d Q 28 [l0, l1, (zclr l2), some (zI (wr (x + 1)))] st G h k := E_iinc (by rfl) rfl
theorem e172_28 : zE 172 d Q 28 [l0, l1, l2, l3] st G h k ↔ zE 172 d Q 6 [l0, l1, l2, l3] st G h k := E_goto (by rfl)
theorem e172_31 : zE 172 d Q 31 [l0, l1, some (zI x), l3] st G h k ↔ zE 172 d Q 32 [l0, l1, some (zI x), l3] (zI x :: st) G h k := E_iload_n (by rfl) rfl
theorem e172_32 : zE 172 d Q 32 [l0, l1, l2, l3] [zI x] G h k ↔ Q (some (zI x)) G h := E_iret (by rfl) rfl
theorem e173_0 : zE 173 d Q 0 [l0, some (zI x), l2] st G h k ↔ zE 173 d Q 1 [l0, some (zI x), l2] (zI x :: st) G h k := E_iload_n (by rfl) rfl
theorem e173_1 : zE 173 d Q 1 [some (.inr (.inr w9)), l1, l2] st G h k ↔ zE 173 d Q 2 [some (.inr (.inr w9)), l1, l2] (.inr (.inr w9) :: st) G h k := E_aload_n (by rfl) rfl
theorem e173_2 : zE 173 d Q 2 [l0, l1, some (zI x)] st G h k ↔ zE 173 d Q 3 [l0, l1, some (zI x)] (zI x :: st) G h k := E_iload_n (by rfl) rfl
theorem e173_3 : zE 173 d Q 3 [l0, l1, l2] (v0 :: zR (some r) :: st) G h k ↔ (zsum st ≤ 8 ∧ G.2.1 r = 9 ∧ zRunD ztb zmt' d 172 [zR (some r), v0] G h (fun v G' h' => zE 173 d Q 6 [l0, l1, l2] (v.toList ++ st) G' h' k)) := E_invV2z (by rfl) (by decide) rfl
theorem e173_6 : zE 173 d Q 6 [l0, l1, l2] (zI y :: zI x :: st) G h k ↔ (y ≠ 0 ∧ zE 173 d Q 7 [l0, l1, l2] (zI (wr (x.tdiv y)) :: st) G h k) := E_idiv (by rfl)
theorem e173_7 : zE 173 d Q 7 [some (.inr (.inr w9)), l1, l2] st G h k ↔ zE 173 d Q 8 [some (.inr (.inr w9)), l1, l2] (.inr (.inr w9) :: st) G h k := E_aload_n (by rfl) rfl
theorem e173_8 : zE 173 d Q 8 [l0, l1, some (zI x)] st G h k ↔ zE 173 d Q 9 [l0, l1, some (zI x)] (zI x :: st) G h k := E_iload_n (by rfl) rfl
theorem e173_9 : zE 173 d Q 9 [l0, l1, l2] (v0 :: zR (some r) :: st) G h k ↔ (zsum st ≤ 8 ∧ G.2.1 r = 9 ∧ zRunD ztb zmt' d 169 [zR (some r), v0] G h (fun v G' h' => zE 173 d Q 12 [l0, l1, l2] (v.toList ++ st) G' h' k)) := E_invV2z (by rfl) (by decide) rfl
theorem e173_12 : zE 173 d Q 12 [l0, l1, l2] (zI y :: zI x :: st) G h k ↔ (y ≠ 0 ∧ zE 173 d Q 13 [l0, l1, l2] (zI (x.tmod y) :: st) G h k) := E_irem (by rfl)
theorem e173_13 : zE 173 d Q 13 [l0, l1, l2] [zI x] G h k ↔ Q (some (zI x)) G h := E_iret (by rfl) rfl
theorem e174_0 : zE 174 d Q 0 [some (.inr (.inr w9)), l1] st G h k ↔ zE 174 d Q 1 [some (.inr (.inr w9)), l1] (.inr (.inr w9) :: st) G h k := E_aload_n (by rfl) rfl
theorem e174_1 : zE 174 d Q 1 [l0, l1] (zR (some r) :: st) G h k ↔ (G.2.1 r = 9 ∧ zE 174 d Q 4 [l0, l1] (zI (h r 16) :: st) G h k) := E_getI (by rfl) (by decide)
theorem e174_4 : zE 174 d Q 4 [l0, l1] (zI x :: st) G h k ↔ ((x = 0 → zE 174 d Q 19 [l0, l1] st G h k) ∧ (¬ (x = 0) → zE 174 d Q 7 [l0, l1] st G h k)) := E_if_eq (by rfl)
theorem e174_7 : zE 174 d Q 7 [l0, some (zI x)] st G h k ↔ zE 174 d Q 8 [l0, some (zI x)] (zI x :: st) G h k := E_iload_n (by rfl) rfl
theorem e174_8 : zE 174 d Q 8 [some (.inr (.inr w9)), l1] st G h k ↔ zE 174 d Q 9 [some (.inr (.inr w9)), l1] (.inr (.inr w9) :: st) G h k := E_aload_n (by rfl) rfl
theorem e174_9 : zE 174 d Q 9 [l0, l1] (zR (some r) :: st) G h k ↔ (G.2.1 r = 9 ∧ zE 174 d Q 12 [l0, l1] (zR (G.2.2.2 r 3) :: st) G h k) := E_getR (by rfl) rfl
theorem e174_12 : zE 174 d Q 12 [l0, l1] (zR (some r) :: st) G h k ↔ (G.2.1 r = 8 ∧ zE 174 d Q 15 [l0, l1] (zI (h r 2) :: st) G h k) := E_getI (by rfl) (by decide)
theorem e174_15 : zE 174 d Q 15 [l0, l1] (zI y :: zI x :: st) G h k ↔ (y ≠ 0 ∧ zE 174 d Q 16 [l0, l1] (zI (wr (x.tdiv y)) :: st) G h k) := E_idiv (by rfl)
theorem e174_16 : zE 174 d Q 16 [l0, l1] st G h k ↔ zE 174 d Q 20 [l0, l1] st G h k := E_goto (by rfl)
theorem e174_19 : zE 174 d Q 19 [l0, some (zI x)] st G h k ↔ zE 174 d Q 20 [l0, some (zI x)] (zI x :: st) G h k := E_iload_n (by rfl) rfl
theorem e174_20 : zE 174 d Q 20 [l0, l1] [zI x] G h k ↔ Q (some (zI x)) G h := E_iret (by rfl) rfl
theorem e175_0 : zE 175 d Q 0 [some (.inr (.inr w9)), l1] st G h k ↔ zE 175 d Q 1 [some (.inr (.inr w9)), l1] (.inr (.inr w9) :: st) G h k := E_aload_n (by rfl) rfl
theorem e175_1 : zE 175 d Q 1 [l0, l1] (zR (some r) :: st) G h k ↔ (G.2.1 r = 9 ∧ zE 175 d Q 4 [l0, l1] (zI (h r 16) :: st) G h k) := E_getI (by rfl) (by decide)
theorem e175_4 : zE 175 d Q 4 [l0, l1] (zI x :: st) G h k ↔ ((x = 0 → zE 175 d Q 19 [l0, l1] st G h k) ∧ (¬ (x = 0) → zE 175 d Q 7 [l0, l1] st G h k)) := E_if_eq (by rfl)
theorem e175_7 : zE 175 d Q 7 [l0, some (zI x)] st G h k ↔ zE 175 d Q 8 [l0, some (zI x)] (zI x :: st) G h k := E_iload_n (by rfl) rfl
theorem e175_8 : zE 175 d Q 8 [some (.inr (.inr w9)), l1] st G h k ↔ zE 175 d Q 9 [some (.inr (.inr w9)), l1] (.inr (.inr w9) :: st) G h k := E_aload_n (by rfl) rfl
theorem e175_9 : zE 175 d Q 9 [l0, l1] (zR (some r) :: st) G h k ↔ (G.2.1 r = 9 ∧ zE 175 d Q 12 [l0, l1] (zR (G.2.2.2 r 3) :: st) G h k) := E_getR (by rfl) rfl
theorem e175_12 : zE 175 d Q 12 [l0, l1] (zR (some r) :: st) G h k ↔ (G.2.1 r = 8 ∧ zE 175 d Q 15 [l0, l1] (zI (h r 2) :: st) G h k) := E_getI (by rfl) (by decide)
theorem e175_15 : zE 175 d Q 15 [l0, l1] (zI y :: zI x :: st) G h k ↔ (y ≠ 0 ∧ zE 175 d Q 16 [l0, l1] (zI (x.tmod y) :: st) G h k) := E_irem (by rfl)
theorem e175_16 : zE 175 d Q 16 [l0, l1] st G h k ↔ zE 175 d Q 20 [l0, l1] st G h k := E_goto (by rfl)
theorem e175_19 : zE 175 d Q 19 [l0, some (zI x)] st G h k ↔ zE 175 d Q 20 [l0, some (zI x)] (zI x :: st) G h k := E_iload_n (by rfl) rfl
theorem e175_20 : zE 175 d Q 20 [l0, l1] [zI x] G h k ↔ Q (some (zI x)) G h := E_iret (by rfl) rfl
theorem e176_0 : zE 176 d Q 0 [l0, l1, l2] st G h k ↔ zE 176 d Q 1 [l0, l1, l2] (zI 0 :: st) G h k := E_iconst (by rfl)
theorem e176_1 : zE 176 d Q 1 [l0, l1, l2] (zI x :: st) G h k ↔ zE 176 d Q 2 [l0, (zclr l1), some (zI x)] st G h k := E_istore_n (by rfl) (by decide)
theorem e176_2 : zE 176 d Q 2 [l0, l1, some (zI x)] st G h k ↔ zE 176 d Q 3 [l0, l1, some (zI x)] (zI x :: st) G h k := E_iload_n (by rfl) rfl
theorem e176_3 : zE 176 d Q 3 [some (.inr (.inr w9)), l1, l2] st G h k ↔ zE 176 d Q 4 [some (.inr (.inr w9)), l1, l2] (.inr (.inr w9) :: st) G h k := E_aload_n (by rfl) rfl
theorem e176_4 : zE 176 d Q 4 [l0, l1, l2] (zR (some r) :: st) G h k ↔ (G.2.1 r = 9 ∧ zE 176 d Q 7 [l0, l1, l2] (zR (G.2.2.2 r 3) :: st) G h k) := E_getR (by rfl) rfl
theorem e176_7 : zE 176 d Q 7 [l0, l1, l2] (zR (some r) :: st) G h k ↔ (G.2.1 r = 8 ∧ zE 176 d Q 10 [l0, l1, l2] (zI (h r 0) :: st) G h k) := E_getI (by rfl) (by decide)
theorem e176_10 : zE 176 d Q 10 [l0, l1, l2] (zI y :: zI x :: st) G h k ↔ ((y ≤ x → zE 176 d Q 67 [l0, l1, l2] st G h k) ∧ (¬ (y ≤ x) → zE 176 d Q 13 [l0, l1, l2] st G h k)) := E_icmp_ge (by rfl)
theorem e176_13 : zE 176 d Q 13 [some (.inr (.inr w9)), l1, l2] st G h k ↔ zE 176 d Q 14 [some (.inr (.inr w9)), l1, l2] (.inr (.inr w9) :: st) G h k := E_aload_n (by rfl) rfl
theorem e176_14 : zE 176 d Q 14 [l0, l1, l2] (zR (some r) :: st) G h k ↔ (G.2.1 r = 9 ∧ zE 176 d Q 17 [l0, l1, l2] (zR (G.2.2.2 r 23) :: st) G h k) := E_getR (by rfl) rfl
theorem e176_17 : zE 176 d Q 17 [l0, l1, some (zI x)] st G h k ↔ zE 176 d Q 18 [l0, l1, some (zI x)] (zI x :: st) G h k := E_iload_n (by rfl) rfl
theorem e176_18 : zE 176 d Q 18 [some (.inr (.inr w9)), l1, l2] st G h k ↔ zE 176 d Q 19 [some (.inr (.inr w9)), l1, l2] (.inr (.inr w9) :: st) G h k := E_aload_n (by rfl) rfl
theorem e176_19 : zE 176 d Q 19 [l0, l1, l2] (zR (some r) :: st) G h k ↔ (G.2.1 r = 9 ∧ zE 176 d Q 22 [l0, l1, l2] (zR (G.2.2.2 r 3) :: st) G h k) := E_getR (by rfl) rfl
theorem e176_22 : zE 176 d Q 22 [l0, l1, l2] (zR (some r) :: st) G h k ↔ (G.2.1 r = 8 ∧ zE 176 d Q 25 [l0, l1, l2] (zR (G.2.2.2 r 9) :: st) G h k) := E_getR (by rfl) rfl
theorem e176_25 : zE 176 d Q 25 [some (.inr (.inr w9)), l1, l2] st G h k ↔ zE 176 d Q 26 [some (.inr (.inr w9)), l1, l2] (.inr (.inr w9) :: st) G h k := E_aload_n (by rfl) rfl
theorem e176_26 : zE 176 d Q 26 [some (.inr (.inr w9)), l1, l2] st G h k ↔ zE 176 d Q 27 [some (.inr (.inr w9)), l1, l2] (.inr (.inr w9) :: st) G h k := E_aload_n (by rfl) rfl
theorem e176_27 : zE 176 d Q 27 [l0, some (zI x), l2] st G h k ↔ zE 176 d Q 28 [l0, some (zI x), l2] (zI x :: st) G h k := E_iload_n (by rfl) rfl
theorem e176_28 : zE 176 d Q 28 [l0, l1, some (zI x)] st G h k ↔ zE 176 d Q 29 [l0, l1, some (zI x)] (zI x :: st) G h k := E_iload_n (by rfl) rfl
theorem e176_29 : zE 176 d Q 29 [l0, l1, l2] (v1 :: v0 :: zR (some r) :: st) G h k ↔ (zsum st ≤ 8 ∧ G.2.1 r = 9 ∧ zRunD ztb zmt' d 173 [zR (some r), v0, v1] G h (fun v G' h' => zE 176 d Q 32 [l0, l1, l2] (v.toList ++ st) G' h' k)) := E_invV2z (by rfl) (by decide) rfl
theorem e176_32 : zE 176 d Q 32 [l0, l1, l2] (v0 :: zR (some r) :: st) G h k ↔ (zsum st ≤ 8 ∧ G.2.1 r = 9 ∧ zRunD ztb zmt' d 174 [zR (some r), v0] G h (fun v G' h' => zE 176 d Q 35 [l0, l1, l2] (v.toList ++ st) G' h' k)) := E_invV2z (by rfl) (by decide) rfl
theorem e176_35 : zE 176 d Q 35 [l0, l1, l2] (zI i :: zR (some r) :: st) G h k ↔ (G.2.1 r = 10 ∧ (0 ≤ i ∧ i < G.2.2.1 r) ∧ zE 176 d Q 36 [l0, l1, l2] (zI (h r i.toNat) :: st) G h k) := E_iaload (by rfl)
theorem e176_36 : zE 176 d Q 36 [l0, l1, l2] (zI x :: zI i :: zR (some r) :: st) G h k ↔ (G.2.1 r = 10 ∧ (0 ≤ i ∧ i < G.2.2.1 r) ∧ zE 176 d Q 37 [l0, l1, l2] st G (zu h r i.toNat x) k) := E_iastore (by rfl)
theorem e176_37 : zE 176 d Q 37 [some (.inr (.inr w9)), l1, l2] st G h k ↔ zE 176 d Q 38 [some (.inr (.inr w9)), l1, l2] (.inr (.inr w9) :: st) G h k := E_aload_n (by rfl) rfl
theorem e176_38 : zE 176 d Q 38 [l0, l1, l2] (zR (some r) :: st) G h k ↔ (G.2.1 r = 9 ∧ zE 176 d Q 41 [l0, l1, l2] (zR (G.2.2.2 r 24) :: st) G h k) := E_getR (by rfl) rfl
theorem e176_41 : zE 176 d Q 41 [l0, l1, some (zI x)] st G h k ↔ zE 176 d Q 42 [l0, l1, some (zI x)] (zI x :: st) G h k := E_iload_n (by rfl) rfl
theorem e176_42 : zE 176 d Q 42 [some (.inr (.inr w9)), l1, l2] st G h k ↔ zE 176 d Q 43 [some (.inr (.inr w9)), l1, l2] (.inr (.inr w9) :: st) G h k := E_aload_n (by rfl) rfl
theorem e176_43 : zE 176 d Q 43 [l0, l1, l2] (zR (some r) :: st) G h k ↔ (G.2.1 r = 9 ∧ zE 176 d Q 46 [l0, l1, l2] (zR (G.2.2.2 r 3) :: st) G h k) := E_getR (by rfl) rfl
theorem e176_46 : zE 176 d Q 46 [l0, l1, l2] (zR (some r) :: st) G h k ↔ (G.2.1 r = 8 ∧ zE 176 d Q 49 [l0, l1, l2] (zR (G.2.2.2 r 9) :: st) G h k) := E_getR (by rfl) rfl
theorem e176_49 : zE 176 d Q 49 [some (.inr (.inr w9)), l1, l2] st G h k ↔ zE 176 d Q 50 [some (.inr (.inr w9)), l1, l2] (.inr (.inr w9) :: st) G h k := E_aload_n (by rfl) rfl
theorem e176_50 : zE 176 d Q 50 [some (.inr (.inr w9)), l1, l2] st G h k ↔ zE 176 d Q 51 [some (.inr (.inr w9)), l1, l2] (.inr (.inr w9) :: st) G h k := E_aload_n (by rfl) rfl
theorem e176_51 : zE 176 d Q 51 [l0, some (zI x), l2] st G h k ↔ zE 176 d Q 52 [l0, some (zI x), l2] (zI x :: st) G h k := E_iload_n (by rfl) rfl
theorem e176_52 : zE 176 d Q 52 [l0, l1, some (zI x)] st G h k ↔ zE 176 d Q 53 [l0, l1, some (zI x)] (zI x :: st) G h k := E_iload_n (by rfl) rfl
theorem e176_53 : zE 176 d Q 53 [l0, l1, l2] (v1 :: v0 :: zR (some r) :: st) G h k ↔ (zsum st ≤ 8 ∧ G.2.1 r = 9 ∧ zRunD ztb zmt' d 173 [zR (some r), v0, v1] G h (fun v G' h' => zE 176 d Q 56 [l0, l1, l2] (v.toList ++ st) G' h' k)) := E_invV2z (by rfl) (by decide) rfl
theorem e176_56 : zE 176 d Q 56 [l0, l1, l2] (v0 :: zR (some r) :: st) G h k ↔ (zsum st ≤ 8 ∧ G.2.1 r = 9 ∧ zRunD ztb zmt' d 175 [zR (some r), v0] G h (fun v G' h' => zE 176 d Q 59 [l0, l1, l2] (v.toList ++ st) G' h' k)) := E_invV2z (by rfl) (by decide) rfl
theorem e176_59 : zE 176 d Q 59 [l0, l1, l2] (zI i :: zR (some r) :: st) G h k ↔ (G.2.1 r = 10 ∧ (0 ≤ i ∧ i < G.2.2.1 r) ∧ zE 176 d Q 60 [l0, l1, l2] (zI (h r i.toNat) :: st) G h k) := E_iaload (by rfl)
theorem e176_60 : zE 176 d Q 60 [l0, l1, l2] (zI x :: zI i :: zR (some r) :: st) G h k ↔ (G.2.1 r = 10 ∧ (0 ≤ i ∧ i < G.2.2.1 r) ∧ zE 176 d Q 61 [l0, l1, l2] st G (zu h r i.toNat x) k) := E_iastore (by rfl)
theorem e176_61 : zE 176 d Q 61 [l0, l1, some (zI x)] st G h k ↔ zE 176 d Q 64 [l0, (zclr l1), some (zI (wr (x + 1)))] st G h k := E_iinc (by rfl) rfl
theorem e176_64 : zE 176 d Q 64 [l0, l1, l2] st G h k ↔ zE 176 d Q 2 [l0, l1, l2] st G h k := E_goto (by rfl)
theorem e176_67 : zE 176 d Q 67 [l0, l1, l2] [] G h k ↔ Q none G h := E_vret (by rfl) rfl
theorem e177_0 : zE 177 d Q 0 [some (zI x), l1, l2] st G h k ↔ zE 177 d Q 1 [some (zI x), l1, l2] (zI x :: st) G h k := E_iload_n (by rfl) rfl
theorem e177_1 : zE 177 d Q 1 [l0, l1, l2] st G h k ↔ zE 177 d Q 4 [l0, l1, l2] (zI 729 :: st) G h k := E_sipush (by rfl)
theorem e177_4 : zE 177 d Q 4 [l0, l1, l2] (zI y :: zI x :: st) G h k ↔ zE 177 d Q 5 [l0, l1, l2] (zI (wr (x * y)) :: st) G h k := E_imul (by rfl)
theorem e177_5 : zE 177 d Q 5 [l0, some (zI x), l2] st G h k ↔ zE 177 d Q 6 [l0, some (zI x), l2] (zI x :: st) G h k := E_iload_n (by rfl) rfl
theorem e177_6 : zE 177 d Q 6 [l0, l1, l2] (zI y :: zI x :: st) G h k ↔ zE 177 d Q 7 [l0, l1, l2] (zI (wr (x + y)) :: st) G h k := E_iadd (by rfl)
theorem e177_7 : zE 177 d Q 7 [l0, l1, l2] st G h k ↔ zE 177 d Q 8 [l0, l1, l2] (zI 3 :: st) G h k := E_iconst (by rfl)
theorem e177_8 : zE 177 d Q 8 [l0, l1, l2] (zI y :: zI x :: st) G h k ↔ zE 177 d Q 9 [l0, l1, l2] (zI (wr (x * y)) :: st) G h k := E_imul (by rfl)
theorem e177_9 : zE 177 d Q 9 [l0, l1, some (zI x)] st G h k ↔ zE 177 d Q 10 [l0, l1, some (zI x)] (zI x :: st) G h k := E_iload_n (by rfl) rfl
theorem e177_10 : zE 177 d Q 10 [l0, l1, l2] (zI y :: zI x :: st) G h k ↔ zE 177 d Q 11 [l0, l1, l2] (zI (wr (x + y)) :: st) G h k := E_iadd (by rfl)
theorem e177_11 : zE 177 d Q 11 [l0, l1, l2] [zI x] G h k ↔ Q (some (zI x)) G h := E_iret (by rfl) rfl
theorem e178_0 : zE 178 d Q 0 [some (.inr (.inr w9)), l1, l2, l3, l4, l5, l6, l7, l8, l9, l10] st G h k ↔ zE 178 d Q 1 [some (.inr (.inr w9)), l1, l2, l3, l4, l5, l6, l7, l8, l9, l10] (.inr (.inr w9) :: st) G h k := E_aload_n (by rfl) rfl
theorem e178_1 : zE 178 d Q 1 [l0, l1, l2, some (zI x), l4, l5, l6, l7, l8, l9, l10] st G h k ↔ zE 178 d Q 2 [l0, l1, l2, some (zI x), l4, l5, l6, l7, l8, l9, l10] (zI x :: st) G h k := E_iload_n (by rfl) rfl
theorem e178_2 : zE 178 d Q 2 [l0, l1, l2, l3, l4, l5, l6, l7, l8, l9, l10] (v0 :: zR (some r) :: st) G h k ↔ (zsum st ≤ 8 ∧ G.2.1 r = 9 ∧ zRunD ztb zmt' d 172 [zR (some r), v0] G h (fun v G' h' => zE 178 d Q 5 [l0, l1, l2, l3, l4, l5, l6, l7, l8, l9, l10] (v.toList ++ st) G' h' k)) := E_invV2z (by rfl) (by decide) rfl
theorem e178_5 : zE 178 d Q 5 [l0, l1, l2, l3, l4, l5, l6, l7, l8, l9, l10] (zI x :: st) G h k ↔ zE 178 d Q 7 [l0, l1, l2, (zclr l3), some (zI x), l5, l6, l7, l8, l9, l10] st G h k := E_istore (by rfl) (by decide)
theorem e178_7 : zE 178 d Q 7 [l0, l1, some (zI x), l3, l4, l5, l6, l7, l8, l9, l10] st G h k ↔ zE 178 d Q 8 [l0, l1, some (zI x), l3, l4, l5, l6, l7, l8, l9, l10] (zI x :: st) G h k := E_iload_n (by rfl) rfl
theorem e178_8 : zE 178 d Q 8 [some (.inr (.inr w9)), l1, l2, l3, l4, l5, l6, l7, l8, l9, l10] st G h k ↔ zE 178 d Q 9 [some (.inr (.inr w9)), l1, l2, l3, l4, l5, l6, l7, l8, l9, l10] (.inr (.inr w9) :: st) G h k := E_aload_n (by rfl) rfl
theorem e178_9 : zE 178 d Q 9 [l0, l1, some (zI x), l3, l4, l5, l6, l7, l8, l9, l10] st G h k ↔ zE 178 d Q 10 [l0, l1, some (zI x), l3, l4, l5, l6, l7, l8, l9, l10] (zI x :: st) G h k := E_iload_n (by rfl) rfl
theorem e178_10 : zE 178 d Q 10 [l0, l1, l2, some (zI x), l4, l5, l6, l7, l8, l9, l10] st G h k ↔ zE 178 d Q 11 [l0, l1, l2, some (zI x), l4, l5, l6, l7, l8, l9, l10] (zI x :: st) G h k := E_iload_n (by rfl) rfl
theorem e178_11 : zE 178 d Q 11 [l0, l1, l2, l3, l4, l5, l6, l7, l8, l9, l10] (v1 :: v0 :: zR (some r) :: st) G h k ↔ (zsum st ≤ 8 ∧ G.2.1 r = 9 ∧ zRunD ztb zmt' d 173 [zR (some r), v0, v1] G h (fun v G' h' => zE 178 d Q 14 [l0, l1, l2, l3, l4, l5, l6, l7, l8, l9, l10] (v.toList ++ st) G' h' k)) := E_invV2z (by rfl) (by decide) rfl
theorem e178_14 : zE 178 d Q 14 [l0, l1, l2, l3, some (zI x), l5, l6, l7, l8, l9, l10] st G h k ↔ zE 178 d Q 16 [l0, l1, l2, l3, some (zI x), l5, l6, l7, l8, l9, l10] (zI x :: st) G h k := E_iload (by rfl) rfl
theorem e178_16 : zE 178 d Q 16 [l0, l1, l2, l3, l4, l5, l6, l7, l8, l9, l10] (zI y :: zI x :: st) G h k ↔ zE 178 d Q 17 [l0, l1, l2, l3, l4, l5, l6, l7, l8, l9, l10] (zI (wr (x * y)) :: st) G h k := E_imul (by rfl)
theorem e178_17 : zE 178 d Q 17 [l0, l1, l2, l3, l4, l5, l6, l7, l8, l9, l10] (zI y :: zI x :: st) G h k ↔ zE 178 d Q 18 [l0, l1, l2, l3, l4, l5, l6, l7, l8, l9, l10] (zI (wr (x - y)) :: st) G h k := E_isub (by rfl)
theorem e178_18 : zE 178 d Q 18 [l0, l1, l2, l3, l4, l5, l6, l7, l8, l9, l10] (zI x :: st) G h k ↔ zE 178 d Q 20 [l0, l1, l2, l3, (zclr l4), some (zI x), l6, l7, l8, l9, l10] st G h k := E_istore (by rfl) (by decide)
theorem e178_20 : zE 178 d Q 20 [some (.inr (.inr w9)), l1, l2, l3, l4, l5, l6, l7, l8, l9, l10] st G h k ↔ zE 178 d Q 21 [some (.inr (.inr w9)), l1, l2, l3, l4, l5, l6, l7, l8, l9, l10] (.inr (.inr w9) :: st) G h k := E_aload_n (by rfl) rfl
theorem e178_21 : zE 178 d Q 21 [l0, l1, l2, l3, l4, l5, l6, l7, l8, l9, l10] (zR (some r) :: st) G h k ↔ (G.2.1 r = 9 ∧ zE 178 d Q 24 [l0, l1, l2, l3, l4, l5, l6, l7, l8, l9, l10] (zR (G.2.2.2 r 42) :: st) G h k) := E_getR (by rfl) rfl
theorem e178_24 : zE 178 d Q 24 [l0, some (zI x), l2, l3, l4, l5, l6, l7, l8, l9, l10] st G h k ↔ zE 178 d Q 25 [l0, some (zI x), l2, l3, l4, l5, l6, l7, l8, l9, l10] (zI x :: st) G h k := E_iload_n (by rfl) rfl
theorem e178_25 : zE 178 d Q 25 [l0, l1, some (zI x), l3, l4, l5, l6, l7, l8, l9, l10] st G h k ↔ zE 178 d Q 26 [l0, l1, some (zI x), l3, l4, l5, l6, l7, l8, l9, l10] (zI x :: st) G h k := E_iload_n (by rfl) rfl
theorem e178_26 : zE 178 d Q 26 [l0, l1, l2, some (zI x), l4, l5, l6, l7, l8, l9, l10] st G h k ↔ zE 178 d Q 27 [l0, l1, l2, some (zI x), l4, l5, l6, l7, l8, l9, l10] (zI x :: st) G h k := E_iload_n (by rfl) rfl
theorem e178_27 : zE 178 d Q 27 [l0, l1, l2, l3, l4, l5, l6, l7, l8, l9, l10] (v2 :: v1 :: v0 :: st) G h k ↔ (zsum st ≤ 8 ∧ zRunD ztb zmt' d 177 [v0, v1, v2] G h (fun v G' h' => zE 178 d Q 30 [l0, l1, l2, l3, l4, l5, l6, l7, l8, l9, l10] (v.toList ++ st) G' h' k)) := E_invS2z (by rfl) (by decide) rfl
theorem e178_30 : zE 178 d Q 30 [l0, l1, l2, l3, l4, l5, l6, l7, l8, l9, l10] (zI i :: zR (some r) :: st) G h k ↔ (G.2.1 r = 11 ∧ (0 ≤ i ∧ i < G.2.2.1 r) ∧ zE 178 d Q 31 [l0, l1, l2, l3, l4, l5, l6, l7, l8, l9, l10] (zL (h r i.toNat) :: st) G h k) := E_laload (by rfl)
theorem e178_31 : zE 178 d Q 31 [l0, l1, l2, l3, l4, l5, l6, l7, l8, l9, l10] (zL x :: st) G h k ↔ zE 178 d Q 33 [l0, l1, l2, l3, l4, (zclr l5), some (zL x), none, l8, l9, l10] st G h k := E_lstore (by rfl) (by decide)
theorem e178_33 : zE 178 d Q 33 [l0, l1, l2, l3, l4, l5, l6, l7, l8, l9, l10] st G h k ↔ zE 178 d Q 34 [l0, l1, l2, l3, l4, l5, l6, l7, l8, l9, l10] (zI 0 :: st) G h k := E_iconst (by rfl)
theorem e178_34 : zE 178 d Q 34 [l0, l1, l2, l3, l4, l5, l6, l7, l8, l9, l10] (zI x :: st) G h k ↔ zE 178 d Q 36 [l0, l1, l2, l3, l4, l5, l6, (zclr l7), some (zI x), l9, l10] st G h k := E_istore (by rfl) (by decide)
theorem e178_36 : zE 178 d Q 36 [l0, l1, l2, l3, l4, l5, l6, l7, some (zI x), l9, l10] st G h k ↔ zE 178 d Q 38 [l0, l1, l2, l3, l4, l5, l6, l7, some (zI x), l9, l10] (zI x :: st) G h k := E_iload (by rfl) rfl
theorem e178_38 : zE 178 d Q 38 [some (.inr (.inr w9)), l1, l2, l3, l4, l5, l6, l7, l8, l9, l10] st G h k ↔ zE 178 d Q 39 [some (.inr (.inr w9)), l1, l2, l3, l4, l5, l6, l7, l8, l9, l10] (.inr (.inr w9) :: st) G h k := E_aload_n (by rfl) rfl
theorem e178_39 : zE 178 d Q 39 [l0, l1, l2, some (zI x), l4, l5, l6, l7, l8, l9, l10] st G h k ↔ zE 178 d Q 40 [l0, l1, l2, some (zI x), l4, l5, l6, l7, l8, l9, l10] (zI x :: st) G h k := E_iload_n (by rfl) rfl
theorem e178_40 : zE 178 d Q 40 [l0, l1, l2, l3, l4, l5, l6, l7, l8, l9, l10] (v0 :: zR (some r) :: st) G h k ↔ (zsum st ≤ 8 ∧ G.2.1 r = 9 ∧ zRunD ztb zmt' d 169 [zR (some r), v0] G h (fun v G' h' => zE 178 d Q 43 [l0, l1, l2, l3, l4, l5, l6, l7, l8, l9, l10] (v.toList ++ st) G' h' k)) := E_invV2z (by rfl) (by decide) rfl
theorem e178_43 : zE 178 d Q 43 [l0, l1, l2, l3, l4, l5, l6, l7, l8, l9, l10] (zI y :: zI x :: st) G h k ↔ ((y ≤ x → zE 178 d Q 89 [l0, l1, l2, l3, l4, l5, l6, l7, l8, l9, l10] st G h k) ∧ (¬ (y ≤ x) → zE 178 d Q 46 [l0, l1, l2, l3, l4, l5, l6, l7, l8, l9, l10] st G h k)) := E_icmp_ge (by rfl)
theorem e178_46 : zE 178 d Q 46 [some (.inr (.inr w9)), l1, l2, l3, l4, l5, l6, l7, l8, l9, l10] st G h k ↔ zE 178 d Q 47 [some (.inr (.inr w9)), l1, l2, l3, l4, l5, l6, l7, l8, l9, l10] (.inr (.inr w9) :: st) G h k := E_aload_n (by rfl) rfl
theorem e178_47 : zE 178 d Q 47 [l0, l1, l2, l3, l4, l5, l6, l7, l8, l9, l10] (zR (some r) :: st) G h k ↔ (G.2.1 r = 9 ∧ zE 178 d Q 50 [l0, l1, l2, l3, l4, l5, l6, l7, l8, l9, l10] (zR (G.2.2.2 r 42) :: st) G h k) := E_getR (by rfl) rfl
theorem e178_50 : zE 178 d Q 50 [l0, some (zI x), l2, l3, l4, l5, l6, l7, l8, l9, l10] st G h k ↔ zE 178 d Q 51 [l0, some (zI x), l2, l3, l4, l5, l6, l7, l8, l9, l10] (zI x :: st) G h k := E_iload_n (by rfl) rfl
theorem e178_51 : zE 178 d Q 51 [l0, l1, l2, l3, l4, some (zI x), l6, l7, l8, l9, l10] st G h k ↔ zE 178 d Q 53 [l0, l1, l2, l3, l4, some (zI x), l6, l7, l8, l9, l10] (zI x :: st) G h k := E_iload (by rfl) rfl
theorem e178_53 : zE 178 d Q 53 [l0, l1, l2, l3, l4, l5, l6, l7, some (zI x), l9, l10] st G h k ↔ zE 178 d Q 55 [l0, l1, l2, l3, l4, l5, l6, l7, some (zI x), l9, l10] (zI x :: st) G h k := E_iload (by rfl) rfl
theorem e178_55 : zE 178 d Q 55 [l0, l1, l2, l3, some (zI x), l5, l6, l7, l8, l9, l10] st G h k ↔ zE 178 d Q 57 [l0, l1, l2, l3, some (zI x), l5, l6, l7, l8, l9, l10] (zI x :: st) G h k := E_iload (by rfl) rfl
theorem e178_57 : zE 178 d Q 57 [l0, l1, l2, l3, l4, l5, l6, l7, l8, l9, l10] (zI y :: zI x :: st) G h k ↔ zE 178 d Q 58 [l0, l1, l2, l3, l4, l5, l6, l7, l8, l9, l10] (zI (wr (x * y)) :: st) G h k := E_imul (by rfl)
theorem e178_58 : zE 178 d Q 58 [l0, l1, l2, l3, l4, l5, l6, l7, l8, l9, l10] (zI y :: zI x :: st) G h k ↔ zE 178 d Q 59 [l0, l1, l2, l3, l4, l5, l6, l7, l8, l9, l10] (zI (wr (x + y)) :: st) G h k := E_iadd (by rfl)
theorem e178_59 : zE 178 d Q 59 [l0, l1, l2, some (zI x), l4, l5, l6, l7, l8, l9, l10] st G h k ↔ zE 178 d Q 60 [l0, l1, l2, some (zI x), l4, l5, l6, l7, l8, l9, l10] (zI x :: st) G h k := E_iload_n (by rfl) rfl
theorem e178_60 : zE 178 d Q 60 [l0, l1, l2, l3, l4, l5, l6, l7, l8, l9, l10] (v2 :: v1 :: v0 :: st) G h k ↔ (zsum st ≤ 8 ∧ zRunD ztb zmt' d 177 [v0, v1, v2] G h (fun v G' h' => zE 178 d Q 63 [l0, l1, l2, l3, l4, l5, l6, l7, l8, l9, l10] (v.toList ++ st) G' h' k)) := E_invS2z (by rfl) (by decide) rfl
theorem e178_63 : zE 178 d Q 63 [l0, l1, l2, l3, l4, l5, l6, l7, l8, l9, l10] (zI i :: zR (some r) :: st) G h k ↔ (G.2.1 r = 11 ∧ (0 ≤ i ∧ i < G.2.2.1 r) ∧ zE 178 d Q 64 [l0, l1, l2, l3, l4, l5, l6, l7, l8, l9, l10] (zL (h r i.toNat) :: st) G h k) := E_laload (by rfl)
theorem e178_64 : zE 178 d Q 64 [l0, l1, l2, l3, l4, l5, l6, l7, l8, l9, l10] (zL x :: st) G h k ↔ zE 178 d Q 66 [l0, l1, l2, l3, l4, l5, l6, l7, (zclr l8), some (zL x), none] st G h k := E_lstore (by rfl) (by decide)
theorem e178_66 : zE 178 d Q 66 [l0, l1, l2, l3, l4, l5, l6, l7, l8, some (zL x), l10] st G h k ↔ zE 178 d Q 68 [l0, l1, l2, l3, l4, l5, l6, l7, l8, some (zL x), l10] (zL x :: st) G h k := E_lload (by rfl) rfl
theorem e178_68 : zE 178 d Q 68 [l0, l1, l2, l3, l4, l5, some (zL x), l7, l8, l9, l10] st G h k ↔ zE 178 d Q 70 [l0, l1, l2, l3, l4, l5, some (zL x), l7, l8, l9, l10] (zL x :: st) G h k := E_lload (by rfl) rfl
theorem e178_70 : zE 178 d Q 70 [l0, l1, l2, l3, l4, l5, l6, l7, l8, l9, l10] (zL y :: zL x :: st) G h k ↔ zE 178 d Q 71 [l0, l1, l2, l3, l4, l5, l6, l7, l8, l9, l10] (zI (zlc x y) :: st) G h k := E_lcmp (by rfl)
theorem e178_71 : zE 178 d Q 71 [l0, l1, l2, l3, l4, l5, l6, l7, l8, l9, l10] (zI x :: st) G h k ↔ ((x ≤ 0 → zE 178 d Q 79 [l0, l1, l2, l3, l4, l5, l6, l7, l8, l9, l10] st G h k) ∧ (¬ (x ≤ 0) → zE 178 d Q 74 [l0, l1, l2, l3, l4, l5, l6, l7, l8, l9, l10] st G h k)) := E_if_le (by rfl)
theorem e178_74 : zE 178 d Q 74 [l0, l1, l2, l3, l4, l5, l6, l7, l8, some (zL x), l10] st G h k ↔ zE 178 d Q 76 [l0, l1, l2, l3, l4, l5, l6, l7, l8, some (zL x), l10] (zL x :: st) G h k := E_lload (by rfl) rfl
theorem e178_76 : zE 178 d Q 76 [l0, l1, l2, l3, l4, l5, l6, l7, l8, l9, l10] st G h k ↔ zE 178 d Q 81 [l0, l1, l2, l3, l4, l5, l6, l7, l8, l9, l10] st G h k := E_goto (by rfl)
theorem e178_79 : zE 178 d Q 79 [l0, l1, l2, l3, l4, l5, some (zL x), l7, l8, l9, l10] st G h k ↔ zE 178 d Q 81 [l0, l1, l2, l3, l4, l5, some (zL x), l7, l8, l9, l10] (zL x :: st) G h k := E_lload (by rfl) rfl
theorem e178_81 : zE 178 d Q 81 [l0, l1, l2, l3, l4, l5, l6, l7, l8, l9, l10] (zL x :: st) G h k ↔ zE 178 d Q 83 [l0, l1, l2, l3, l4, (zclr l5), some (zL x), none, l8, l9, l10] st G h k := E_lstore (by rfl) (by decide)
theorem e178_83 : zE 178 d Q 83 [l0, l1, l2, l3, l4, l5, l6, l7, some (zI x), l9, l10] st G h k ↔ zE 178 d Q 86 [l0, l1, l2, l3, l4, l5, l6, (zclr l7), some (zI (wr (x + 1))), l9, l10] st G h k := E_iinc (by rfl) rfl
theorem e178_86 : zE 178 d Q 86 [l0, l1, l2, l3, l4, l5, l6, l7, l8, l9, l10] st G h k ↔ zE 178 d Q 36 [l0, l1, l2, l3, l4, l5, l6, l7, l8, l9, l10] st G h k := E_goto (by rfl)
theorem e178_89 : zE 178 d Q 89 [l0, l1, l2, l3, l4, l5, some (zL x), l7, l8, l9, l10] st G h k ↔ zE 178 d Q 91 [l0, l1, l2, l3, l4, l5, some (zL x), l7, l8, l9, l10] (zL x :: st) G h k := E_lload (by rfl) rfl
theorem e178_91 : zE 178 d Q 91 [some (.inr (.inr w9)), l1, l2, l3, l4, l5, l6, l7, l8, l9, l10] st G h k ↔ zE 178 d Q 92 [some (.inr (.inr w9)), l1, l2, l3, l4, l5, l6, l7, l8, l9, l10] (.inr (.inr w9) :: st) G h k := E_aload_n (by rfl) rfl
theorem e178_92 : zE 178 d Q 92 [l0, l1, l2, l3, l4, l5, l6, l7, l8, l9, l10] (zR (some r) :: st) G h k ↔ (G.2.1 r = 9 ∧ zE 178 d Q 95 [l0, l1, l2, l3, l4, l5, l6, l7, l8, l9, l10] (zR (G.2.2.2 r 42) :: st) G h k) := E_getR (by rfl) rfl
theorem e178_95 : zE 178 d Q 95 [l0, some (zI x), l2, l3, l4, l5, l6, l7, l8, l9, l10] st G h k ↔ zE 178 d Q 96 [l0, some (zI x), l2, l3, l4, l5, l6, l7, l8, l9, l10] (zI x :: st) G h k := E_iload_n (by rfl) rfl
theorem e178_96 : zE 178 d Q 96 [l0, l1, some (zI x), l3, l4, l5, l6, l7, l8, l9, l10] st G h k ↔ zE 178 d Q 97 [l0, l1, some (zI x), l3, l4, l5, l6, l7, l8, l9, l10] (zI x :: st) G h k := E_iload_n (by rfl) rfl
theorem e178_97 : zE 178 d Q 97 [l0, l1, l2, some (zI x), l4, l5, l6, l7, l8, l9, l10] st G h k ↔ zE 178 d Q 98 [l0, l1, l2, some (zI x), l4, l5, l6, l7, l8, l9, l10] (zI x :: st) G h k := E_iload_n (by rfl) rfl
theorem e178_98 : zE 178 d Q 98 [l0, l1, l2, l3, l4, l5, l6, l7, l8, l9, l10] (v2 :: v1 :: v0 :: st) G h k ↔ (zsum st ≤ 8 ∧ zRunD ztb zmt' d 177 [v0, v1, v2] G h (fun v G' h' => zE 178 d Q 101 [l0, l1, l2, l3, l4, l5, l6, l7, l8, l9, l10] (v.toList ++ st) G' h' k)) := E_invS2z (by rfl) (by decide) rfl
theorem e178_101 : zE 178 d Q 101 [l0, l1, l2, l3, l4, l5, l6, l7, l8, l9, l10] (zI i :: zR (some r) :: st) G h k ↔ (G.2.1 r = 11 ∧ (0 ≤ i ∧ i < G.2.2.1 r) ∧ zE 178 d Q 102 [l0, l1, l2, l3, l4, l5, l6, l7, l8, l9, l10] (zL (h r i.toNat) :: st) G h k) := E_laload (by rfl)
theorem e178_102 : zE 178 d Q 102 [l0, l1, l2, l3, l4, l5, l6, l7, l8, l9, l10] (zL y :: zL x :: st) G h k ↔ zE 178 d Q 103 [l0, l1, l2, l3, l4, l5, l6, l7, l8, l9, l10] (zL (wl (x - y)) :: st) G h k := E_lsub (by rfl)
theorem e178_103 : zE 178 d Q 103 [l0, l1, l2, l3, l4, l5, l6, l7, l8, l9, l10] [zL x] G h k ↔ Q (some (zL x)) G h := E_lret (by rfl) rfl
theorem e179_0 : zE 179 d Q 0 [some (.inr (.inr w9)), l1, l2, l3, l4, l5, l6, l7, l8, l9, l10, l11] st G h k ↔ zE 179 d Q 1 [some (.inr (.inr w9)), l1, l2, l3, l4, l5, l6, l7, l8, l9, l10, l11] (.inr (.inr w9) :: st) G h k := E_aload_n (by rfl) rfl
theorem e179_1 : zE 179 d Q 1 [l0, l1, l2, l3, l4, l5, l6, l7, l8, l9, l10, l11] (zR (some r) :: st) G h k ↔ (zsum st ≤ 8 ∧ G.2.1 r = 9 ∧ zRunD ztb zmt' d 170 [zR (some r)] G h (fun v G' h' => zE 179 d Q 4 [l0, l1, l2, l3, l4, l5, l6, l7, l8, l9, l10, l11] (v.toList ++ st) G' h' k)) := E_invV2z (by rfl) (by decide) rfl
theorem e179_4 : zE 179 d Q 4 [l0, l1, l2, l3, l4, l5, l6, l7, l8, l9, l10, l11] (zI x :: st) G h k ↔ zE 179 d Q 5 [l0, (zclr l1), some (zI x), l3, l4, l5, l6, l7, l8, l9, l10, l11] st G h k := E_istore_n (by rfl) (by decide)
theorem e179_5 : zE 179 d Q 5 [l0, l1, l2, l3, l4, l5, l6, l7, l8, l9, l10, l11] st G h k ↔ zE 179 d Q 6 [l0, l1, l2, l3, l4, l5, l6, l7, l8, l9, l10, l11] (zI 0 :: st) G h k := E_iconst (by rfl)
theorem e179_6 : zE 179 d Q 6 [l0, l1, l2, l3, l4, l5, l6, l7, l8, l9, l10, l11] (zI x :: st) G h k ↔ zE 179 d Q 7 [l0, l1, (zclr l2), some (zI x), l4, l5, l6, l7, l8, l9, l10, l11] st G h k := E_istore_n (by rfl) (by decide)
theorem e179_7 : zE 179 d Q 7 [l0, l1, l2, l3, l4, l5, l6, l7, l8, l9, l10, l11] st G h k ↔ zE 179 d Q 10 [l0, l1, l2, l3, l4, l5, l6, l7, l8, l9, l10, l11] (zL (-1) :: st) G h k := E_ldc2_w (by rfl)
theorem e179_10 : zE 179 d Q 10 [l0, l1, l2, l3, l4, l5, l6, l7, l8, l9, l10, l11] (zL x :: st) G h k ↔ zE 179 d Q 12 [l0, l1, l2, (zclr l3), some (zL x), none, l6, l7, l8, l9, l10, l11] st G h k := E_lstore (by rfl) (by decide)
theorem e179_12 : zE 179 d Q 12 [l0, l1, l2, l3, l4, l5, l6, l7, l8, l9, l10, l11] st G h k ↔ zE 179 d Q 13 [l0, l1, l2, l3, l4, l5, l6, l7, l8, l9, l10, l11] (zI 0 :: st) G h k := E_iconst (by rfl)
theorem e179_13 : zE 179 d Q 13 [l0, l1, l2, l3, l4, l5, l6, l7, l8, l9, l10, l11] (zI x :: st) G h k ↔ zE 179 d Q 15 [l0, l1, l2, l3, l4, (zclr l5), some (zI x), l7, l8, l9, l10, l11] st G h k := E_istore (by rfl) (by decide)
theorem e179_15 : zE 179 d Q 15 [l0, l1, l2, l3, l4, l5, some (zI x), l7, l8, l9, l10, l11] st G h k ↔ zE 179 d Q 17 [l0, l1, l2, l3, l4, l5, some (zI x), l7, l8, l9, l10, l11] (zI x :: st) G h k := E_iload (by rfl) rfl
theorem e179_17 : zE 179 d Q 17 [l0, l1, some (zI x), l3, l4, l5, l6, l7, l8, l9, l10, l11] st G h k ↔ zE 179 d Q 18 [l0, l1, some (zI x), l3, l4, l5, l6, l7, l8, l9, l10, l11] (zI x :: st) G h k := E_iload_n (by rfl) rfl
theorem e179_18 : zE 179 d Q 18 [l0, l1, l2, l3, l4, l5, l6, l7, l8, l9, l10, l11] (zI y :: zI x :: st) G h k ↔ ((y ≤ x → zE 179 d Q 111 [l0, l1, l2, l3, l4, l5, l6, l7, l8, l9, l10, l11] st G h k) ∧ (¬ (y ≤ x) → zE 179 d Q 21 [l0, l1, l2, l3, l4, l5, l6, l7, l8, l9, l10, l11] st G h k)) := E_icmp_ge (by rfl)
theorem e179_21 : zE 179 d Q 21 [l0, l1, l2, l3, some (zL x), l5, l6, l7, l8, l9, l10, l11] st G h k ↔ zE 179 d Q 23 [l0, l1, l2, l3, some (zL x), l5, l6, l7, l8, l9, l10, l11] (zL x :: st) G h k := E_lload (by rfl) rfl
theorem e179_23 : zE 179 d Q 23 [l0, l1, l2, l3, l4, l5, l6, l7, l8, l9, l10, l11] st G h k ↔ zE 179 d Q 24 [l0, l1, l2, l3, l4, l5, l6, l7, l8, l9, l10, l11] (zL 0 :: st) G h k := E_lconst (by rfl)
theorem e179_24 : zE 179 d Q 24 [l0, l1, l2, l3, l4, l5, l6, l7, l8, l9, l10, l11] (zL y :: zL x :: st) G h k ↔ zE 179 d Q 25 [l0, l1, l2, l3, l4, l5, l6, l7, l8, l9, l10, l11] (zI (zlc x y) :: st) G h k := E_lcmp (by rfl)
theorem e179_25 : zE 179 d Q 25 [l0, l1, l2, l3, l4, l5, l6, l7, l8, l9, l10, l11] (zI x :: st) G h k ↔ ((x = 0 → zE 179 d Q 111 [l0, l1, l2, l3, l4, l5, l6, l7, l8, l9, l10, l11] st G h k) ∧ (¬ (x = 0) → zE 179 d Q 28 [l0, l1, l2, l3, l4, l5, l6, l7, l8, l9, l10, l11] st G h k)) := E_if_eq (by rfl)
theorem e179_28 : zE 179 d Q 28 [l0, l1, l2, l3, l4, l5, l6, l7, l8, l9, l10, l11] st G h k ↔ zE 179 d Q 29 [l0, l1, l2, l3, l4, l5, l6, l7, l8, l9, l10, l11] (zL 0 :: st) G h k := E_lconst (by rfl)
theorem e179_29 : zE 179 d Q 29 [l0, l1, l2, l3, l4, l5, l6, l7, l8, l9, l10, l11] (zL x :: st) G h k ↔ zE 179 d Q 31 [l0, l1, l2, l3, l4, l5, (zclr l6), some (zL x), none, l9, l10, l11] st G h k := E_lstore (by rfl) (by decide)
theorem e179_31 : zE 179 d Q 31 [l0, l1, l2, l3, l4, l5, l6, l7, l8, l9, l10, l11] st G h k ↔ zE 179 d Q 32 [l0, l1, l2, l3, l4, l5, l6, l7, l8, l9, l10, l11] (zI 0 :: st) G h k := E_iconst (by rfl)
theorem e179_32 : zE 179 d Q 32 [l0, l1, l2, l3, l4, l5, l6, l7, l8, l9, l10, l11] (zI x :: st) G h k ↔ zE 179 d Q 34 [l0, l1, l2, l3, l4, l5, l6, l7, (zclr l8), some (zI x), l10, l11] st G h k := E_istore (by rfl) (by decide)
theorem e179_34 : zE 179 d Q 34 [l0, l1, l2, l3, l4, l5, l6, l7, l8, some (zI x), l10, l11] st G h k ↔ zE 179 d Q 36 [l0, l1, l2, l3, l4, l5, l6, l7, l8, some (zI x), l10, l11] (zI x :: st) G h k := E_iload (by rfl) rfl
theorem e179_36 : zE 179 d Q 36 [some (.inr (.inr w9)), l1, l2, l3, l4, l5, l6, l7, l8, l9, l10, l11] st G h k ↔ zE 179 d Q 37 [some (.inr (.inr w9)), l1, l2, l3, l4, l5, l6, l7, l8, l9, l10, l11] (.inr (.inr w9) :: st) G h k := E_aload_n (by rfl) rfl
theorem e179_37 : zE 179 d Q 37 [l0, l1, l2, l3, l4, l5, l6, l7, l8, l9, l10, l11] (zR (some r) :: st) G h k ↔ (G.2.1 r = 9 ∧ zE 179 d Q 40 [l0, l1, l2, l3, l4, l5, l6, l7, l8, l9, l10, l11] (zR (G.2.2.2 r 3) :: st) G h k) := E_getR (by rfl) rfl
theorem e179_40 : zE 179 d Q 40 [l0, l1, l2, l3, l4, l5, l6, l7, l8, l9, l10, l11] (zR (some r) :: st) G h k ↔ (G.2.1 r = 8 ∧ zE 179 d Q 43 [l0, l1, l2, l3, l4, l5, l6, l7, l8, l9, l10, l11] (zI (h r 0) :: st) G h k) := E_getI (by rfl) (by decide)
theorem e179_43 : zE 179 d Q 43 [l0, l1, l2, l3, l4, l5, l6, l7, l8, l9, l10, l11] (zI y :: zI x :: st) G h k ↔ ((y ≤ x → zE 179 d Q 80 [l0, l1, l2, l3, l4, l5, l6, l7, l8, l9, l10, l11] st G h k) ∧ (¬ (y ≤ x) → zE 179 d Q 46 [l0, l1, l2, l3, l4, l5, l6, l7, l8, l9, l10, l11] st G h k)) := E_icmp_ge (by rfl)
theorem e179_46 : zE 179 d Q 46 [some (.inr (.inr w9)), l1, l2, l3, l4, l5, l6, l7, l8, l9, l10, l11] st G h k ↔ zE 179 d Q 47 [some (.inr (.inr w9)), l1, l2, l3, l4, l5, l6, l7, l8, l9, l10, l11] (.inr (.inr w9) :: st) G h k := E_aload_n (by rfl) rfl
theorem e179_47 : zE 179 d Q 47 [l0, some (zI x), l2, l3, l4, l5, l6, l7, l8, l9, l10, l11] st G h k ↔ zE 179 d Q 48 [l0, some (zI x), l2, l3, l4, l5, l6, l7, l8, l9, l10, l11] (zI x :: st) G h k := E_iload_n (by rfl) rfl
theorem e179_48 : zE 179 d Q 48 [l0, l1, l2, l3, l4, l5, some (zI x), l7, l8, l9, l10, l11] st G h k ↔ zE 179 d Q 50 [l0, l1, l2, l3, l4, l5, some (zI x), l7, l8, l9, l10, l11] (zI x :: st) G h k := E_iload (by rfl) rfl
theorem e179_50 : zE 179 d Q 50 [l0, l1, l2, l3, l4, l5, l6, l7, l8, some (zI x), l10, l11] st G h k ↔ zE 179 d Q 52 [l0, l1, l2, l3, l4, l5, l6, l7, l8, some (zI x), l10, l11] (zI x :: st) G h k := E_iload (by rfl) rfl
theorem e179_52 : zE 179 d Q 52 [l0, l1, l2, l3, l4, l5, l6, l7, l8, l9, l10, l11] (v2 :: v1 :: v0 :: zR (some r) :: st) G h k ↔ (zsum st ≤ 8 ∧ G.2.1 r = 9 ∧ zRunD ztb zmt' d 178 [zR (some r), v0, v1, v2] G h (fun v G' h' => zE 179 d Q 55 [l0, l1, l2, l3, l4, l5, l6, l7, l8, l9, l10, l11] (v.toList ++ st) G' h' k)) := E_invV2z (by rfl) (by decide) rfl
theorem e179_55 : zE 179 d Q 55 [l0, l1, l2, l3, l4, l5, l6, l7, l8, l9, l10, l11] (zL x :: st) G h k ↔ zE 179 d Q 57 [l0, l1, l2, l3, l4, l5, l6, l7, l8, (zclr l9), some (zL x), none] st G h k := E_lstore (by rfl) (by decide)
theorem e179_57 : zE 179 d Q 57 [l0, l1, l2, l3, l4, l5, l6, l7, l8, l9, some (zL x), l11] st G h k ↔ zE 179 d Q 59 [l0, l1, l2, l3, l4, l5, l6, l7, l8, l9, some (zL x), l11] (zL x :: st) G h k := E_lload (by rfl) rfl
theorem e179_59 : zE 179 d Q 59 [l0, l1, l2, l3, l4, l5, l6, some (zL x), l8, l9, l10, l11] st G h k ↔ zE 179 d Q 61 [l0, l1, l2, l3, l4, l5, l6, some (zL x), l8, l9, l10, l11] (zL x :: st) G h k := E_lload (by rfl) rfl
theorem e179_61 : zE 179 d Q 61 [l0, l1, l2, l3, l4, l5, l6, l7, l8, l9, l10, l11] (zL y :: zL x :: st) G h k ↔ zE 179 d Q 62 [l0, l1, l2, l3, l4, l5, l6, l7, l8, l9, l10, l11] (zI (zlc x y) :: st) G h k := E_lcmp (by rfl)
theorem e179_62 : zE 179 d Q 62 [l0, l1, l2, l3, l4, l5, l6, l7, l8, l9, l10, l11] (zI x :: st) G h k ↔ ((x ≤ 0 → zE 179 d Q 70 [l0, l1, l2, l3, l4, l5, l6, l7, l8, l9, l10, l11] st G h k) ∧ (¬ (x ≤ 0) → zE 179 d Q 65 [l0, l1, l2, l3, l4, l5, l6, l7, l8, l9, l10, l11] st G h k)) := E_if_le (by rfl)
theorem e179_65 : zE 179 d Q 65 [l0, l1, l2, l3, l4, l5, l6, l7, l8, l9, some (zL x), l11] st G h k ↔ zE 179 d Q 67 [l0, l1, l2, l3, l4, l5, l6, l7, l8, l9, some (zL x), l11] (zL x :: st) G h k := E_lload (by rfl) rfl
theorem e179_67 : zE 179 d Q 67 [l0, l1, l2, l3, l4, l5, l6, l7, l8, l9, l10, l11] st G h k ↔ zE 179 d Q 72 [l0, l1, l2, l3, l4, l5, l6, l7, l8, l9, l10, l11] st G h k := E_goto (by rfl)
theorem e179_70 : zE 179 d Q 70 [l0, l1, l2, l3, l4, l5, l6, some (zL x), l8, l9, l10, l11] st G h k ↔ zE 179 d Q 72 [l0, l1, l2, l3, l4, l5, l6, some (zL x), l8, l9, l10, l11] (zL x :: st) G h k := E_lload (by rfl) rfl
theorem e179_72 : zE 179 d Q 72 [l0, l1, l2, l3, l4, l5, l6, l7, l8, l9, l10, l11] (zL x :: st) G h k ↔ zE 179 d Q 74 [l0, l1, l2, l3, l4, l5, (zclr l6), some (zL x), none, l9, l10, l11] st G h k := E_lstore (by rfl) (by decide)
theorem e179_74 : zE 179 d Q 74 [l0, l1, l2, l3, l4, l5, l6, l7, l8, some (zI x), l10, l11] st G h k ↔ zE 179 d Q 77 [l0, l1, l2, l3, l4, l5, l6, l7, (zclr l8), some (zI (wr (x + 1))), l10, l11] st G h k := E_iinc (by rfl) rfl
theorem e179_77 : zE 179 d Q 77 [l0, l1, l2, l3, l4, l5, l6, l7, l8, l9, l10, l11] st G h k ↔ zE 179 d Q 34 [l0, l1, l2, l3, l4, l5, l6, l7, l8, l9, l10, l11] st G h k := E_goto (by rfl)
theorem e179_80 : zE 179 d Q 80 [l0, l1, l2, l3, some (zL x), l5, l6, l7, l8, l9, l10, l11] st G h k ↔ zE 179 d Q 82 [l0, l1, l2, l3, some (zL x), l5, l6, l7, l8, l9, l10, l11] (zL x :: st) G h k := E_lload (by rfl) rfl
theorem e179_82 : zE 179 d Q 82 [l0, l1, l2, l3, l4, l5, l6, l7, l8, l9, l10, l11] st G h k ↔ zE 179 d Q 83 [l0, l1, l2, l3, l4, l5, l6, l7, l8, l9, l10, l11] (zL 0 :: st) G h k := E_lconst (by rfl)
theorem e179_83 : zE 179 d Q 83 [l0, l1, l2, l3, l4, l5, l6, l7, l8, l9, l10, l11] (zL y :: zL x :: st) G h k ↔ zE 179 d Q 84 [l0, l1, l2, l3, l4, l5, l6, l7, l8, l9, l10, l11] (zI (zlc x y) :: st) G h k := E_lcmp (by rfl)
theorem e179_84 : zE 179 d Q 84 [l0, l1, l2, l3, l4, l5, l6, l7, l8, l9, l10, l11] (zI x :: st) G h k ↔ ((x < 0 → zE 179 d Q 98 [l0, l1, l2, l3, l4, l5, l6, l7, l8, l9, l10, l11] st G h k) ∧ (¬ (x < 0) → zE 179 d Q 87 [l0, l1, l2, l3, l4, l5, l6, l7, l8, l9, l10, l11] st G h k)) := E_if_lt (by rfl)
theorem e179_87 : zE 179 d Q 87 [l0, l1, l2, l3, l4, l5, l6, some (zL x), l8, l9, l10, l11] st G h k ↔ zE 179 d Q 89 [l0, l1, l2, l3, l4, l5, l6, some (zL x), l8, l9, l10, l11] (zL x :: st) G h k := E_lload (by rfl) rfl
theorem e179_89 : zE 179 d Q 89 [l0, l1, l2, l3, some (zL x), l5, l6, l7, l8, l9, l10, l11] st G h k ↔ zE 179 d Q 91 [l0, l1, l2, l3, some (zL x), l5, l6, l7, l8, l9, l10, l11] (zL x :: st) G h k := E_lload (by rfl) rfl
theorem e179_91 : zE 179 d Q 91 [l0, l1, l2, l3, l4, l5, l6, l7, l8, l9, l10, l11] (zL y :: zL x :: st) G h k ↔ zE 179 d Q 92 [l0, l1, l2, l3, l4, l5, l6, l7, l8, l9, l10, l11] (zI (zlc x y) :: st) G h k := E_lcmp (by rfl)
theorem e179_92 : zE 179 d Q 92 [l0, l1, l2, l3, l4, l5, l6, l7, l8, l9, l10, l11] (zI x :: st) G h k ↔ ((x < 0 → zE 179 d Q 98 [l0, l1, l2, l3, l4, l5, l6, l7, l8, l9, l10, l11] st G h k) ∧ (¬ (x < 0) → zE 179 d Q 95 [l0, l1, l2, l3, l4, l5, l6, l7, l8, l9, l10, l11] st G h k)) := E_if_lt (by rfl)
theorem e179_95 : zE 179 d Q 95 [l0, l1, l2, l3, l4, l5, l6, l7, l8, l9, l10, l11] st G h k ↔ zE 179 d Q 105 [l0, l1, l2, l3, l4, l5, l6, l7, l8, l9, l10, l11] st G h k := E_goto (by rfl)
theorem e179_98 : zE 179 d Q 98 [l0, l1, l2, l3, l4, l5, l6, some (zL x), l8, l9, l10, l11] st G h k ↔ zE 179 d Q 100 [l0, l1, l2, l3, l4, l5, l6, some (zL x), l8, l9, l10, l11] (zL x :: st) G h k := E_lload (by rfl) rfl
theorem e179_100 : zE 179 d Q 100 [l0, l1, l2, l3, l4, l5, l6, l7, l8, l9, l10, l11] (zL x :: st) G h k ↔ zE 179 d Q 102 [l0, l1, l2, (zclr l3), some (zL x), none, l6, l7, l8, l9, l10, l11] st G h k := E_lstore (by rfl) (by decide)
theorem e179_102 : zE 179 d Q 102 [l0, l1, l2, l3, l4, l5, some (zI x), l7, l8, l9, l10, l11] st G h k ↔ zE 179 d Q 104 [l0, l1, l2, l3, l4, l5, some (zI x), l7, l8, l9, l10, l11] (zI x :: st) G h k := E_iload (by rfl) rfl
theorem e179_104 : zE 179 d Q 104 [l0, l1, l2, l3, l4, l5, l6, l7, l8, l9, l10, l11] (zI x :: st) G h k ↔ zE 179 d Q 105 [l0, l1, (zclr l2), some (zI x), l4, l5, l6, l7, l8, l9, l10, l11] st G h k := E_istore_n (by rfl) (by decide)
theorem e179_105 : zE 179 d Q 105 [l0, l1, l2, l3, l4, l5, some (zI x), l7, l8, l9, l10, l11] st G h k ↔ zE 179 d Q 108 [l0, l1, l2, l3, l4, (zclr l5), some (zI (wr (x + 1))), l7, l8, l9, l10, l11] st G h k := E_iinc (by rfl) rfl
theorem e179_108 : zE 179 d Q 108 [l0, l1, l2, l3, l4, l5, l6, l7, l8, l9, l10, l11] st G h k ↔ zE 179 d Q 15 [l0, l1, l2, l3, l4, l5, l6, l7, l8, l9, l10, l11] st G h k := E_goto (by rfl)
theorem e179_111 : zE 179 d Q 111 [some (.inr (.inr w9)), l1, l2, l3, l4, l5, l6, l7, l8, l9, l10, l11] st G h k ↔ zE 179 d Q 112 [some (.inr (.inr w9)), l1, l2, l3, l4, l5, l6, l7, l8, l9, l10, l11] (.inr (.inr w9) :: st) G h k := E_aload_n (by rfl) rfl
theorem e179_112 : zE 179 d Q 112 [some (.inr (.inr w9)), l1, l2, l3, l4, l5, l6, l7, l8, l9, l10, l11] st G h k ↔ zE 179 d Q 113 [some (.inr (.inr w9)), l1, l2, l3, l4, l5, l6, l7, l8, l9, l10, l11] (.inr (.inr w9) :: st) G h k := E_aload_n (by rfl) rfl
theorem e179_113 : zE 179 d Q 113 [l0, l1, l2, l3, l4, l5, l6, l7, l8, l9, l10, l11] (zR (some r) :: st) G h k ↔ (G.2.1 r = 9 ∧ zE 179 d Q 116 [l0, l1, l2, l3, l4, l5, l6, l7, l8, l9, l10, l11] (zI (h r 43) :: st) G h k) := E_getI (by rfl) (by decide)
theorem e179_116 : zE 179 d Q 116 [l0, l1, l2, l3, l4, l5, l6, l7, l8, l9, l10, l11] (zI x :: st) G h k ↔ ((¬ x = 0 → zE 179 d Q 126 [l0, l1, l2, l3, l4, l5, l6, l7, l8, l9, l10, l11] st G h k) ∧ (¬ (¬ x = 0) → zE 179 d Q 119 [l0, l1, l2, l3, l4, l5, l6, l7, l8, l9, l10, l11] st G h k)) := E_if_ne (by rfl)
theorem e179_119 : zE 179 d Q 119 [l0, l1, l2, l3, some (zL x), l5, l6, l7, l8, l9, l10, l11] st G h k ↔ zE 179 d Q 121 [l0, l1, l2, l3, some (zL x), l5, l6, l7, l8, l9, l10, l11] (zL x :: st) G h k := E_lload (by rfl) rfl
theorem e179_121 : zE 179 d Q 121 [l0, l1, l2, l3, l4, l5, l6, l7, l8, l9, l10, l11] st G h k ↔ zE 179 d Q 122 [l0, l1, l2, l3, l4, l5, l6, l7, l8, l9, l10, l11] (zL 0 :: st) G h k := E_lconst (by rfl)
theorem e179_122 : zE 179 d Q 122 [l0, l1, l2, l3, l4, l5, l6, l7, l8, l9, l10, l11] (zL y :: zL x :: st) G h k ↔ zE 179 d Q 123 [l0, l1, l2, l3, l4, l5, l6, l7, l8, l9, l10, l11] (zI (zlc x y) :: st) G h k := E_lcmp (by rfl)
theorem e179_123 : zE 179 d Q 123 [l0, l1, l2, l3, l4, l5, l6, l7, l8, l9, l10, l11] (zI x :: st) G h k ↔ ((x ≤ 0 → zE 179 d Q 130 [l0, l1, l2, l3, l4, l5, l6, l7, l8, l9, l10, l11] st G h k) ∧ (¬ (x ≤ 0) → zE 179 d Q 126 [l0, l1, l2, l3, l4, l5, l6, l7, l8, l9, l10, l11] st G h k)) := E_if_le (by rfl)
theorem e179_126 : zE 179 d Q 126 [l0, l1, l2, l3, l4, l5, l6, l7, l8, l9, l10, l11] st G h k ↔ zE 179 d Q 127 [l0, l1, l2, l3, l4, l5, l6, l7, l8, l9, l10, l11] (zI 1 :: st) G h k := E_iconst (by rfl)
theorem e179_127 : zE 179 d Q 127 [l0, l1, l2, l3, l4, l5, l6, l7, l8, l9, l10, l11] st G h k ↔ zE 179 d Q 131 [l0, l1, l2, l3, l4, l5, l6, l7, l8, l9, l10, l11] st G h k := E_goto (by rfl)
theorem e179_130 : zE 179 d Q 130 [l0, l1, l2, l3, l4, l5, l6, l7, l8, l9, l10, l11] st G h k ↔ zE 179 d Q 131 [l0, l1, l2, l3, l4, l5, l6, l7, l8, l9, l10, l11] (zI 0 :: st) G h k := E_iconst (by rfl)
theorem e179_131 : zE 179 d Q 131 [l0, l1, l2, l3, l4, l5, l6, l7, l8, l9, l10, l11] (zI x :: zR (some r) :: st) G h k ↔ (G.2.1 r = 9 ∧ (x = 0 ∨ x = 1) ∧ zE 179 d Q 134 [l0, l1, l2, l3, l4, l5, l6, l7, l8, l9, l10, l11] st G (zu h r 43 x) k) := E_putZ (by rfl) rfl
theorem e179_134 : zE 179 d Q 134 [l0, l1, l2, some (zI x), l4, l5, l6, l7, l8, l9, l10, l11] st G h k ↔ zE 179 d Q 135 [l0, l1, l2, some (zI x), l4, l5, l6, l7, l8, l9, l10, l11] (zI x :: st) G h k := E_iload_n (by rfl) rfl
theorem e179_135 : zE 179 d Q 135 [l0, l1, l2, l3, l4, l5, l6, l7, l8, l9, l10, l11] [zI x] G h k ↔ Q (some (zI x)) G h := E_iret (by rfl) rfl
end SITES
