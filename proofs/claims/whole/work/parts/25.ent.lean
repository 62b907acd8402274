section BASE
variable {st : List zV} {x : Int} {w : Option Nat ⊕ Nat} {v : zV}
theorem zs0 : zsum [] = 0 := rfl
theorem zsI : zsum (zI x :: st) = 1 + zsum st := by simp [zsum, zcat]
theorem zsL : zsum (zL x :: st) = 2 + zsum st := by simp [zsum, zcat]
theorem zsR : zsum (.inr (.inr w) :: st) = 1 + zsum st := by simp [zsum, zcat]
theorem ztl1 : (some v).toList ++ st = v :: st := rfl
theorem ztl0 : (none : Option zV).toList ++ st = st := rfl
theorem zc0 : zclr none = none := rfl
theorem zcI : zclr (some (zI x)) = some (zI x) := rfl
theorem zcL : zclr (some (zL x)) = none := rfl
theorem zcR : zclr (some (.inr (.inr w))) = some (.inr (.inr w)) := rfl
theorem zarI {a b : Int} : (zI a = zI b) = (a = b) := by simp
theorem zarL {a b : Int} : (zL a = zL b) = (a = b) := by simp
theorem zarR {a b : Option Nat} : (zR a = zR b) = (a = b) := by simp
theorem zle {n : Nat} : (0 ≤ (n : Int)) = True := eq_true (Int.natCast_nonneg n)
theorem zq0 : ((0 : Nat) : Int) = 0 := rfl
theorem zq1 : ((1 : Nat) : Int) = 1 := rfl
theorem zq2 : ((2 : Nat) : Int) = 2 := rfl
theorem zq3 : ((3 : Nat) : Int) = 3 := rfl
theorem zq4 : ((4 : Nat) : Int) = 4 := rfl
theorem zq5 : ((5 : Nat) : Int) = 5 := rfl
theorem zq6 : ((6 : Nat) : Int) = 6 := rfl
theorem zq8 : ((8 : Nat) : Int) = 8 := rfl
theorem zq9 : ((9 : Nat) : Int) = 9 := rfl
theorem zq10 : ((10 : Nat) : Int) = 10 := rfl
theorem zq20 : ((20 : Nat) : Int) = 20 := rfl
theorem zq7 : ((7 : Nat) : Int) = 7 := rfl
theorem zq12 : ((12 : Nat) : Int) = 12 := rfl
theorem zq24 : ((24 : Nat) : Int) = 24 := rfl
theorem zq40 : ((40 : Nat) : Int) = 40 := rfl
theorem zq41 : ((41 : Nat) : Int) = 41 := rfl
theorem zq48 : ((48 : Nat) : Int) = 48 := rfl
theorem zq100 : ((100 : Nat) : Int) = 100 := rfl
theorem zq120 : ((120 : Nat) : Int) = 120 := rfl
theorem zq123 : ((123 : Nat) : Int) = 123 := rfl
theorem zq480 : ((480 : Nat) : Int) = 480 := rfl
theorem zq492 : ((492 : Nat) : Int) = 492 := rfl
theorem zq700 : ((700 : Nat) : Int) = 700 := rfl
theorem zq729 : ((729 : Nat) : Int) = 729 := rfl
theorem zq2187 : ((2187 : Nat) : Int) = 2187 := rfl
theorem zq2916 : ((2916 : Nat) : Int) = 2916 := rfl
theorem zq8748 : ((8748 : Nat) : Int) = 8748 := rfl
theorem wr_id {z : Int} (h : -2147483648 ≤ z ∧ z ≤ 2147483647) : wr z = z := by
  unfold wr
  exact Int.bmod_eq_of_le (by omega) (by omega)
theorem wrN {z : Int} {m : Nat} (h : z = (m : Int)) (hm : (m : Int) ≤ 2147483647) : wr z = (m : Int) := by
  rw [h]
  exact wr_id (by omega)
theorem wl_id {z : Int} (h : -9223372036854775808 ≤ z ∧ z ≤ 9223372036854775807) : wl z = z := by
  unfold wl
  exact Int.bmod_eq_of_le (by omega) (by omega)
theorem wb_id {z : Int} (h : -128 ≤ z ∧ z ≤ 127) : wb z = z := by
  unfold wb
  exact Int.bmod_eq_of_le (by omega) (by omega)
theorem zite {c : Prop} [Decidable c] {P R : Prop} : ((c → P) ∧ (¬ c → R)) ↔ (if c then P else R) := by
  by_cases h : c <;> simp [h]
theorem zu_at {h : zM} {c i : Nat} {v : Int} : zu h c i v c i = v := by simp [zu]
theorem zu_c {h : zM} {c i c' i' : Nat} {v : Int} (hc : ¬ c' = c) : zu h c i v c' i' = h c' i' := by simp [zu, hc]
theorem zu_i {h : zM} {c i c' i' : Nat} {v : Int} (hi : ¬ i' = i) : zu h c i v c' i' = h c' i' := by simp [zu, hi]
end BASE
set_option maxRecDepth 10000 in
theorem zMR_n : zMR.length = 221 := by decide +kernel
theorem zMR_lt {n : Nat} (hn : Nat.ble (n + 1) 221 = true) : n < zMR.length := by
  rw [zMR_n]
  exact Nat.le_of_ble_eq_true hn
section ENT
variable {d : Nat} {Q : zQ} {G : zG} {h : zM} {r : Nat} {x1 x2 x3 x4 x5 : Int} {w0 w1 w2 w3 w4 w5 : Option Nat ⊕ Nat}
theorem r0 : zRunD ztb zmt' (d + 1) 0 [zR (some r)] G h Q ↔ zE 0 d Q 0 [some (zR (some r))] [] G h (0, 0) := zrun_iff (zMR_lt rfl) rfl
theorem r1 : zRunD ztb zmt' (d + 1) 1 [zR (some r)] G h Q ↔ zE 1 d Q 0 [some (zR (some r))] [] G h (0, 0) := zrun_iff (zMR_lt rfl) rfl
theorem r2 : zRunD ztb zmt' (d + 1) 2 [zR (some r), zI x1, zI x2] G h Q ↔ zE 2 d Q 0 [some (zR (some r)), some (zI x1), some (zI x2)] [] G h (0, 0) := zrun_iff (zMR_lt rfl) rfl
theorem r3 : zRunD ztb zmt' (d + 1) 3 [zR (some r), zI x1] G h Q ↔ zE 3 d Q 0 [some (zR (some r)), some (zI x1)] [] G h (0, 0) := zrun_iff (zMR_lt rfl) rfl
theorem r4 : zRunD ztb zmt' (d + 1) 4 [zR (some r), .inr (.inr w1), zI x2] G h Q ↔ zE 4 d Q 0 [some (zR (some r)), some (.inr (.inr w1)), some (zI x2), none, none] [] G h (0, 0) := zrun_iff (zMR_lt rfl) rfl
theorem r5 : zRunD ztb zmt' (d + 1) 5 [zR (some r)] G h Q ↔ zE 5 d Q 0 [some (zR (some r))] [] G h (0, 0) := zrun_iff (zMR_lt rfl) rfl
theorem r6 : zRunD ztb zmt' (d + 1) 6 [zR (some r), zI x1, zI x2, zI x3] G h Q ↔ zE 6 d Q 0 [some (zR (some r)), some (zI x1), some (zI x2), some (zI x3)] [] G h (0, 0) := zrun_iff (zMR_lt rfl) rfl
theorem r7 : zRunD ztb zmt' (d + 1) 7 [zR (some r), zI x1] G h Q ↔ zE 7 d Q 0 [some (zR (some r)), some (zI x1), none] [] G h (0, 0) := zrun_iff (zMR_lt rfl) rfl
theorem r8 : zRunD ztb zmt' (d + 1) 8 [zR (some r), zI x1] G h Q ↔ zE 8 d Q 0 [some (zR (some r)), some (zI x1), none, none] [] G h (0, 0) := zrun_iff (zMR_lt rfl) rfl
theorem r9 : zRunD ztb zmt' (d + 1) 9 [zR (some r), zI x1, zI x2, zI x3] G h Q ↔ zE 9 d Q 0 [some (zR (some r)), some (zI x1), some (zI x2), some (zI x3), none, none] [] G h (0, 0) := zrun_iff (zMR_lt rfl) rfl
theorem r10 : zRunD ztb zmt' (d + 1) 10 [zR (some r), zI x1, zI x2] G h Q ↔ zE 10 d Q 0 [some (zR (some r)), some (zI x1), some (zI x2), none, none, none, none] [] G h (0, 0) := zrun_iff (zMR_lt rfl) rfl
theorem r11 : zRunD ztb zmt' (d + 1) 11 [zR (some r), .inr (.inr w1), zI x2] G h Q ↔ zE 11 d Q 0 [some (zR (some r)), some (.inr (.inr w1)), some (zI x2), none, none, none] [] G h (0, 0) := zrun_iff (zMR_lt rfl) rfl
theorem r12 : zRunD ztb zmt' (d + 1) 12 [zR (some r)] G h Q ↔ zE 12 d Q 0 [some (zR (some r))] [] G h (0, 0) := zrun_iff (zMR_lt rfl) rfl
theorem r13 : zRunD ztb zmt' (d + 1) 13 [zR (some r)] G h Q ↔ zE 13 d Q 0 [some (zR (some r))] [] G h (0, 0) := zrun_iff (zMR_lt rfl) rfl
theorem r14 : zRunD ztb zmt' (d + 1) 14 [zR (some r), .inr (.inr w1), zI x2, .inr (.inr w3)] G h Q ↔ zE 14 d Q 0 [some (zR (some r)), some (.inr (.inr w1)), some (zI x2), some (.inr (.inr w3)), none] [] G h (0, 0) := zrun_iff (zMR_lt rfl) rfl
theorem r15 : zRunD ztb zmt' (d + 1) 15 [zR (some r), .inr (.inr w1), zI x2, .inr (.inr w3)] G h Q ↔ zE 15 d Q 0 [some (zR (some r)), some (.inr (.inr w1)), some (zI x2), some (.inr (.inr w3))] [] G h (0, 0) := zrun_iff (zMR_lt rfl) rfl
theorem r16 : zRunD ztb zmt' (d + 1) 16 [zR (some r), zI x1, zI x2] G h Q ↔ zE 16 d Q 0 [some (zR (some r)), some (zI x1), some (zI x2)] [] G h (0, 0) := zrun_iff (zMR_lt rfl) rfl
theorem r17 : zRunD ztb zmt' (d + 1) 17 [zR (some r)] G h Q ↔ zE 17 d Q 0 [some (zR (some r))] [] G h (0, 0) := zrun_iff (zMR_lt rfl) rfl
theorem r18 : zRunD ztb zmt' (d + 1) 18 [zR (some r), zI x1] G h Q ↔ zE 18 d Q 0 [some (zR (some r)), some (zI x1)] [] G h (0, 0) := zrun_iff (zMR_lt rfl) rfl
theorem r19 : zRunD ztb zmt' (d + 1) 19 [zR (some r), .inr (.inr w1)] G h Q ↔ zE 19 d Q 0 [some (zR (some r)), some (.inr (.inr w1)), none] [] G h (0, 0) := zrun_iff (zMR_lt rfl) rfl
theorem r20 : zRunD ztb zmt' (d + 1) 20 [zR (some r), .inr (.inr w1)] G h Q ↔ zE 20 d Q 0 [some (zR (some r)), some (.inr (.inr w1)), none] [] G h (0, 0) := zrun_iff (zMR_lt rfl) rfl
theorem r21 : zRunD ztb zmt' (d + 1) 21 [zR (some r), .inr (.inr w1)] G h Q ↔ zE 21 d Q 0 [some (zR (some r)), some (.inr (.inr w1)), none] [] G h (0, 0) := zrun_iff (zMR_lt rfl) rfl
theorem r22 : zRunD ztb zmt' (d + 1) 22 [zR (some r), .inr (.inr w1)] G h Q ↔ zE 22 d Q 0 [some (zR (some r)), some (.inr (.inr w1)), none] [] G h (0, 0) := zrun_iff (zMR_lt rfl) rfl
theorem r23 : zRunD ztb zmt' (d + 1) 23 [zR (some r), .inr (.inr w1)] G h Q ↔ zE 23 d Q 0 [some (zR (some r)), some (.inr (.inr w1))] [] G h (0, 0) := zrun_iff (zMR_lt rfl) rfl
theorem r24 : zRunD ztb zmt' (d + 1) 24 [zR (some r), .inr (.inr w1)] G h Q ↔ zE 24 d Q 0 [some (zR (some r)), some (.inr (.inr w1))] [] G h (0, 0) := zrun_iff (zMR_lt rfl) rfl
theorem r25 : zRunD ztb zmt' (d + 1) 25 [zR (some r)] G h Q ↔ zE 25 d Q 0 [some (zR (some r))] [] G h (0, 0) := zrun_iff (zMR_lt rfl) rfl
theorem r26 : zRunD ztb zmt' (d + 1) 26 [zR (some r)] G h Q ↔ zE 26 d Q 0 [some (zR (some r)), none] [] G h (0, 0) := zrun_iff (zMR_lt rfl) rfl
theorem r27 : zRunD ztb zmt' (d + 1) 27 [zR (some r), zI x1, zI x2, zI x3] G h Q ↔ zE 27 d Q 0 [some (zR (some r)), some (zI x1), some (zI x2), some (zI x3), none] [] G h (0, 0) := zrun_iff (zMR_lt rfl) rfl
theorem r28 : zRunD ztb zmt' (d + 1) 28 [zR (some r), .inr (.inr w1), zI x2] G h Q ↔ zE 28 d Q 0 [some (zR (some r)), some (.inr (.inr w1)), some (zI x2), none] [] G h (0, 0) := zrun_iff (zMR_lt rfl) rfl
theorem r29 : zRunD ztb zmt' (d + 1) 29 [zR (some r), .inr (.inr w1), .inr (.inr w2)] G h Q ↔ zE 29 d Q 0 [some (zR (some r)), some (.inr (.inr w1)), some (.inr (.inr w2)), none] [] G h (0, 0) := zrun_iff (zMR_lt rfl) rfl
theorem r30 : zRunD ztb zmt' (d + 1) 30 [zR (some r), zI x1] G h Q ↔ zE 30 d Q 0 [some (zR (some r)), some (zI x1)] [] G h (0, 0) := zrun_iff (zMR_lt rfl) rfl
theorem r31 : zRunD ztb zmt' (d + 1) 31 [zR (some r)] G h Q ↔ zE 31 d Q 0 [some (zR (some r))] [] G h (0, 0) := zrun_iff (zMR_lt rfl) rfl
theorem r32 : zRunD ztb zmt' (d + 1) 32 [zR (some r), .inr (.inr w1), zI x2] G h Q ↔ zE 32 d Q 0 [some (zR (some r)), some (.inr (.inr w1)), some (zI x2)] [] G h (0, 0) := zrun_iff (zMR_lt rfl) rfl
theorem r33 : zRunD ztb zmt' (d + 1) 33 [zR (some r), zI x1, zI x2] G h Q ↔ zE 33 d Q 0 [some (zR (some r)), some (zI x1), some (zI x2)] [] G h (0, 0) := zrun_iff (zMR_lt rfl) rfl
theorem r34 : zRunD ztb zmt' (d + 1) 34 [zR (some r), zI x1] G h Q ↔ zE 34 d Q 0 [some (zR (some r)), some (zI x1), none, none] [] G h (0, 0) := zrun_iff (zMR_lt rfl) rfl
theorem r35 : zRunD ztb zmt' (d + 1) 35 [zR (some r), zI x1] G h Q ↔ zE 35 d Q 0 [some (zR (some r)), some (zI x1), none] [] G h (0, 0) := zrun_iff (zMR_lt rfl) rfl
theorem r36 : zRunD ztb zmt' (d + 1) 36 [zR (some r), zI x1] G h Q ↔ zE 36 d Q 0 [some (zR (some r)), some (zI x1), none] [] G h (0, 0) := zrun_iff (zMR_lt rfl) rfl
theorem r37 : zRunD ztb zmt' (d + 1) 37 [zR (some r), zI x1, zI x2] G h Q ↔ zE 37 d Q 0 [some (zR (some r)), some (zI x1), some (zI x2), none] [] G h (0, 0) := zrun_iff (zMR_lt rfl) rfl
theorem r38 : zRunD ztb zmt' (d + 1) 38 [zR (some r), zI x1, zI x2] G h Q ↔ zE 38 d Q 0 [some (zR (some r)), some (zI x1), some (zI x2)] [] G h (0, 0) := zrun_iff (zMR_lt rfl) rfl
theorem r39 : zRunD ztb zmt' (d + 1) 39 [zR (some r), zI x1] G h Q ↔ zE 39 d Q 0 [some (zR (some r)), some (zI x1), none, none] [] G h (0, 0) := zrun_iff (zMR_lt rfl) rfl
theorem r40 : zRunD ztb zmt' (d + 1) 40 [zR (some r), zI x1] G h Q ↔ zE 40 d Q 0 [some (zR (some r)), some (zI x1), none, none, none, none, none, none, none] [] G h (0, 0) := zrun_iff (zMR_lt rfl) rfl
theorem r41 : zRunD ztb zmt' (d + 1) 41 [zR (some r), zI x1, zI x2, zI x3] G h Q ↔ zE 41 d Q 0 [some (zR (some r)), some (zI x1), some (zI x2), some (zI x3), none, none] [] G h (0, 0) := zrun_iff (zMR_lt rfl) rfl
theorem r42 : zRunD ztb zmt' (d + 1) 42 [zR (some r), zI x1, zI x2, zL x3] G h Q ↔ zE 42 d Q 0 [some (zR (some r)), some (zI x1), some (zI x2), some (zL x3), none, none, none, none, none, none, none, none, none, none] [] G h (0, 0) := zrun_iff (zMR_lt rfl) rfl
theorem r43 : zRunD ztb zmt' (d + 1) 43 [zR (some r), zI x1] G h Q ↔ zE 43 d Q 0 [some (zR (some r)), some (zI x1), none, none, none] [] G h (0, 0) := zrun_iff (zMR_lt rfl) rfl
theorem r44 : zRunD ztb zmt' (d + 1) 44 [zR (some r)] G h Q ↔ zE 44 d Q 0 [some (zR (some r)), none, none, none] [] G h (0, 0) := zrun_iff (zMR_lt rfl) rfl
theorem r45 : zRunD ztb zmt' (d + 1) 45 [zR (some r)] G h Q ↔ zE 45 d Q 0 [some (zR (some r))] [] G h (0, 0) := zrun_iff (zMR_lt rfl) rfl
theorem r46 : zRunD ztb zmt' (d + 1) 46 [zR (some r), .inr (.inr w1)] G h Q ↔ zE 46 d Q 0 [some (zR (some r)), some (.inr (.inr w1))] [] G h (0, 0) := zrun_iff (zMR_lt rfl) rfl
theorem r47 : zRunD ztb zmt' (d + 1) 47 [zR (some r), zI x1] G h Q ↔ zE 47 d Q 0 [some (zR (some r)), some (zI x1), none] [] G h (0, 0) := zrun_iff (zMR_lt rfl) rfl
theorem r48 : zRunD ztb zmt' (d + 1) 48 [zR (some r)] G h Q ↔ zE 48 d Q 0 [some (zR (some r))] [] G h (0, 0) := zrun_iff (zMR_lt rfl) rfl
theorem r49 : zRunD ztb zmt' (d + 1) 49 [zR (some r), zI x1] G h Q ↔ zE 49 d Q 0 [some (zR (some r)), some (zI x1)] [] G h (0, 0) := zrun_iff (zMR_lt rfl) rfl
theorem r50 : zRunD ztb zmt' (d + 1) 50 [zR (some r), zI x1] G h Q ↔ zE 50 d Q 0 [some (zR (some r)), some (zI x1)] [] G h (0, 0) := zrun_iff (zMR_lt rfl) rfl
theorem r51 : zRunD ztb zmt' (d + 1) 51 [zR (some r), zI x1, zI x2] G h Q ↔ zE 51 d Q 0 [some (zR (some r)), some (zI x1), some (zI x2)] [] G h (0, 0) := zrun_iff (zMR_lt rfl) rfl
theorem r52 : zRunD ztb zmt' (d + 1) 52 [zR (some r)] G h Q ↔ zE 52 d Q 0 [some (zR (some r))] [] G h (0, 0) := zrun_iff (zMR_lt rfl) rfl
theorem r53 : zRunD ztb zmt' (d + 1) 53 [zR (some r)] G h Q ↔ zE 53 d Q 0 [some (zR (some r)), none] [] G h (0, 0) := zrun_iff (zMR_lt rfl) rfl
theorem r54 : zRunD ztb zmt' (d + 1) 54 [zR (some r), zI x1, zI x2, zI x3] G h Q ↔ zE 54 d Q 0 [some (zR (some r)), some (zI x1), some (zI x2), some (zI x3), none] [] G h (0, 0) := zrun_iff (zMR_lt rfl) rfl
theorem r55 : zRunD ztb zmt' (d + 1) 55 [zR (some r), .inr (.inr w1), zI x2, .inr (.inr w3), zI x4] G h Q ↔ zE 55 d Q 0 [some (zR (some r)), some (.inr (.inr w1)), some (zI x2), some (.inr (.inr w3)), some (zI x4), none, none, none] [] G h (0, 0) := zrun_iff (zMR_lt rfl) rfl
theorem r56 : zRunD ztb zmt' (d + 1) 56 [zR (some r), zI x1, zI x2, zI x3, zI x4] G h Q ↔ zE 56 d Q 0 [some (zR (some r)), some (zI x1), some (zI x2), some (zI x3), some (zI x4), none, none] [] G h (0, 0) := zrun_iff (zMR_lt rfl) rfl
theorem r57 : zRunD ztb zmt' (d + 1) 57 [zR (some r)] G h Q ↔ zE 57 d Q 0 [some (zR (some r))] [] G h (0, 0) := zrun_iff (zMR_lt rfl) rfl
theorem r58 : zRunD ztb zmt' (d + 1) 58 [zR (some r), zI x1, zI x2, zI x3, zI x4, zI x5] G h Q ↔ zE 58 d Q 0 [some (zR (some r)), some (zI x1), some (zI x2), some (zI x3), some (zI x4), some (zI x5)] [] G h (0, 0) := zrun_iff (zMR_lt rfl) rfl
theorem r59 : zRunD ztb zmt' (d + 1) 59 [zR (some r), zI x1] G h Q ↔ zE 59 d Q 0 [some (zR (some r)), some (zI x1), none] [] G h (0, 0) := zrun_iff (zMR_lt rfl) rfl
theorem r60 : zRunD ztb zmt' (d + 1) 60 [zR (some r), zI x1] G h Q ↔ zE 60 d Q 0 [some (zR (some r)), some (zI x1)] [] G h (0, 0) := zrun_iff (zMR_lt rfl) rfl
theorem r61 : zRunD ztb zmt' (d + 1) 61 [zR (some r)] G h Q ↔ zE 61 d Q 0 [some (zR (some r))] [] G h (0, 0) := zrun_iff (zMR_lt rfl) rfl
theorem r62 : zRunD ztb zmt' (d + 1) 62 [zR (some r)] G h Q ↔ zE 62 d Q 0 [some (zR (some r))] [] G h (0, 0) := zrun_iff (zMR_lt rfl) rfl
theorem r63 : zRunD ztb zmt' (d + 1) 63 [zR (some r), zI x1, zI x2, zI x3] G h Q ↔ zE 63 d Q 0 [some (zR (some r)), some (zI x1), some (zI x2), some (zI x3)] [] G h (0, 0) := zrun_iff (zMR_lt rfl) rfl
theorem r64 : zRunD ztb zmt' (d + 1) 64 [zR (some r), zI x1, zI x2, zI x3] G h Q ↔ zE 64 d Q 0 [some (zR (some r)), some (zI x1), some (zI x2), some (zI x3)] [] G h (0, 0) := zrun_iff (zMR_lt rfl) rfl
theorem r65 : zRunD ztb zmt' (d + 1) 65 [zR (some r), zI x1, zI x2] G h Q ↔ zE 65 d Q 0 [some (zR (some r)), some (zI x1), some (zI x2), none] [] G h (0, 0) := zrun_iff (zMR_lt rfl) rfl
theorem r66 : zRunD ztb zmt' (d + 1) 66 [zR (some r), zI x1, zI x2, zI x3] G h Q ↔ zE 66 d Q 0 [some (zR (some r)), some (zI x1), some (zI x2), some (zI x3)] [] G h (0, 0) := zrun_iff (zMR_lt rfl) rfl
theorem r67 : zRunD ztb zmt' (d + 1) 67 [zR (some r), zI x1] G h Q ↔ zE 67 d Q 0 [some (zR (some r)), some (zI x1)] [] G h (0, 0) := zrun_iff (zMR_lt rfl) rfl
theorem r68 : zRunD ztb zmt' (d + 1) 68 [zR (some r), zI x1] G h Q ↔ zE 68 d Q 0 [some (zR (some r)), some (zI x1), none, none] [] G h (0, 0) := zrun_iff (zMR_lt rfl) rfl
theorem r69 : zRunD ztb zmt' (d + 1) 69 [zR (some r)] G h Q ↔ zE 69 d Q 0 [some (zR (some r)), none, none, none] [] G h (0, 0) := zrun_iff (zMR_lt rfl) rfl
theorem r70 : zRunD ztb zmt' (d + 1) 70 [zR (some r), zI x1] G h Q ↔ zE 70 d Q 0 [some (zR (some r)), some (zI x1)] [] G h (0, 0) := zrun_iff (zMR_lt rfl) rfl
theorem r71 : zRunD ztb zmt' (d + 1) 71 [zR (some r), zI x1, zI x2] G h Q ↔ zE 71 d Q 0 [some (zR (some r)), some (zI x1), some (zI x2)] [] G h (0, 0) := zrun_iff (zMR_lt rfl) rfl
theorem r72 : zRunD ztb zmt' (d + 1) 72 [zR (some r), zI x1, zI x2] G h Q ↔ zE 72 d Q 0 [some (zR (some r)), some (zI x1), some (zI x2)] [] G h (0, 0) := zrun_iff (zMR_lt rfl) rfl
theorem r73 : zRunD ztb zmt' (d + 1) 73 [zR (some r), zI x1] G h Q ↔ zE 73 d Q 0 [some (zR (some r)), some (zI x1), none, none] [] G h (0, 0) := zrun_iff (zMR_lt rfl) rfl
theorem r74 : zRunD ztb zmt' (d + 1) 74 [zR (some r), zI x1, zI x2] G h Q ↔ zE 74 d Q 0 [some (zR (some r)), some (zI x1), some (zI x2)] [] G h (0, 0) := zrun_iff (zMR_lt rfl) rfl
theorem r75 : zRunD ztb zmt' (d + 1) 75 [zR (some r), zI x1] G h Q ↔ zE 75 d Q 0 [some (zR (some r)), some (zI x1)] [] G h (0, 0) := zrun_iff (zMR_lt rfl) rfl
theorem r76 : zRunD ztb zmt' (d + 1) 76 [zR (some r), zI x1] G h Q ↔ zE 76 d Q 0 [some (zR (some r)), some (zI x1), none, none, none] [] G h (0, 0) := zrun_iff (zMR_lt rfl) rfl
theorem r77 : zRunD ztb zmt' (d + 1) 77 [zR (some r), zI x1] G h Q ↔ zE 77 d Q 0 [some (zR (some r)), some (zI x1), none] [] G h (0, 0) := zrun_iff (zMR_lt rfl) rfl
theorem r78 : zRunD ztb zmt' (d + 1) 78 [zR (some r), zI x1] G h Q ↔ zE 78 d Q 0 [some (zR (some r)), some (zI x1), none, none, none, none, none, none] [] G h (0, 0) := zrun_iff (zMR_lt rfl) rfl
theorem r79 : zRunD ztb zmt' (d + 1) 79 [zR (some r), zI x1, zI x2] G h Q ↔ zE 79 d Q 0 [some (zR (some r)), some (zI x1), some (zI x2)] [] G h (0, 0) := zrun_iff (zMR_lt rfl) rfl
theorem r80 : zRunD ztb zmt' (d + 1) 80 [zR (some r), zI x1, zI x2, zI x3] G h Q ↔ zE 80 d Q 0 [some (zR (some r)), some (zI x1), some (zI x2), some (zI x3)] [] G h (0, 0) := zrun_iff (zMR_lt rfl) rfl
theorem r81 : zRunD ztb zmt' (d + 1) 81 [zR (some r), zI x1, zI x2, zI x3] G h Q ↔ zE 81 d Q 0 [some (zR (some r)), some (zI x1), some (zI x2), some (zI x3)] [] G h (0, 0) := zrun_iff (zMR_lt rfl) rfl
theorem r82 : zRunD ztb zmt' (d + 1) 82 [zR (some r), zI x1, zI x2] G h Q ↔ zE 82 d Q 0 [some (zR (some r)), some (zI x1), some (zI x2), none, none, none, none, none, none] [] G h (0, 0) := zrun_iff (zMR_lt rfl) rfl
theorem r83 : zRunD ztb zmt' (d + 1) 83 [zR (some r), zI x1, zI x2, zI x3] G h Q ↔ zE 83 d Q 0 [some (zR (some r)), some (zI x1), some (zI x2), some (zI x3)] [] G h (0, 0) := zrun_iff (zMR_lt rfl) rfl
theorem r84 : zRunD ztb zmt' (d + 1) 84 [zR (some r), zI x1, zI x2, zI x3] G h Q ↔ zE 84 d Q 0 [some (zR (some r)), some (zI x1), some (zI x2), some (zI x3)] [] G h (0, 0) := zrun_iff (zMR_lt rfl) rfl
theorem r85 : zRunD ztb zmt' (d + 1) 85 [zR (some r), zI x1, zI x2, zI x3] G h Q ↔ zE 85 d Q 0 [some (zR (some r)), some (zI x1), some (zI x2), some (zI x3)] [] G h (0, 0) := zrun_iff (zMR_lt rfl) rfl
theorem r86 : zRunD ztb zmt' (d + 1) 86 [zR (some r), zI x1, zI x2] G h Q ↔ zE 86 d Q 0 [some (zR (some r)), some (zI x1), some (zI x2), none, none, none, none, none, none] [] G h (0, 0) := zrun_iff (zMR_lt rfl) rfl
theorem r87 : zRunD ztb zmt' (d + 1) 87 [zR (some r), zI x1, zI x2, zI x3] G h Q ↔ zE 87 d Q 0 [some (zR (some r)), some (zI x1), some (zI x2), some (zI x3)] [] G h (0, 0) := zrun_iff (zMR_lt rfl) rfl
theorem r88 : zRunD ztb zmt' (d + 1) 88 [zR (some r), zI x1, zI x2] G h Q ↔ zE 88 d Q 0 [some (zR (some r)), some (zI x1), some (zI x2), none] [] G h (0, 0) := zrun_iff (zMR_lt rfl) rfl
theorem r89 : zRunD ztb zmt' (d + 1) 89 [zR (some r), zI x1, zI x2] G h Q ↔ zE 89 d Q 0 [some (zR (some r)), some (zI x1), some (zI x2)] [] G h (0, 0) := zrun_iff (zMR_lt rfl) rfl
theorem r90 : zRunD ztb zmt' (d + 1) 90 [zR (some r)] G h Q ↔ zE 90 d Q 0 [some (zR (some r)), none, none] [] G h (0, 0) := zrun_iff (zMR_lt rfl) rfl
theorem r91 : zRunD ztb zmt' (d + 1) 91 [zR (some r), zI x1, zI x2] G h Q ↔ zE 91 d Q 0 [some (zR (some r)), some (zI x1), some (zI x2), none] [] G h (0, 0) := zrun_iff (zMR_lt rfl) rfl
theorem r92 : zRunD ztb zmt' (d + 1) 92 [zR (some r), zI x1] G h Q ↔ zE 92 d Q 0 [some (zR (some r)), some (zI x1), none, none] [] G h (0, 0) := zrun_iff (zMR_lt rfl) rfl
theorem r93 : zRunD ztb zmt' (d + 1) 93 [zR (some r), zI x1] G h Q ↔ zE 93 d Q 0 [some (zR (some r)), some (zI x1)] [] G h (0, 0) := zrun_iff (zMR_lt rfl) rfl
theorem r94 : zRunD ztb zmt' (d + 1) 94 [zR (some r), zI x1, zI x2] G h Q ↔ zE 94 d Q 0 [some (zR (some r)), some (zI x1), some (zI x2)] [] G h (0, 0) := zrun_iff (zMR_lt rfl) rfl
theorem r95 : zRunD ztb zmt' (d + 1) 95 [zR (some r), zI x1, zI x2] G h Q ↔ zE 95 d Q 0 [some (zR (some r)), some (zI x1), some (zI x2)] [] G h (0, 0) := zrun_iff (zMR_lt rfl) rfl
theorem r96 : zRunD ztb zmt' (d + 1) 96 [zR (some r)] G h Q ↔ zE 96 d Q 0 [some (zR (some r))] [] G h (0, 0) := zrun_iff (zMR_lt rfl) rfl
theorem r97 : zRunD ztb zmt' (d + 1) 97 [zR (some r)] G h Q ↔ zE 97 d Q 0 [some (zR (some r))] [] G h (0, 0) := zrun_iff (zMR_lt rfl) rfl
theorem r98 : zRunD ztb zmt' (d + 1) 98 [zR (some r), zI x1] G h Q ↔ zE 98 d Q 0 [some (zR (some r)), some (zI x1)] [] G h (0, 0) := zrun_iff (zMR_lt rfl) rfl
theorem r99 : zRunD ztb zmt' (d + 1) 99 [zR (some r), zI x1] G h Q ↔ zE 99 d Q 0 [some (zR (some r)), some (zI x1)] [] G h (0, 0) := zrun_iff (zMR_lt rfl) rfl
theorem r100 : zRunD ztb zmt' (d + 1) 100 [zR (some r), zI x1] G h Q ↔ zE 100 d Q 0 [some (zR (some r)), some (zI x1)] [] G h (0, 0) := zrun_iff (zMR_lt rfl) rfl
theorem r101 : zRunD ztb zmt' (d + 1) 101 [zR (some r), zI x1] G h Q ↔ zE 101 d Q 0 [some (zR (some r)), some (zI x1)] [] G h (0, 0) := zrun_iff (zMR_lt rfl) rfl
theorem r102 : zRunD ztb zmt' (d + 1) 102 [zR (some r), zI x1, zI x2] G h Q ↔ zE 102 d Q 0 [some (zR (some r)), some (zI x1), some (zI x2)] [] G h (0, 0) := zrun_iff (zMR_lt rfl) rfl
theorem r103 : zRunD ztb zmt' (d + 1) 103 [zR (some r), zI x1] G h Q ↔ zE 103 d Q 0 [some (zR (some r)), some (zI x1)] [] G h (0, 0) := zrun_iff (zMR_lt rfl) rfl
theorem r104 : zRunD ztb zmt' (d + 1) 104 [zR (some r), zI x1, zI x2] G h Q ↔ zE 104 d Q 0 [some (zR (some r)), some (zI x1), some (zI x2), none, none, none] [] G h (0, 0) := zrun_iff (zMR_lt rfl) rfl
theorem r105 : zRunD ztb zmt' (d + 1) 105 [zR (some r), zI x1, zI x2] G h Q ↔ zE 105 d Q 0 [some (zR (some r)), some (zI x1), some (zI x2)] [] G h (0, 0) := zrun_iff (zMR_lt rfl) rfl
theorem r106 : zRunD ztb zmt' (d + 1) 106 [zR (some r)] G h Q ↔ zE 106 d Q 0 [some (zR (some r)), none, none] [] G h (0, 0) := zrun_iff (zMR_lt rfl) rfl
theorem r107 : zRunD ztb zmt' (d + 1) 107 [zR (some r)] G h Q ↔ zE 107 d Q 0 [some (zR (some r))] [] G h (0, 0) := zrun_iff (zMR_lt rfl) rfl
theorem r108 : zRunD ztb zmt' (d + 1) 108 [zR (some r), zI x1, zI x2] G h Q ↔ zE 108 d Q 0 [some (zR (some r)), some (zI x1), some (zI x2)] [] G h (0, 0) := zrun_iff (zMR_lt rfl) rfl
theorem r109 : zRunD ztb zmt' (d + 1) 109 [zR (some r), zI x1, zI x2] G h Q ↔ zE 109 d Q 0 [some (zR (some r)), some (zI x1), some (zI x2)] [] G h (0, 0) := zrun_iff (zMR_lt rfl) rfl
theorem r110 : zRunD ztb zmt' (d + 1) 110 [zR (some r)] G h Q ↔ zE 110 d Q 0 [some (zR (some r))] [] G h (0, 0) := zrun_iff (zMR_lt rfl) rfl
theorem r111 : zRunD ztb zmt' (d + 1) 111 [zR (some r), zL x1] G h Q ↔ zE 111 d Q 0 [some (zR (some r)), some (zL x1), none, none] [] G h (0, 0) := zrun_iff (zMR_lt rfl) rfl
theorem r112 : zRunD ztb zmt' (d + 1) 112 [zR (some r)] G h Q ↔ zE 112 d Q 0 [some (zR (some r))] [] G h (0, 0) := zrun_iff (zMR_lt rfl) rfl
theorem r113 : zRunD ztb zmt' (d + 1) 113 [zR (some r)] G h Q ↔ zE 113 d Q 0 [some (zR (some r))] [] G h (0, 0) := zrun_iff (zMR_lt rfl) rfl
theorem r114 : zRunD ztb zmt' (d + 1) 114 [zR (some r), zI x1] G h Q ↔ zE 114 d Q 0 [some (zR (some r)), some (zI x1)] [] G h (0, 0) := zrun_iff (zMR_lt rfl) rfl
theorem r115 : zRunD ztb zmt' (d + 1) 115 [zR (some r), zI x1] G h Q ↔ zE 115 d Q 0 [some (zR (some r)), some (zI x1)] [] G h (0, 0) := zrun_iff (zMR_lt rfl) rfl
theorem r116 : zRunD ztb zmt' (d + 1) 116 [zR (some r), zI x1] G h Q ↔ zE 116 d Q 0 [some (zR (some r)), some (zI x1)] [] G h (0, 0) := zrun_iff (zMR_lt rfl) rfl
theorem r117 : zRunD ztb zmt' (d + 1) 117 [zR (some r), zI x1] G h Q ↔ zE 117 d Q 0 [some (zR (some r)), some (zI x1)] [] G h (0, 0) := zrun_iff (zMR_lt rfl) rfl
theorem r118 : zRunD ztb zmt' (d + 1) 118 [zR (some r), zL x1] G h Q ↔ zE 118 d Q 0 [some (zR (some r)), some (zL x1), none] [] G h (0, 0) := zrun_iff (zMR_lt rfl) rfl
theorem r119 : zRunD ztb zmt' (d + 1) 119 [zR (some r)] G h Q ↔ zE 119 d Q 0 [some (zR (some r))] [] G h (0, 0) := zrun_iff (zMR_lt rfl) rfl
theorem r120 : zRunD ztb zmt' (d + 1) 120 [zI x1, zI x2, zI x3] G h Q ↔ zE 120 d Q 0 [some (zI x1), some (zI x2), some (zI x3)] [] G h (0, 0) := zrun_iff (zMR_lt rfl) rfl
theorem r121 : zRunD ztb zmt' (d + 1) 121 [zR (some r), zI x1] G h Q ↔ zE 121 d Q 0 [some (zR (some r)), some (zI x1)] [] G h (0, 0) := zrun_iff (zMR_lt rfl) rfl
theorem r122 : zRunD ztb zmt' (d + 1) 122 [zI x1] G h Q ↔ zE 122 d Q 0 [some (zI x1)] [] G h (0, 0) := zrun_iff (zMR_lt rfl) rfl
theorem r123 : zRunD ztb zmt' (d + 1) 123 [zI x1] G h Q ↔ zE 123 d Q 0 [some (zI x1)] [] G h (0, 0) := zrun_iff (zMR_lt rfl) rfl
theorem r124 : zRunD ztb zmt' (d + 1) 124 [.inr (.inr w1)] G h Q ↔ zE 124 d Q 0 [some (.inr (.inr w1)), none, none, none] [] G h (0, 0) := zrun_iff (zMR_lt rfl) rfl
theorem r125 : zRunD ztb zmt' (d + 1) 125 [zR (some r)] G h Q ↔ zE 125 d Q 0 [some (zR (some r)), none, none] [] G h (0, 0) := zrun_iff (zMR_lt rfl) rfl
theorem r126 : zRunD ztb zmt' (d + 1) 126 [zR (some r), zI x1] G h Q ↔ zE 126 d Q 0 [some (zR (some r)), some (zI x1)] [] G h (0, 0) := zrun_iff (zMR_lt rfl) rfl
theorem r127 : zRunD ztb zmt' (d + 1) 127 [zR (some r), zI x1, zI x2] G h Q ↔ zE 127 d Q 0 [some (zR (some r)), some (zI x1), some (zI x2)] [] G h (0, 0) := zrun_iff (zMR_lt rfl) rfl
theorem r128 : zRunD ztb zmt' (d + 1) 128 [zR (some r), .inr (.inr w1)] G h Q ↔ zE 128 d Q 0 [some (zR (some r)), some (.inr (.inr w1))] [] G h (0, 0) := zrun_iff (zMR_lt rfl) rfl
theorem r129 : zRunD ztb zmt' (d + 1) 129 [zR (some r), zI x1] G h Q ↔ zE 129 d Q 0 [some (zR (some r)), some (zI x1), none] [] G h (0, 0) := zrun_iff (zMR_lt rfl) rfl
theorem r130 : zRunD ztb zmt' (d + 1) 130 [zR (some r), zI x1, zI x2] G h Q ↔ zE 130 d Q 0 [some (zR (some r)), some (zI x1), some (zI x2), none] [] G h (0, 0) := zrun_iff (zMR_lt rfl) rfl
theorem r131 : zRunD ztb zmt' (d + 1) 131 [zR (some r), .inr (.inr w1), zI x2] G h Q ↔ zE 131 d Q 0 [some (zR (some r)), some (.inr (.inr w1)), some (zI x2)] [] G h (0, 0) := zrun_iff (zMR_lt rfl) rfl
theorem r132 : zRunD ztb zmt' (d + 1) 132 [zR (some r)] G h Q ↔ zE 132 d Q 0 [some (zR (some r)), none] [] G h (0, 0) := zrun_iff (zMR_lt rfl) rfl
theorem r133 : zRunD ztb zmt' (d + 1) 133 [zR (some r)] G h Q ↔ zE 133 d Q 0 [some (zR (some r))] [] G h (0, 0) := zrun_iff (zMR_lt rfl) rfl
theorem r134 : zRunD ztb zmt' (d + 1) 134 [zR (some r), zI x1] G h Q ↔ zE 134 d Q 0 [some (zR (some r)), some (zI x1)] [] G h (0, 0) := zrun_iff (zMR_lt rfl) rfl
theorem r135 : zRunD ztb zmt' (d + 1) 135 [zR (some r)] G h Q ↔ zE 135 d Q 0 [some (zR (some r)), none, none, none] [] G h (0, 0) := zrun_iff (zMR_lt rfl) rfl
theorem r136 : zRunD ztb zmt' (d + 1) 136 [zR (some r)] G h Q ↔ zE 136 d Q 0 [some (zR (some r)), none, none, none, none, none] [] G h (0, 0) := zrun_iff (zMR_lt rfl) rfl
theorem r137 : zRunD ztb zmt' (d + 1) 137 [zR (some r)] G h Q ↔ zE 137 d Q 0 [some (zR (some r)), none, none, none, none] [] G h (0, 0) := zrun_iff (zMR_lt rfl) rfl
theorem r138 : zRunD ztb zmt' (d + 1) 138 [zR (some r)] G h Q ↔ zE 138 d Q 0 [some (zR (some r)), none] [] G h (0, 0) := zrun_iff (zMR_lt rfl) rfl
theorem r139 : zRunD ztb zmt' (d + 1) 139 [zR (some r), zI x1, zI x2, zI x3, zI x4, zI x5] G h Q ↔ zE 139 d Q 0 [some (zR (some r)), some (zI x1), some (zI x2), some (zI x3), some (zI x4), some (zI x5), none, none] [] G h (0, 0) := zrun_iff (zMR_lt rfl) rfl
theorem r140 : zRunD ztb zmt' (d + 1) 140 [zR (some r), zI x1] G h Q ↔ zE 140 d Q 0 [some (zR (some r)), some (zI x1), none] [] G h (0, 0) := zrun_iff (zMR_lt rfl) rfl
theorem r141 : zRunD ztb zmt' (d + 1) 141 [zR (some r)] G h Q ↔ zE 141 d Q 0 [some (zR (some r))] [] G h (0, 0) := zrun_iff (zMR_lt rfl) rfl
theorem r142 : zRunD ztb zmt' (d + 1) 142 [zR (some r)] G h Q ↔ zE 142 d Q 0 [some (zR (some r))] [] G h (0, 0) := zrun_iff (zMR_lt rfl) rfl
theorem r143 : zRunD ztb zmt' (d + 1) 143 [zR (some r), zI x1] G h Q ↔ zE 143 d Q 0 [some (zR (some r)), some (zI x1), none] [] G h (0, 0) := zrun_iff (zMR_lt rfl) rfl
theorem r144 : zRunD ztb zmt' (d + 1) 144 [zR (some r), zI x1] G h Q ↔ zE 144 d Q 0 [some (zR (some r)), some (zI x1)] [] G h (0, 0) := zrun_iff (zMR_lt rfl) rfl
theorem r145 : zRunD ztb zmt' (d + 1) 145 [zR (some r), zI x1, zI x2, zI x3] G h Q ↔ zE 145 d Q 0 [some (zR (some r)), some (zI x1), some (zI x2), some (zI x3), none] [] G h (0, 0) := zrun_iff (zMR_lt rfl) rfl
theorem r146 : zRunD ztb zmt' (d + 1) 146 [zR (some r), zI x1, zI x2, zI x3] G h Q ↔ zE 146 d Q 0 [some (zR (some r)), some (zI x1), some (zI x2), some (zI x3)] [] G h (0, 0) := zrun_iff (zMR_lt rfl) rfl
theorem r147 : zRunD ztb zmt' (d + 1) 147 [zR (some r), zI x1, zI x2] G h Q ↔ zE 147 d Q 0 [some (zR (some r)), some (zI x1), some (zI x2), none, none] [] G h (0, 0) := zrun_iff (zMR_lt rfl) rfl
theorem r148 : zRunD ztb zmt' (d + 1) 148 [zR (some r), zI x1, zI x2, zI x3, zI x4] G h Q ↔ zE 148 d Q 0 [some (zR (some r)), some (zI x1), some (zI x2), some (zI x3), some (zI x4), none] [] G h (0, 0) := zrun_iff (zMR_lt rfl) rfl
theorem r149 : zRunD ztb zmt' (d + 1) 149 [zR (some r), zI x1, zI x2, zI x3] G h Q ↔ zE 149 d Q 0 [some (zR (some r)), some (zI x1), some (zI x2), some (zI x3), none, none, none, none] [] G h (0, 0) := zrun_iff (zMR_lt rfl) rfl
theorem r150 : zRunD ztb zmt' (d + 1) 150 [zI x1, zI x2] G h Q ↔ zE 150 d Q 0 [some (zI x1), some (zI x2)] [] G h (0, 0) := zrun_iff (zMR_lt rfl) rfl
theorem r151 : zRunD ztb zmt' (d + 1) 151 [zR (some r), zI x1, zI x2, zI x3, zI x4] G h Q ↔ zE 151 d Q 0 [some (zR (some r)), some (zI x1), some (zI x2), some (zI x3), some (zI x4), none, none] [] G h (0, 0) := zrun_iff (zMR_lt rfl) rfl
theorem r152 : zRunD ztb zmt' (d + 1) 152 [zR (some r), .inr (.inr w1), zI x2, zI x3] G h Q ↔ zE 152 d Q 0 [some (zR (some r)), some (.inr (.inr w1)), some (zI x2), some (zI x3), none, none, none] [] G h (0, 0) := zrun_iff (zMR_lt rfl) rfl
theorem r153 : zRunD ztb zmt' (d + 1) 153 [zR (some r)] G h Q ↔ zE 153 d Q 0 [some (zR (some r)), none] [] G h (0, 0) := zrun_iff (zMR_lt rfl) rfl
theorem r154 : zRunD ztb zmt' (d + 1) 154 [zR (some r), zI x1] G h Q ↔ zE 154 d Q 0 [some (zR (some r)), some (zI x1)] [] G h (0, 0) := zrun_iff (zMR_lt rfl) rfl
theorem r155 : zRunD ztb zmt' (d + 1) 155 [zR (some r), zI x1] G h Q ↔ zE 155 d Q 0 [some (zR (some r)), some (zI x1)] [] G h (0, 0) := zrun_iff (zMR_lt rfl) rfl
theorem r156 : zRunD ztb zmt' (d + 1) 156 [zR (some r), zI x1] G h Q ↔ zE 156 d Q 0 [some (zR (some r)), some (zI x1)] [] G h (0, 0) := zrun_iff (zMR_lt rfl) rfl
theorem r157 : zRunD ztb zmt' (d + 1) 157 [zR (some r)] G h Q ↔ zE 157 d Q 0 [some (zR (some r)), none] [] G h (0, 0) := zrun_iff (zMR_lt rfl) rfl
theorem r158 : zRunD ztb zmt' (d + 1) 158 [zR (some r), zI x1, zI x2, zI x3] G h Q ↔ zE 158 d Q 0 [some (zR (some r)), some (zI x1), some (zI x2), some (zI x3)] [] G h (0, 0) := zrun_iff (zMR_lt rfl) rfl
theorem r159 : zRunD ztb zmt' (d + 1) 159 [zR (some r), zI x1, zI x2, zI x3] G h Q ↔ zE 159 d Q 0 [some (zR (some r)), some (zI x1), some (zI x2), some (zI x3)] [] G h (0, 0) := zrun_iff (zMR_lt rfl) rfl
theorem r160 : zRunD ztb zmt' (d + 1) 160 [zR (some r), zI x1, zI x2] G h Q ↔ zE 160 d Q 0 [some (zR (some r)), some (zI x1), some (zI x2)] [] G h (0, 0) := zrun_iff (zMR_lt rfl) rfl
theorem r161 : zRunD ztb zmt' (d + 1) 161 [zR (some r), zI x1, zI x2, zI x3] G h Q ↔ zE 161 d Q 0 [some (zR (some r)), some (zI x1), some (zI x2), some (zI x3)] [] G h (0, 0) := zrun_iff (zMR_lt rfl) rfl
theorem r162 : zRunD ztb zmt' (d + 1) 162 [zR (some r), zI x1] G h Q ↔ zE 162 d Q 0 [some (zR (some r)), some (zI x1)] [] G h (0, 0) := zrun_iff (zMR_lt rfl) rfl
theorem r163 : zRunD ztb zmt' (d + 1) 163 [zR (some r)] G h Q ↔ zE 163 d Q 0 [some (zR (some r)), none, none] [] G h (0, 0) := zrun_iff (zMR_lt rfl) rfl
theorem r164 : zRunD ztb zmt' (d + 1) 164 [zR (some r)] G h Q ↔ zE 164 d Q 0 [some (zR (some r)), none, none] [] G h (0, 0) := zrun_iff (zMR_lt rfl) rfl
theorem r165 : zRunD ztb zmt' (d + 1) 165 [zR (some r), zI x1] G h Q ↔ zE 165 d Q 0 [some (zR (some r)), some (zI x1), none, none] [] G h (0, 0) := zrun_iff (zMR_lt rfl) rfl
theorem r166 : zRunD ztb zmt' (d + 1) 166 [zR (some r), zI x1] G h Q ↔ zE 166 d Q 0 [some (zR (some r)), some (zI x1), none] [] G h (0, 0) := zrun_iff (zMR_lt rfl) rfl
theorem r167 : zRunD ztb zmt' (d + 1) 167 [zR (some r), zI x1, zI x2] G h Q ↔ zE 167 d Q 0 [some (zR (some r)), some (zI x1), some (zI x2)] [] G h (0, 0) := zrun_iff (zMR_lt rfl) rfl
theorem r168 : zRunD ztb zmt' (d + 1) 168 [zR (some r), zI x1, zI x2] G h Q ↔ zE 168 d Q 0 [some (zR (some r)), some (zI x1), some (zI x2)] [] G h (0, 0) := zrun_iff (zMR_lt rfl) rfl
theorem r169 : zRunD ztb zmt' (d + 1) 169 [zR (some r), zI x1] G h Q ↔ zE 169 d Q 0 [some (zR (some r)), some (zI x1), none] [] G h (0, 0) := zrun_iff (zMR_lt rfl) rfl
theorem r170 : zRunD ztb zmt' (d + 1) 170 [zR (some r)] G h Q ↔ zE 170 d Q 0 [some (zR (some r)), none, none] [] G h (0, 0) := zrun_iff (zMR_lt rfl) rfl
theorem r171 : zRunD ztb zmt' (d + 1) 171 [zR (some r), zI x1] G h Q ↔ zE 171 d Q 0 [some (zR (some r)), some (zI x1), none, none, none] [] G h (0, 0) := zrun_iff (zMR_lt rfl) rfl
theorem r172 : zRunD ztb zmt' (d + 1) 172 [zR (some r), zI x1] G h Q ↔ zE 172 d Q 0 [some (zR (some r)), some (zI x1), none, none] [] G h (0, 0) := zrun_iff (zMR_lt rfl) rfl
theorem r173 : zRunD ztb zmt' (d + 1) 173 [zR (some r), zI x1, zI x2] G h Q ↔ zE 173 d Q 0 [some (zR (some r)), some (zI x1), some (zI x2)] [] G h (0, 0) := zrun_iff (zMR_lt rfl) rfl
theorem r174 : zRunD ztb zmt' (d + 1) 174 [zR (some r), zI x1] G h Q ↔ zE 174 d Q 0 [some (zR (some r)), some (zI x1)] [] G h (0, 0) := zrun_iff (zMR_lt rfl) rfl
theorem r175 : zRunD ztb zmt' (d + 1) 175 [zR (some r), zI x1] G h Q ↔ zE 175 d Q 0 [some (zR (some r)), some (zI x1)] [] G h (0, 0) := zrun_iff (zMR_lt rfl) rfl
theorem r176 : zRunD ztb zmt' (d + 1) 176 [zR (some r), zI x1] G h Q ↔ zE 176 d Q 0 [some (zR (some r)), some (zI x1), none] [] G h (0, 0) := zrun_iff (zMR_lt rfl) rfl
theorem r177 : zRunD ztb zmt' (d + 1) 177 [zI x1, zI x2, zI x3] G h Q ↔ zE 177 d Q 0 [some (zI x1), some (zI x2), some (zI x3)] [] G h (0, 0) := zrun_iff (zMR_lt rfl) rfl
theorem r178 : zRunD ztb zmt' (d + 1) 178 [zR (some r), zI x1, zI x2, zI x3] G h Q ↔ zE 178 d Q 0 [some (zR (some r)), some (zI x1), some (zI x2), some (zI x3), none, none, none, none, none, none, none] [] G h (0, 0) := zrun_iff (zMR_lt rfl) rfl
theorem r179 : zRunD ztb zmt' (d + 1) 179 [zR (some r), zI x1] G h Q ↔ zE 179 d Q 0 [some (zR (some r)), some (zI x1), none, none, none, none, none, none, none, none, none, none] [] G h (0, 0) := zrun_iff (zMR_lt rfl) rfl
theorem r180 : zRunD ztb zmt' (d + 1) 180 [zR (some r), zI x1, zI x2, zI x3] G h Q ↔ zE 180 d Q 0 [some (zR (some r)), some (zI x1), some (zI x2), some (zI x3), none, none, none] [] G h (0, 0) := zrun_iff (zMR_lt rfl) rfl
theorem r181 : zRunD ztb zmt' (d + 1) 181 [zR (some r), zI x1, zI x2] G h Q ↔ zE 181 d Q 0 [some (zR (some r)), some (zI x1), some (zI x2)] [] G h (0, 0) := zrun_iff (zMR_lt rfl) rfl
theorem r182 : zRunD ztb zmt' (d + 1) 182 [zR (some r)] G h Q ↔ zE 182 d Q 0 [some (zR (some r)), none, none, none] [] G h (0, 0) := zrun_iff (zMR_lt rfl) rfl
theorem r183 : zRunD ztb zmt' (d + 1) 183 [zR (some r)] G h Q ↔ zE 183 d Q 0 [some (zR (some r)), none, none, none, none] [] G h (0, 0) := zrun_iff (zMR_lt rfl) rfl
theorem r184 : zRunD ztb zmt' (d + 1) 184 [zR (some r)] G h Q ↔ zE 184 d Q 0 [some (zR (some r)), none, none, none, none] [] G h (0, 0) := zrun_iff (zMR_lt rfl) rfl
theorem r185 : zRunD ztb zmt' (d + 1) 185 [zR (some r), zI x1] G h Q ↔ zE 185 d Q 0 [some (zR (some r)), some (zI x1)] [] G h (0, 0) := zrun_iff (zMR_lt rfl) rfl
theorem r186 : zRunD ztb zmt' (d + 1) 186 [zR (some r), zI x1] G h Q ↔ zE 186 d Q 0 [some (zR (some r)), some (zI x1), none] [] G h (0, 0) := zrun_iff (zMR_lt rfl) rfl
theorem r187 : zRunD ztb zmt' (d + 1) 187 [zR (some r), zI x1] G h Q ↔ zE 187 d Q 0 [some (zR (some r)), some (zI x1), none, none] [] G h (0, 0) := zrun_iff (zMR_lt rfl) rfl
theorem r188 : zRunD ztb zmt' (d + 1) 188 [zR (some r), zI x1, zI x2] G h Q ↔ zE 188 d Q 0 [some (zR (some r)), some (zI x1), some (zI x2)] [] G h (0, 0) := zrun_iff (zMR_lt rfl) rfl
theorem r189 : zRunD ztb zmt' (d + 1) 189 [zR (some r), zI x1] G h Q ↔ zE 189 d Q 0 [some (zR (some r)), some (zI x1)] [] G h (0, 0) := zrun_iff (zMR_lt rfl) rfl
theorem r190 : zRunD ztb zmt' (d + 1) 190 [zR (some r), zI x1, zI x2, zI x3] G h Q ↔ zE 190 d Q 0 [some (zR (some r)), some (zI x1), some (zI x2), some (zI x3)] [] G h (0, 0) := zrun_iff (zMR_lt rfl) rfl
theorem r191 : zRunD ztb zmt' (d + 1) 191 [zR (some r), zI x1] G h Q ↔ zE 191 d Q 0 [some (zR (some r)), some (zI x1), none, none, none, none] [] G h (0, 0) := zrun_iff (zMR_lt rfl) rfl
theorem r192 : zRunD ztb zmt' (d + 1) 192 [zR (some r), zI x1] G h Q ↔ zE 192 d Q 0 [some (zR (some r)), some (zI x1), none, none] [] G h (0, 0) := zrun_iff (zMR_lt rfl) rfl
theorem r193 : zRunD ztb zmt' (d + 1) 193 [zR (some r), zI x1] G h Q ↔ zE 193 d Q 0 [some (zR (some r)), some (zI x1), none] [] G h (0, 0) := zrun_iff (zMR_lt rfl) rfl
theorem r194 : zRunD ztb zmt' (d + 1) 194 [zR (some r), zI x1] G h Q ↔ zE 194 d Q 0 [some (zR (some r)), some (zI x1), none, none, none] [] G h (0, 0) := zrun_iff (zMR_lt rfl) rfl
theorem r195 : zRunD ztb zmt' (d + 1) 195 [zR (some r), zI x1, zI x2, zI x3] G h Q ↔ zE 195 d Q 0 [some (zR (some r)), some (zI x1), some (zI x2), some (zI x3)] [] G h (0, 0) := zrun_iff (zMR_lt rfl) rfl
theorem r196 : zRunD ztb zmt' (d + 1) 196 [zR (some r), zI x1, zI x2, zI x3] G h Q ↔ zE 196 d Q 0 [some (zR (some r)), some (zI x1), some (zI x2), some (zI x3), none] [] G h (0, 0) := zrun_iff (zMR_lt rfl) rfl
theorem r197 : zRunD ztb zmt' (d + 1) 197 [zR (some r), zI x1, zI x2, zI x3] G h Q ↔ zE 197 d Q 0 [some (zR (some r)), some (zI x1), some (zI x2), some (zI x3), none] [] G h (0, 0) := zrun_iff (zMR_lt rfl) rfl
theorem r198 : zRunD ztb zmt' (d + 1) 198 [zR (some r), zI x1, zI x2] G h Q ↔ zE 198 d Q 0 [some (zR (some r)), some (zI x1), some (zI x2), none, none, none, none] [] G h (0, 0) := zrun_iff (zMR_lt rfl) rfl
theorem r199 : zRunD ztb zmt' (d + 1) 199 [zR (some r), zI x1, zI x2] G h Q ↔ zE 199 d Q 0 [some (zR (some r)), some (zI x1), some (zI x2), none] [] G h (0, 0) := zrun_iff (zMR_lt rfl) rfl
theorem r200 : zRunD ztb zmt' (d + 1) 200 [zR (some r), zI x1, zI x2, zI x3] G h Q ↔ zE 200 d Q 0 [some (zR (some r)), some (zI x1), some (zI x2), some (zI x3)] [] G h (0, 0) := zrun_iff (zMR_lt rfl) rfl
theorem r201 : zRunD ztb zmt' (d + 1) 201 [zR (some r), zI x1, zI x2, zI x3] G h Q ↔ zE 201 d Q 0 [some (zR (some r)), some (zI x1), some (zI x2), some (zI x3)] [] G h (0, 0) := zrun_iff (zMR_lt rfl) rfl
theorem r202 : zRunD ztb zmt' (d + 1) 202 [zR (some r), zI x1, zI x2, zI x3] G h Q ↔ zE 202 d Q 0 [some (zR (some r)), some (zI x1), some (zI x2), some (zI x3)] [] G h (0, 0) := zrun_iff (zMR_lt rfl) rfl
theorem r203 : zRunD ztb zmt' (d + 1) 203 [zR (some r), zI x1, zI x2] G h Q ↔ zE 203 d Q 0 [some (zR (some r)), some (zI x1), some (zI x2), none, none, none, none, none, none] [] G h (0, 0) := zrun_iff (zMR_lt rfl) rfl
theorem r204 : zRunD ztb zmt' (d + 1) 204 [zR (some r), zI x1, zI x2] G h Q ↔ zE 204 d Q 0 [some (zR (some r)), some (zI x1), some (zI x2), none] [] G h (0, 0) := zrun_iff (zMR_lt rfl) rfl
theorem r205 : zRunD ztb zmt' (d + 1) 205 [zR (some r), zI x1, zI x2] G h Q ↔ zE 205 d Q 0 [some (zR (some r)), some (zI x1), some (zI x2), none] [] G h (0, 0) := zrun_iff (zMR_lt rfl) rfl
theorem r206 : zRunD ztb zmt' (d + 1) 206 [zR (some r), zI x1] G h Q ↔ zE 206 d Q 0 [some (zR (some r)), some (zI x1), none] [] G h (0, 0) := zrun_iff (zMR_lt rfl) rfl
theorem r207 : zRunD ztb zmt' (d + 1) 207 [zR (some r)] G h Q ↔ zE 207 d Q 0 [some (zR (some r)), none] [] G h (0, 0) := zrun_iff (zMR_lt rfl) rfl
theorem r208 : zRunD ztb zmt' (d + 1) 208 [zR (some r), zI x1, zI x2] G h Q ↔ zE 208 d Q 0 [some (zR (some r)), some (zI x1), some (zI x2), none] [] G h (0, 0) := zrun_iff (zMR_lt rfl) rfl
theorem r209 : zRunD ztb zmt' (d + 1) 209 [zR (some r), zI x1] G h Q ↔ zE 209 d Q 0 [some (zR (some r)), some (zI x1), none, none] [] G h (0, 0) := zrun_iff (zMR_lt rfl) rfl
theorem r210 : zRunD ztb zmt' (d + 1) 210 [zR (some r), zI x1] G h Q ↔ zE 210 d Q 0 [some (zR (some r)), some (zI x1)] [] G h (0, 0) := zrun_iff (zMR_lt rfl) rfl
theorem r211 : zRunD ztb zmt' (d + 1) 211 [zR (some r), zI x1, zI x2] G h Q ↔ zE 211 d Q 0 [some (zR (some r)), some (zI x1), some (zI x2)] [] G h (0, 0) := zrun_iff (zMR_lt rfl) rfl
theorem r212 : zRunD ztb zmt' (d + 1) 212 [zR (some r), zI x1, zI x2] G h Q ↔ zE 212 d Q 0 [some (zR (some r)), some (zI x1), some (zI x2)] [] G h (0, 0) := zrun_iff (zMR_lt rfl) rfl
theorem r213 : zRunD ztb zmt' (d + 1) 213 [zR (some r)] G h Q ↔ zE 213 d Q 0 [some (zR (some r))] [] G h (0, 0) := zrun_iff (zMR_lt rfl) rfl
theorem r214 : zRunD ztb zmt' (d + 1) 214 [zL x1, zL x2] G h Q ↔ zE 214 d Q 0 [some (zL x1), none, some (zL x2), none, none, none] [] G h (0, 0) := zrun_iff (zMR_lt rfl) rfl
theorem r215 : zRunD ztb zmt' (d + 1) 215 [zI x1, zI x2] G h Q ↔ zE 215 d Q 0 [some (zI x1), some (zI x2)] [] G h (0, 0) := zrun_iff (zMR_lt rfl) rfl
theorem r216 : zRunD ztb zmt' (d + 1) 216 [zL x1, zL x2] G h Q ↔ zE 216 d Q 0 [some (zL x1), none, some (zL x2), none] [] G h (0, 0) := zrun_iff (zMR_lt rfl) rfl
theorem r217 : zRunD ztb zmt' (d + 1) 217 [zI x1, zI x2] G h Q ↔ zE 217 d Q 0 [some (zI x1), some (zI x2)] [] G h (0, 0) := zrun_iff (zMR_lt rfl) rfl
theorem r218 : zRunD ztb zmt' (d + 1) 218 [.inr (.inr w1), zL x2] G h Q ↔ zE 218 d Q 0 [some (.inr (.inr w1)), some (zL x2), none, none, none] [] G h (0, 0) := zrun_iff (zMR_lt rfl) rfl
theorem r219 : zRunD ztb zmt' (d + 1) 219 [.inr (.inr w1), zI x2] G h Q ↔ zE 219 d Q 0 [some (.inr (.inr w1)), some (zI x2), none, none] [] G h (0, 0) := zrun_iff (zMR_lt rfl) rfl
theorem r220 : zRunD ztb zmt' (d + 1) 220 [.inr (.inr w1), zI x2, .inr (.inr w3)] G h Q ↔ zE 220 d Q 0 [some (.inr (.inr w1)), some (zI x2), some (.inr (.inr w3)), none] [] G h (0, 0) := zrun_iff (zMR_lt rfl) rfl
end ENT
