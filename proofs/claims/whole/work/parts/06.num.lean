theorem zn_add (a b : Int32) : (a + b).toInt = wr (a.toInt + b.toInt) := Int32.toInt_add a b
theorem zn_sub (a b : Int32) : (a - b).toInt = wr (a.toInt - b.toInt) := Int32.toInt_sub a b
theorem zn_mul (a b : Int32) : (a * b).toInt = wr (a.toInt * b.toInt) := Int32.toInt_mul a b
theorem zn_div (a b : Int32) : (a / b).toInt = wr (a.toInt.tdiv b.toInt) := Int32.toInt_div a b
theorem zn_addL (a b : Int64) : (a + b).toInt = wl (a.toInt + b.toInt) := Int64.toInt_add a b
theorem zn_subL (a b : Int64) : (a - b).toInt = wl (a.toInt - b.toInt) := Int64.toInt_sub a b
theorem zn_mulL (a b : Int64) : (a * b).toInt = wl (a.toInt * b.toInt) := Int64.toInt_mul a b
theorem zn_divL (a b : Int64) : (a / b).toInt = wl (a.toInt.tdiv b.toInt) := Int64.toInt_div a b
theorem zn_negL (a : Int64) : (-a).toInt = wl (-a.toInt) := Int64.toInt_neg a
theorem zn_of (a : Int32) : Int32.ofInt a.toInt = a := Int32.toInt_inj.mp (by rw [Int32.toInt_ofInt]; exact Int32.toInt_bmod a)
theorem zn_ofL (a : Int64) : Int64.ofInt a.toInt = a := Int64.toInt_inj.mp (by rw [Int64.toInt_ofInt]; exact Int64.toInt_bmod a)
theorem zn_and (a b : Int32) : (a &&& b).toInt = zand a.toInt b.toInt := by unfold zand; rw [zn_of, zn_of]
theorem zn_or (a b : Int32) : (a ||| b).toInt = zor a.toInt b.toInt := by unfold zor; rw [zn_of, zn_of]
theorem zn_xorL (a b : Int64) : (a ^^^ b).toInt = zxl a.toInt b.toInt := by unfold zxl; rw [zn_ofL, zn_ofL]
theorem zn_rem (a b : Int32) : (a - a / b * b).toInt = a.toInt.tmod b.toInt := by
  rw [zn_sub, zn_mul, zn_div]
  unfold wr
  have e : a.toInt.tmod b.toInt = a.toInt - b.toInt * a.toInt.tdiv b.toInt := Int.tmod_def _ _
  have h1 : (a.toInt - ((a.toInt.tdiv b.toInt).bmod 4294967296 * b.toInt).bmod 4294967296).bmod 4294967296 = (a.toInt.tmod b.toInt).bmod 4294967296 := by
    have e2 : ((a.toInt.tdiv b.toInt).bmod 4294967296 * b.toInt).bmod 4294967296 = (b.toInt * a.toInt.tdiv b.toInt).bmod 4294967296 := by rw [Int.bmod_mul_bmod, Int.mul_comm]
    rw [e, e2, Int.sub_bmod_bmod]
  rw [h1]
  have h2 : (a % b).toInt = a.toInt.tmod b.toInt := Int32.toInt_mod a b
  rw [← h2]
  exact Int32.toInt_bmod _
theorem zn_idx {c : Int32} {i : Int} (h : c.toInt = i) : c.toNatClampNeg = i.toNat := by rw [← h]; rfl
theorem zn_in {c : Int32} {i : Int} {n : Nat} (h : c.toInt = i) (h1 : 0 ≤ i ∧ i < n) : vp_in c n := vp_in_iff.mpr (by rw [h]; exact h1)
theorem zn_s5 : ∀ n, n < 32 → ((nI n &&& 31).toBitVec.smod 32).toNat = n := by decide
theorem zn_nI {c : Int32} {i : Int} (h : c.toInt = i) (h1 : 0 ≤ i) : c = nI i.toNat := by
  apply Int32.toInt_inj.mp
  have h2 := Int32.toInt_lt c
  rw [nI_toInt (by omega)]
  omega
theorem zn_toNat (c : Int32) : (c.toBitVec.toNat : Int).bmod 4294967296 = c.toInt := (BitVec.toInt_eq_toNat_bmod c.toBitVec).symm
theorem zn_shl {a b : Int32} {y : Int} (hb : b.toInt = y) (hy : 0 ≤ y ∧ y < 32) : (a <<< (b &&& 31)).toInt = wr (a.toInt * 2 ^ y.toNat) := by
  rw [zn_nI hb hy.1]
  have h := pk_shl a (nI y.toNat &&& 31) y.toNat (zn_s5 y.toNat (by omega))
  rw [← zn_toNat, h]
  unfold wr
  have e1 : (((a.toBitVec.toNat * 2 ^ y.toNat % 2 ^ 32 : Nat) : Int)).bmod 4294967296 = ((a.toBitVec.toNat : Int) * 2 ^ y.toNat).bmod 4294967296 := by
    rw [Int.natCast_emod, Int.natCast_mul, Int.natCast_pow, Int.natCast_pow]
    exact Int.emod_bmod ..
  rw [e1, ← zn_toNat a, Int.bmod_mul_bmod]
theorem zn_shr {a b : Int32} {y : Int} (hb : b.toInt = y) (hy : 0 ≤ y ∧ y < 32) : (a >>> (b &&& 31)).toInt = a.toInt / 2 ^ y.toNat := by
  rw [zn_nI hb hy.1, pk_shr a (nI y.toNat &&& 31) y.toNat (zn_s5 y.toNat (by omega)), Int.shiftRight_eq_div_pow, Int.natCast_pow]
  rfl
theorem zn_cmp (x y : Int64) : (lg_cmp x y).toInt = zlc x.toInt y.toInt := by
  unfold lg_cmp zlc
  have h1 : x > y ↔ y.toInt < x.toInt := Int64.lt_iff_toInt_lt
  have h2 : x = y ↔ x.toInt = y.toInt := Int64.toInt_inj.symm
  by_cases c1 : x > y
  · rw [if_pos c1, if_pos (h1.mp c1)]; rfl
  · rw [if_neg c1, if_neg (fun q => c1 (h1.mpr q))]
    by_cases c2 : x = y
    · rw [if_pos c2, if_pos (h2.mp c2)]; rfl
    · rw [if_neg c2, if_neg (fun q => c2 (h2.mpr q))]; rfl
theorem zn_lt {x y : Int32} : x < y ↔ x.toInt < y.toInt := Int32.lt_iff_toInt_lt
theorem zn_le {x y : Int32} : x ≤ y ↔ x.toInt ≤ y.toInt := Int32.le_iff_toInt_le
theorem zn_eq {x y : Int32} : x = y ↔ x.toInt = y.toInt := Int32.toInt_inj.symm
theorem zn_0 : (0 : Int32).toInt = 0 := rfl
theorem zn_i2b (c : Int32) : c.toInt8.toInt32.toInt = wb c.toInt := by
  rw [Int8.toInt_toInt32, Int32.toInt_toInt8]; rfl
theorem zn_bool {c : Int32} (h : c.toInt = 0 ∨ c.toInt = 1) : narrow .boolean (.int c) = .int c ∧ fits .boolean (.int c) = true ∧ vp_nar .boolean c = c := by
  have h1 : c = 0 ∨ c = 1 := h.imp (fun q => Int32.toInt_inj.mp (by rw [q]; rfl)) (fun q => Int32.toInt_inj.mp (by rw [q]; rfl))
  rcases h1 with rfl | rfl <;> exact ⟨by decide, by decide, by decide⟩
theorem zn_wb0 : wb 0 = 0 := by decide
theorem zn_wb1 : wb 1 = 1 := by decide
