theorem bv_bit (x : BitVec 32) (k : Nat) (hk : k < 32) : x.sshiftRight k &&& 1#32 = if x.getLsbD k then 1#32 else 0#32 := by
  apply BitVec.eq_of_getLsbD_eq
  intro i hi
  by_cases e : i = 0
  · subst e
    by_cases b : x.getLsbD k = true
    · rw [if_pos b]
      simp [BitVec.getLsbD_sshiftRight, b, hk]
    · rw [if_neg b]
      have b' : x.getLsbD k = false := by simpa using b
      rw [BitVec.getLsbD_and, BitVec.getLsbD_sshiftRight]
      simp [hk]
      rw [← BitVec.getLsbD_eq_getElem]
      exact b'
  · by_cases b : x.getLsbD k = true
    · rw [if_pos b]
      simp [BitVec.getLsbD_one, e]
    · rw [if_neg b]
      simp [BitVec.getLsbD_one, e]
theorem sh_bv {e : Int} (e0 : 0 ≤ e) (e1 : e < 12) : (iI e &&& 31).toBitVec.smod 32 = BitVec.ofNat 32 e.toNat := by
  rcases (show e = 0 ∨ e = 1 ∨ e = 2 ∨ e = 3 ∨ e = 4 ∨ e = 5 ∨ e = 6 ∨ e = 7 ∨ e = 8 ∨ e = 9 ∨ e = 10 ∨ e = 11 by omega) with rfl | rfl | rfl | rfl | rfl | rfl | rfl | rfl | rfl | rfl | rfl | rfl <;> rfl
def bitV (m e : Int) : Int := iand (ishr m e) 1
theorem bitV_eq {m e : Int} (e0 : 0 ≤ e) (e1 : e < 12) : bitV m e = if (iI m).toBitVec.getLsbD e.toNat then 1 else 0 := by
  have hs : (iI m >>> (iI e &&& 31)).toBitVec = (iI m).toBitVec.sshiftRight e.toNat := by
    rw [Int32.toBitVec_shiftRight, sh_bv e0 e1]
    show (iI m).toBitVec.sshiftRight (BitVec.ofNat 32 e.toNat).toNat = _
    rw [BitVec.toNat_ofNat, Nat.mod_eq_of_lt (by omega)]
  have h1 : (iI 1).toBitVec = 1#32 := rfl
  unfold bitV iand ishr
  rw [iI_of]
  have e2 : ((iI m >>> (iI e &&& 31)) &&& iI 1).toBitVec = if (iI m).toBitVec.getLsbD e.toNat then 1#32 else 0#32 := by
    rw [Int32.toBitVec_and, hs, h1, bv_bit _ _ (by omega)]
  have e3 : ((iI m >>> (iI e &&& 31)) &&& iI 1).toInt = ((iI m >>> (iI e &&& 31)) &&& iI 1).toBitVec.toInt := rfl
  rw [e3, e2]
  split <;> rfl
theorem bitV_or {m d e : Int} (d0 : 0 ≤ d) (d1 : d < 12) (e0 : 0 ≤ e) (e1 : e < 12) : bitV (ior m (ishl 1 d)) e = if e = d then 1 else bitV m e := by
  rw [bitV_eq e0 e1, bitV_eq e0 e1]
  have e2 : (iI (ior m (ishl 1 d))).toBitVec = (iI m).toBitVec ||| (1#32 <<< d.toNat) := by
    unfold ior ishl
    rw [iI_of, iI_of, Int32.toBitVec_or, Int32.toBitVec_shiftLeft, sh_bv d0 d1]
    congr 1
    rw [BitVec.shiftLeft_eq', BitVec.toNat_ofNat]
    have : d.toNat % 2 ^ 32 = d.toNat := Nat.mod_eq_of_lt (by omega)
    rw [this]
    rfl
  rw [e2]
  by_cases z : e = d
  · subst z
    rw [if_pos rfl]
    simp [BitVec.getLsbD_shiftLeft]
    omega
  · rw [if_neg z]
    have z2 : e.toNat ≠ d.toNat := by omega
    have z3 : (1#32 <<< d.toNat).getLsbD e.toNat = false := by
      simp [BitVec.getLsbD_shiftLeft, BitVec.getLsbD_one]
      omega
    rw [BitVec.getLsbD_or, z3, Bool.or_false]
theorem bitV_zero {e : Int} (e0 : 0 ≤ e) (e1 : e < 12) : bitV 0 e = 0 := by
  rw [bitV_eq e0 e1]
  have : (iI 0).toBitVec = 0#32 := rfl
  rw [this]
  simp
