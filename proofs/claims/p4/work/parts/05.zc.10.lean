/-! bytes of the tape -/
theorem nar_8 (x : Int32) : vp_nar .byte x = x.toInt8.toInt32 := rfl
theorem nar_rng (x : Int32) : -128 ≤ (vp_nar .byte x).toInt ∧ (vp_nar .byte x).toInt ≤ 127 := by
  rw [nar_8, Int8.toInt_toInt32]
  have h1 := x.toInt8.le_toInt
  have h2 := x.toInt8.toInt_lt
  omega
theorem nar_sh {a b : Int32} (h : a.toBitVec.setWidth 8 = b.toBitVec.setWidth 8) : vp_nar .byte a = vp_nar .byte b := by
  rw [nar_8, nar_8]
  have e : a.toInt8 = b.toInt8 := by
    apply Int8.toBitVec_inj.mp
    show a.toBitVec.signExtend 8 = b.toBitVec.signExtend 8
    rw [BitVec.signExtend_eq_setWidth_of_le _ (by decide), BitVec.signExtend_eq_setWidth_of_le _ (by decide)]
    exact h
  rw [e]
theorem bv_sh (x : BitVec 32) {k : Nat} (hk : k ≤ 24) : (x >>> k).setWidth 8 = (x.sshiftRight k).setWidth 8 := by
  apply BitVec.eq_of_getLsbD_eq
  intro i hi
  rw [BitVec.getLsbD_setWidth, BitVec.getLsbD_setWidth, BitVec.getLsbD_ushiftRight, BitVec.getLsbD_sshiftRight]
  have h1 : ¬ 32 ≤ i := by omega
  have h2 : k + i < 32 := by omega
  simp [h1, h2]
theorem tp_sh (x : Int32) (k : Nat) (c : UInt32) (d : Int32) (hk : k ≤ 24) (hc : c.toBitVec % 32 = BitVec.ofNat 32 k) (hd : d.toBitVec.smod 32 = BitVec.ofNat 32 k) : vp_nar .byte ((x.toUInt32 >>> c).toInt32) = vp_nar .byte (x >>> d) := by
  apply nar_sh
  have e1 : ((x.toUInt32 >>> c).toInt32).toBitVec = x.toBitVec >>> k := by
    show (x.toUInt32 >>> c).toBitVec = _
    rw [UInt32.toBitVec_shiftRight, hc, BitVec.ushiftRight_eq', BitVec.toNat_ofNat, Nat.mod_eq_of_lt (by omega)]
    rfl
  have e2 : (x >>> d).toBitVec = x.toBitVec.sshiftRight k := by
    rw [Int32.toBitVec_shiftRight, hd]
    show x.toBitVec.sshiftRight (BitVec.ofNat 32 k).toNat = _
    rw [BitVec.toNat_ofNat, Nat.mod_eq_of_lt (by omega)]
  rw [e1, e2]
  exact bv_sh _ hk
theorem tp_24 (x : Int32) : vp_nar .byte ((x.toUInt32 >>> ((iI 24).toUInt32 &&& Int32.toUInt32 31)).toInt32) = vp_nar .byte (x >>> (iI 24 &&& 31)) := tp_sh x 24 _ _ (by omega) (by decide) (by decide)
theorem tp_16 (x : Int32) : vp_nar .byte ((x.toUInt32 >>> ((iI 16).toUInt32 &&& Int32.toUInt32 31)).toInt32) = vp_nar .byte (x >>> (iI 16 &&& 31)) := tp_sh x 16 _ _ (by omega) (by decide) (by decide)
theorem tp_8 (x : Int32) : vp_nar .byte ((x.toUInt32 >>> ((iI 8).toUInt32 &&& Int32.toUInt32 31)).toInt32) = vp_nar .byte (x >>> (iI 8 &&& 31)) := tp_sh x 8 _ _ (by omega) (by decide) (by decide)
theorem tp_0 (x : Int32) : vp_nar .byte ((x.toUInt32 >>> ((iI 0).toUInt32 &&& Int32.toUInt32 31)).toInt32) = vp_nar .byte (x >>> (iI 0 &&& 31)) := tp_sh x 0 _ _ (by omega) (by decide) (by decide)

