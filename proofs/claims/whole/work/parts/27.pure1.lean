/-! ===== four shifts: low is 0, high is 2^32 - 1 ===== -/
theorem sh8_nat (x : Int64) : (sh8 x).toBitVec.toNat = x.toBitVec.toNat * 256 % 4294967296 := by
  have e1 : (sh8 x).toBitVec = (x.toBitVec <<< 8) &&& 4294967295#64 := by
    unfold sh8
    rw [Int64.toBitVec_and, Int64.toBitVec_shiftLeft]
    rfl
  have e2 : (4294967295#64 : BitVec 64).toNat = 2 ^ 32 - 1 := by decide
  rw [e1, BitVec.toNat_and, e2, Nat.and_two_pow_sub_one_eq_mod, BitVec.toNat_shiftLeft, Nat.shiftLeft_eq]
  omega
theorem or255_nat (x : Int64) (m : Nat) (h : x.toBitVec.toNat = 256 * m) : (x ||| 255).toBitVec.toNat = 256 * m + 255 := by
  have e2 : (255 : Int64).toBitVec.toNat = 255 := by decide
  rw [Int64.toBitVec_or, BitVec.toNat_or, h, e2]
  have q := Nat.two_pow_add_eq_or_of_lt (i := 8) (b := 255) (by decide) m
  rw [show (2 : Nat) ^ 8 = 256 from rfl] at q
  exact q.symm
theorem sh8_or (x : Int64) : (sh8 x ||| 255).toBitVec.toNat = 256 * (x.toBitVec.toNat % 16777216) + 255 := by
  refine or255_nat _ _ ?_
  rw [sh8_nat]
  omega
theorem bv_eq {x y : Int64} (h : x.toBitVec.toNat = y.toBitVec.toNat) : x = y := Int64.toBitVec_inj.mp (BitVec.eq_of_toNat_eq h)
theorem sh8_4 (x : Int64) : sh8 (sh8 (sh8 (sh8 x))) = 0 := by
  refine bv_eq ?_
  rw [sh8_nat, sh8_nat, sh8_nat, sh8_nat]
  have e0 : (0 : Int64).toBitVec.toNat = 0 := by decide
  rw [e0]
  omega
theorem shO_4 (x : Int64) : sh8 (sh8 (sh8 (sh8 x ||| 255) ||| 255) ||| 255) ||| 255 = 4294967295 := by
  refine bv_eq ?_
  rw [sh8_or, sh8_or, sh8_or, sh8_or]
  have e0 : (4294967295 : Int64).toBitVec.toNat = 4294967295 := by decide
  rw [e0]
  omega
theorem r_shf_lw (u : RS) : r_lw (r_shf u) = sh8 (r_lw u) := by unfold r_shf; rw [r_lw_hg, r_lw_lw]
theorem r_shf_hg (u : RS) : r_hg (r_shf u) = sh8 (r_hg u) ||| 255 := by unfold r_shf; rw [r_hg_hg]
theorem r_put_lw (v : Int32) (u : RS) : r_lw (r_put v u) = r_lw u := by unfold r_put; rw [r_lw_cs, r_lw_cd]
theorem r_put_hg (v : Int32) (u : RS) : r_hg (r_put v u) = r_hg u := by unfold r_put; rw [r_hg_cs, r_hg_cd]
theorem r_ps_lw (u : RS) : r_lw (r_ps u) = sh8 (r_lw u) := by unfold r_ps; rw [r_shf_lw, r_put_lw]
theorem r_ps_hg (u : RS) : r_hg (r_ps u) = sh8 (r_hg u) ||| 255 := by unfold r_ps; rw [r_shf_hg, r_put_hg]
theorem r_sam_full {u : RS} (h1 : r_lw u = 0) (h2 : r_hg u = 4294967295) : r_sam u = 0 := by
  unfold r_sam
  rw [h1, h2]
  decide
/-- behind four shifts the highest bytes differ: the reference's loops end -/
theorem H4ps (v : RS) : r_sam (r_psn 4 v) = 0 := by
  refine r_sam_full ?_ ?_
  · show r_lw (r_ps (r_ps (r_ps (r_ps v)))) = 0
    rw [r_ps_lw, r_ps_lw, r_ps_lw, r_ps_lw, sh8_4]
  · show r_hg (r_ps (r_ps (r_ps (r_ps v)))) = 4294967295
    rw [r_ps_hg, r_ps_hg, r_ps_hg, r_ps_hg, shO_4]
theorem H4sh (v : RS) : r_sam (r_shn 4 v) = 0 := by
  refine r_sam_full ?_ ?_
  · show r_lw (r_shf (r_shf (r_shf (r_shf v)))) = 0
    rw [r_shf_lw, r_shf_lw, r_shf_lw, r_shf_lw, sh8_4]
  · show r_hg (r_shf (r_shf (r_shf (r_shf v)))) = 4294967295
    rw [r_shf_hg, r_shf_hg, r_shf_hg, r_shf_hg, shO_4]
