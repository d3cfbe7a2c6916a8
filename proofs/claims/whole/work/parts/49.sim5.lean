/-! ===== the coders' numbers ===== -/
theorem lN_tn {n : Nat} (h : n < 2 ^ 64) : (lN n).toBitVec.toNat = n := Nat.mod_eq_of_lt h
theorem lN_sshr {a : Nat} (h : a < 2 ^ 63) (s : Int64) (k : Nat) (hs : (s.toBitVec.smod 64).toNat = k) : lN a >>> s = lN (a / 2 ^ k) := by
  apply Int64.toInt_inj.mp
  have h2 : a / 2 ^ k ≤ a := Nat.div_le_self _ _
  have e : (lN a >>> s).toInt = (lN a).toInt >>> k := by
    show ((lN a).toBitVec.sshiftRight (s.toBitVec.smod 64).toNat).toInt = _
    rw [hs, BitVec.toInt_sshiftRight]
    rfl
  rw [e, pk_lT h, pk_lT (by omega), Int.shiftRight_eq_div_pow]
  rfl
theorem lN_ushr {a : Nat} (h : a < 2 ^ 63) (s : UInt64) (k : Nat) (hs : s.toNat % 64 = k) : ((lN a).toUInt64 >>> s).toInt64 = lN (a / 2 ^ k) := by
  refine bv_eq ?_
  have h2 : a / 2 ^ k ≤ a := Nat.div_le_self _ _
  rw [lN_tn (by omega)]
  show ((lN a).toUInt64 >>> s).toNat = _
  rw [UInt64.toNat_shiftRight, hs, Nat.shiftRight_eq_div_pow]
  show (lN a).toBitVec.toNat / 2 ^ k = _
  rw [lN_tn (by omega)]
theorem lN_255 {a : Nat} (h : a < 2 ^ 63) : lN a &&& 255 = lN (a % 256) := by
  refine bv_eq ?_
  have h2 : a % 256 ≤ a := Nat.mod_le _ _
  rw [Int64.toBitVec_and, BitVec.toNat_and, lN_tn (by omega), lN_tn (by omega), show (255 : Int64).toBitVec.toNat = 2 ^ 8 - 1 by decide, Nat.and_two_pow_sub_one_eq_mod]
theorem tpb_N {a : Nat} (h : a < 4294967296) : tpb (lN a) = nI (a / 16777216) := by
  unfold tpb
  rw [lN_ushr (by omega) _ 24 (by decide), lN_i]
theorem top_N {a : Nat} (h : a < 4294967296) : lN a >>> ((24 : Int32).toInt64 &&& 63) = lN (a / 16777216) := lN_sshr (by omega) _ 24 (by decide)
theorem tpS_N {a : Nat} (h : a < 4294967296) : tpS (lN a) = nI (a / 16777216) := by
  unfold tpS
  rw [top_N h, lN_i]
theorem sh8_N {a : Nat} (h : a < 4294967296) : sh8 (lN a) = lN (256 * (a % 16777216)) := by
  refine bv_eq ?_
  rw [sh8_nat, lN_tn (by omega), lN_tn (by omega)]
  omega
theorem sh8a_N {a : Nat} (h : a < 4294967296) : sh8 (lN a) + 255 = lN (256 * (a % 16777216) + 255) := by
  rw [sh8_N h]
  exact lN_add _ 255
theorem sh8o_N {a : Nat} (h : a < 4294967296) : sh8 (lN a) ||| 255 = lN (256 * (a % 16777216) + 255) := by
  refine bv_eq ?_
  rw [sh8_or, lN_tn (by omega), lN_tn (by omega)]
/-! ===== the interval and the code's bytes, side by side ===== -/
def RowQ (r : Row) (c : Nat) (f : Nat → Int32) : Prop := q_c r = c ∧ ∀ i, i < c → q_f r i = f i
def RowB (r : Row) : Prop := ∀ i, i < q_c r → isN (q_f r i) 0 255
def IE (y : Mx) (v : RS) (a b : Nat) : Prop := (v_lo (x_iv y) = lN a ∧ v_hi (x_iv y) = lN b) ∧ (r_lw v = lN a ∧ r_hg v = lN b) ∧ RowQ (x_en y) (r_cs v) (r_cd v) ∧ RowB (x_en y)
theorem set_sam {y : Mx} {v : RS} {a b : Nat} (h : IE y v a b) (ha : a < 4294967296) (hb : b < 4294967296) : (v_set (x_iv y) = 0 ↔ ¬ a / 16777216 = b / 16777216) ∧ (r_sam v = 0 ↔ ¬ a / 16777216 = b / 16777216) := by
  obtain ⟨⟨h1, h2⟩, ⟨h3, h4⟩, -, -⟩ := h
  constructor
  · unfold v_set
    rw [h1, h2, tpb_N ha, tpb_N hb]
    by_cases g : a / 16777216 = b / 16777216
    · rw [if_pos (by rw [g])]
      exact ⟨fun h9 => absurd h9 (by decide), fun h9 => absurd g h9⟩
    · rw [if_neg (fun h9 => g ((nI_eq (by omega) (by omega)).mp h9))]
      exact ⟨fun _ => g, fun _ => rfl⟩
  · unfold r_sam
    rw [h3, h4, top_N ha, top_N hb]
    by_cases g : a / 16777216 = b / 16777216
    · rw [if_pos ((lg_cmp_eq _ _).mpr (by rw [g]))]
      exact ⟨fun h9 => absurd h9 (by decide), fun h9 => absurd g h9⟩
    · rw [if_neg (fun h9 => g ((lN_eq (by omega) (by omega)).mp ((lg_cmp_eq _ _).mp h9)))]
      exact ⟨fun _ => g, fun _ => rfl⟩
theorem app_Q {r : Row} {c lim : Nat} {f : Nat → Int32} {x : Int32} (h : RowQ r c f) (hl : c < lim) : RowQ (q_app lim r x) (c + 1) (upd f c x) := by
  obtain ⟨rfl, h2⟩ := h
  unfold q_app
  rw [if_pos hl]
  refine ⟨rfl, fun i hi => ?_⟩
  show upd (q_f r) (q_c r) x i = upd f (q_c r) x i
  by_cases g : i = q_c r
  · subst g
    rw [pk_us, pk_us]
  · rw [pk_un g, pk_un g]
    exact h2 i (by omega)
theorem app_B {r : Row} {lim : Nat} {x : Int32} (h : RowB r) (hx : isN x 0 255) : RowB (q_app lim r x) := by
  unfold q_app
  split
  · intro i hi
    have hi : i < q_c r + 1 := hi
    show isN (upd (q_f r) (q_c r) x i) 0 255
    by_cases g : i = q_c r
    · subst g
      rw [pk_us]
      exact hx
    · rw [pk_un g]
      exact h i (by omega)
  · exact h
theorem r_put_cd (x : Int32) (v : RS) : r_cd (r_put x v) = upd (r_cd v) (r_cs v) x := by unfold r_put; rw [r_cd_cs, r_cd_cd]
theorem r_ps_cd (v : RS) : r_cd (r_ps v) = upd (r_cd v) (r_cs v) (tpS (r_lw v)) := by
  unfold r_ps r_shf
  rw [r_cd_hg, r_cd_lw, r_put_cd]
theorem x_ps_iv (y : Mx) : x_iv (x_ps y) = v_shf (x_iv y) := by unfold x_ps; rw [x_iv_en, x_iv_iv]
theorem x_ps_en (y : Mx) : x_en (x_ps y) = q_app 2564 (x_en y) (tpb (v_lo (x_iv y))) := by unfold x_ps; rw [x_en_en]
theorem v_shf_lo (v : Iv) : v_lo (v_shf v) = sh8 (v_lo v) := by unfold v_shf; rw [v_lo_hi, v_lo_lo]
theorem v_shf_hi (v : Iv) : v_hi (v_shf v) = sh8 (v_hi v) + 255 := by unfold v_shf; rw [v_hi_hi]
/-- one byte moves out -/
theorem IE_ps {y : Mx} {v : RS} {a b : Nat} (h : IE y v a b) (ha : a < 4294967296) (hb : b < 4294967296) (hc : q_c (x_en y) < 2564) : IE (x_ps y) (r_ps v) (256 * (a % 16777216)) (256 * (b % 16777216) + 255) := by
  obtain ⟨⟨h1, h2⟩, ⟨h3, h4⟩, h5, h6⟩ := h
  refine ⟨⟨?_, ?_⟩, ⟨?_, ?_⟩, ?_, ?_⟩
  · rw [x_ps_iv, v_shf_lo, h1, sh8_N ha]
  · rw [x_ps_iv, v_shf_hi, h2, sh8a_N hb]
  · rw [r_ps_lw, h3, sh8_N ha]
  · rw [r_ps_hg, h4, sh8o_N hb]
  · rw [x_ps_en, r_ps_cs, r_ps_cd, h1, h3, tpb_N ha, tpS_N ha]
    exact app_Q h5 (by rw [← h5.1]; exact hc)
  · rw [x_ps_en, h1, tpb_N ha]
    exact app_B h6 ⟨_, by omega, by omega, rfl⟩
/-- what the coders' steps leave alone, of the class and of the reference -/
abbrev RT9 : Type := PvT × Int32 × Int64 × Int32 × Nat × (Nat → Int32) × Nat × (Nat → Int32)
def rk (v : RS) : RT9 := (pv v, r_ob v, r_er v, r_th v, r_sz v, r_tx v, r_mk v, r_ou v)
theorem rk_hg (u : RS) (x : Int64) : rk (rs_hg u x) = rk u := by unfold rk; rw [pv_hg, r_ob_hg, r_er_hg, r_th_hg, r_sz_hg, r_tx_hg, r_mk_hg, r_ou_hg]
theorem rk_lw (u : RS) (x : Int64) : rk (rs_lw u x) = rk u := by unfold rk; rw [pv_lw, r_ob_lw, r_er_lw, r_th_lw, r_sz_lw, r_tx_lw, r_mk_lw, r_ou_lw]
theorem rk_cs (u : RS) (x : Nat) : rk (rs_cs u x) = rk u := by unfold rk; rw [pv_cs, r_ob_cs, r_er_cs, r_th_cs, r_sz_cs, r_tx_cs, r_mk_cs, r_ou_cs]
theorem rk_cd (u : RS) (x : Nat → Int32) : rk (rs_cd u x) = rk u := by unfold rk; rw [pv_cd, r_ob_cd, r_er_cd, r_th_cd, r_sz_cd, r_tx_cd, r_mk_cd, r_ou_cd]
theorem rk_ps (v : RS) : rk (r_ps v) = rk v := by unfold r_ps r_shf r_put; rw [rk_hg, rk_lw, rk_cs, rk_cd]
theorem IE_wh : ∀ (n : Nat) (y : Mx) (v : RS) (a b : Nat), IE y v a b → a ≤ b → b < 4294967296 → q_c (x_en y) + n ≤ 2564 → ∃ a' b' : Nat, IE (x_wh n y) (r_wh n v) a' b' ∧ a' ≤ b' ∧ b' < 4294967296 ∧ rk (r_wh n v) = rk v ∧ q_c (x_en (x_wh n y)) ≤ q_c (x_en y) + n
  | 0, y, v, a, b, h, h1, h2, _ => ⟨a, b, h, h1, h2, rfl, Nat.le_refl _⟩
  | n + 1, y, v, a, b, h, h1, h2, h3 => by
    obtain ⟨s1, s2⟩ := set_sam h (by omega) h2
    show ∃ a' b' : Nat, IE (if v_set (x_iv y) = 0 then y else x_wh n (x_ps y)) (if r_sam v = 0 then v else r_wh n (r_ps v)) a' b' ∧ a' ≤ b' ∧ b' < 4294967296 ∧ rk (if r_sam v = 0 then v else r_wh n (r_ps v)) = rk v ∧ q_c (x_en (if v_set (x_iv y) = 0 then y else x_wh n (x_ps y))) ≤ q_c (x_en y) + (n + 1)
    by_cases g : a / 16777216 = b / 16777216
    · rw [if_neg (fun h9 => absurd g (s1.mp h9)), if_neg (fun h9 => absurd g (s2.mp h9))]
      have hp := IE_ps h (by omega) h2 (by omega)
      have hcn : q_c (x_en (x_ps y)) = q_c (x_en y) + 1 := by rw [x_ps_en]; exact (app_Q ⟨rfl, fun _ _ => rfl⟩ (by omega)).1
      obtain ⟨a', b', g1, g2, g3, g4, g5⟩ := IE_wh n (x_ps y) (r_ps v) _ _ hp (by omega) (by omega) (by omega)
      exact ⟨a', b', g1, g2, g3, g4.trans (rk_ps v), by omega⟩
    · rw [if_pos (s1.mpr g), if_pos (s2.mpr g)]
      exact ⟨a, b, h, h1, h2, rfl, by omega⟩
theorem psn_s (v : RS) : ∀ n, r_psn n (r_ps v) = r_psn (n + 1) v
  | 0 => rfl
  | n + 1 => congrArg r_ps (psn_s v n)
theorem wh_end : ∀ (n : Nat) (v : RS), r_sam (r_wh n v) = 0 ∨ r_wh n v = r_psn n v
  | 0, v => Or.inr rfl
  | n + 1, v => by
    show r_sam (if r_sam v = 0 then v else r_wh n (r_ps v)) = 0 ∨ (if r_sam v = 0 then v else r_wh n (r_ps v)) = r_psn (n + 1) v
    by_cases g : r_sam v = 0
    · rw [if_pos g]
      exact Or.inl g
    · rw [if_neg g, ← psn_s]
      exact wh_end n (r_ps v)
theorem wh_sam (v : RS) : r_sam (r_wh 4 v) = 0 := by
  rcases wh_end 4 v with h | h
  · exact h
  · rw [h]; exact H4ps v
