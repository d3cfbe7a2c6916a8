/-! ===== both encode alike ===== -/
abbrev RjT9 : Type := Int32 × Nat × (Nat → Int32) × Nat × (Nat → Int32)
def rj (v : RS) : RjT9 := (r_th v, r_sz v, r_tx v, r_mk v, r_ou v)
theorem rj_rk {u v : RS} (h : rk u = rk v) : rj u = rj v := by
  have h1 : r_th u = r_th v := congrArg (fun q : RT9 => q.2.2.2.1) h
  have h2 : r_sz u = r_sz v := congrArg (fun q : RT9 => q.2.2.2.2.1) h
  have h3 : r_tx u = r_tx v := congrArg (fun q : RT9 => q.2.2.2.2.2.1) h
  have h4 : r_mk u = r_mk v := congrArg (fun q : RT9 => q.2.2.2.2.2.2.1) h
  have h5 : r_ou u = r_ou v := congrArg (fun q : RT9 => q.2.2.2.2.2.2.2) h
  unfold rj
  rw [h1, h2, h3, h4, h5]
theorem rj_qv {u v : RS} (h : qv u = qv v) : rj u = rj v := by
  have h1 : r_th u = r_th v := congrArg (fun q : QT => q.1) h
  have h2 : r_sz u = r_sz v := congrArg (fun q : QT => q.2.2.2.2.2.1) h
  have h3 : r_tx u = r_tx v := congrArg (fun q : QT => q.2.2.2.2.2.2.1) h
  have h4 : r_mk u = r_mk v := congrArg (fun q : QT => q.2.2.2.2.2.2.2.2.2.1) h
  have h5 : r_ou u = r_ou v := congrArg (fun q : QT => q.2.2.2.2.2.2.2.2.2.2.1) h
  unfold rj
  rw [h1, h2, h3, h4, h5]
theorem qv_cs {u v : RS} (h : qv u = qv v) : r_cs u = r_cs v := congrArg (fun q : QT => q.2.2.2.2.2.2.2.1) h
theorem qv_cd {u v : RS} (h : qv u = qv v) : r_cd u = r_cd v := congrArg (fun q : QT => q.2.2.2.2.2.2.2.2.1) h
theorem qv_lw {u v : RS} (h : qv u = qv v) : r_lw u = r_lw v := congrArg (fun q : QT => q.2.2.2.2.2.2.2.2.2.2.2.1) h
theorem qv_hg {u v : RS} (h : qv u = qv v) : r_hg u = r_hg v := congrArg (fun q : QT => q.2.2.2.2.2.2.2.2.2.2.2.2) h
theorem rk_pv {u v : RS} (h : rk u = rk v) : pv u = pv v := congrArg (fun q : RT9 => q.1) h
theorem PR_rk {k : Pr} {u v : RS} (h : rk u = rk v) (hp : PR k v) : PR k u := by
  have h1 : r_ob u = r_ob v := congrArg (fun q : RT9 => q.2.1) h
  have h2 : r_er u = r_er v := congrArg (fun q : RT9 => q.2.2.1) h
  exact ⟨PV_pv (rk_pv h) hp.1, by rw [h1]; exact hp.2.1, by rw [h2]; exact hp.2.2⟩
/-- the middle -/
theorem mid_N {lo hi : Int64} {q : Int32} {a b : Nat} (h1 : lo = lN a) (h2 : hi = lN b) (hq : isN q 1 4095) (hab : a < b) (hb : b < 4294967296) : ∃ M : Nat, lo + (hi - lo) / 4096 * q.toInt64 = lN M ∧ a ≤ M ∧ M < b := by
  obtain ⟨m, m1, m2, rfl⟩ := hq
  have q2 : (b - a) / 4096 * m ≤ (b - a) / 4096 * 4095 := Nat.mul_le_mul_left _ m2
  refine ⟨a + (b - a) / 4096 * m, ?_, by omega, by omega⟩
  rw [h1, h2, lN_sub (by omega), show lN (b - a) / 4096 = lN ((b - a) / 4096) from pk_lDiv (b := 4096) (by omega) (by omega) (by omega), nI_l (by omega), lN_mul, lN_add]
theorem IE_prt (z : Int32) {y : Mx} {v : RS} {a b : Nat} (h : IE y v a b) (hp : PV (x_pr y) v) (hab : a < b) (hb : b < 4294967296) : ∃ a' b' : Nat, IE (x_prt z y) (r_prt z v) a' b' ∧ a' ≤ b' ∧ b' < 4294967296 ∧ rk (r_prt z v) = rk v := by
  obtain ⟨⟨h1, h2⟩, ⟨h3, h4⟩, h5, h6⟩ := h
  obtain ⟨e1, e2⟩ := mxR hp
  obtain ⟨M, hM, hM1, hM2⟩ := mid_N h1 h2 e2 hab hb
  have m1 : v_mid (x_iv y) (k_mx (x_pr y)) = lN M := hM
  have m2 : r_mid v = lN M := by
    unfold r_mid
    rw [h3, h4, ← e1, ← h1, ← h2]
    exact hM
  have ei : x_iv (x_prt z y) = v_nar (x_iv y) z (lN M) := by unfold x_prt; rw [x_iv_iv, m1]
  have ee : x_en (x_prt z y) = x_en y := by unfold x_prt; rw [x_en_iv]
  by_cases g : z = 0
  · have er : r_prt z v = rs_lw v (lN (M + 1)) := by unfold r_prt; rw [if_pos g, m2, lN_1]
    refine ⟨M + 1, b, ⟨⟨?_, ?_⟩, ⟨?_, ?_⟩, ?_, ?_⟩, by omega, hb, by rw [er, rk_lw]⟩
    · rw [ei]; unfold v_nar; rw [if_pos g, v_lo_lo, lN_1]
    · rw [ei]; unfold v_nar; rw [if_pos g, v_hi_lo, h2]
    · rw [er, r_lw_lw]
    · rw [er, r_hg_lw, h4]
    · rw [ee, er, r_cs_lw, r_cd_lw]; exact h5
    · rw [ee]; exact h6
  · have er : r_prt z v = rs_hg v (lN M) := by unfold r_prt; rw [if_neg g, m2]
    refine ⟨a, M, ⟨⟨?_, ?_⟩, ⟨?_, ?_⟩, ?_, ?_⟩, hM1, by omega, by rw [er, rk_hg]⟩
    · rw [ei]; unfold v_nar; rw [if_neg g, v_lo_hi, h1]
    · rw [ei]; unfold v_nar; rw [if_neg g, v_hi_hi]
    · rw [er, r_lw_hg, h3]
    · rw [er, r_hg_hg]
    · rw [ee, er, r_cs_hg, r_cd_hg]; exact h5
    · rw [ee]; exact h6
theorem x_wh_de : ∀ (n : Nat) (y : Mx), x_de (x_wh n y) = x_de y
  | 0, y => rfl
  | n + 1, y => by
    show x_de (if v_set (x_iv y) = 0 then y else x_wh n (x_ps y)) = x_de y
    split
    · rfl
    · rw [x_wh_de n, x_ps_de]
def ER (y : Mx) (v : RS) (t : Nat) : Prop := PR (x_pr y) v ∧ k_bt (x_pr y) = nI t ∧ q_c (x_en y) ≤ 4 * t ∧ ∃ a b : Nat, IE y v a b ∧ a < b ∧ b < 4294967296
theorem IE_qv {y y' : Mx} {v v' : RS} {a b : Nat} (h : IE y v a b) (hi : x_iv y' = x_iv y) (he : x_en y' = x_en y) (hq : qv v' = qv v) : IE y' v' a b := by
  unfold IE
  rw [hi, he, qv_lw hq, qv_hg hq, qv_cs hq, qv_cd hq]
  exact h
theorem x_prt_en9 (z : Int32) (y : Mx) : x_en (x_prt z y) = x_en y := by unfold x_prt; rw [x_en_iv]
theorem ER_bit (z : Int32) {y : Mx} {v : RS} {t : Nat} (h : ER y v t) (ht : t < 640) : ER (x_bit z y) (r_bit z v) (t + 1) ∧ rj (r_bit z v) = rj v ∧ x_tx (x_bit z y) = x_tx y ∧ x_de (x_bit z y) = x_de y := by
  obtain ⟨hp, hbt, hc, a, b, hI, hab, hb⟩ := h
  obtain ⟨a1, b1, i1, i2, i3, i4⟩ := IE_prt z hI hp.1 hab hb
  have hc1 : q_c (x_en (x_prt z y)) + 4 ≤ 2564 := by rw [x_prt_en9]; omega
  obtain ⟨a2, b2, j1, j2, j3, j4, j5⟩ := IE_wh 4 (x_prt z y) (r_prt z v) a1 b1 i1 i2 i3 hc1
  rw [x_prt_en9] at j5
  have hpr : x_pr (x_wh 4 (x_prt z y)) = x_pr y := by rw [x_wh_pr, x_prt_pr]
  have hp2 : PR (x_pr y) (r_wh 4 (r_prt z v)) := PR_rk (j4.trans i4) hp
  have ex : x_bit z y = xs_pr (x_wh 4 (x_prt z y)) (k_ln z (k_mx (x_pr y)) (x_pr y)) := by unfold x_bit; rw [hpr]
  have hne : ¬ a2 / 16777216 = b2 / 16777216 := (set_sam j1 (by omega) j3).2.mp (wh_sam _)
  refine ⟨⟨?_, ?_, ?_, a2, b2, ?_, ?_, j3⟩, ?_, ?_, ?_⟩
  · rw [ex, x_pr_pr]
    exact PR_ln z hp2
  · rw [ex, x_pr_pr, k_ln_bt, hbt, nI_1]
  · rw [ex, x_en_pr]; omega
  · refine IE_qv j1 (by rw [ex, x_iv_pr]) (by rw [ex, x_en_pr]) ?_
    unfold r_bit
    exact lrn_qv z _
  · rcases Nat.lt_or_ge a2 b2 with h9 | h9
    · exact h9
    · exact absurd (by rw [show a2 = b2 by omega]) hne
  · unfold r_bit
    exact (rj_qv (lrn_qv z _)).trans ((rj_rk j4).trans (rj_rk i4))
  · rw [ex, x_tx_pr, x_wh_tx, x_prt_tx]
  · rw [ex, x_de_pr, x_wh_de, x_prt_de]
theorem zb_eq {w : Int32} (hw : isN w 0 255) {k : Nat} (hk : k < 8) : zbx w k = zb w k := by
  obtain ⟨a, -, ha, rfl⟩ := hw
  have e1 : ((nI a).toUInt32 >>> ((nI k).toUInt32 &&& Int32.toUInt32 31)).toInt32 = nI (a / 2 ^ k) := pk_ushrN (by omega) (nI k) k (by
    rcases (show k = 0 ∨ k = 1 ∨ k = 2 ∨ k = 3 ∨ k = 4 ∨ k = 5 ∨ k = 6 ∨ k = 7 by omega) with rfl | rfl | rfl | rfl | rfl | rfl | rfl | rfl <;> decide)
  have e2 : nI a >>> (nI k &&& 31) = nI (a / 2 ^ k) := pk_shrN (by omega) (nI k &&& 31) k (by
    rcases (show k = 0 ∨ k = 1 ∨ k = 2 ∨ k = 3 ∨ k = 4 ∨ k = 5 ∨ k = 6 ∨ k = 7 by omega) with rfl | rfl | rfl | rfl | rfl | rfl | rfl | rfl <;> decide)
  unfold zbx zb
  rw [e1, e2]
theorem ER_byt {w : Int32} (hw : isN w 0 255) : ∀ (k : Nat) (y : Mx) (v : RS) (t : Nat), k ≤ 8 → ER y v t → t + k ≤ 640 → ER (x_byt w k y) (r_byt w k v) (t + k) ∧ rj (r_byt w k v) = rj v ∧ x_tx (x_byt w k y) = x_tx y ∧ x_de (x_byt w k y) = x_de y
  | 0, y, v, t, _, h, _ => ⟨h, rfl, rfl, rfl⟩
  | k + 1, y, v, t, hk, h, ht => by
    obtain ⟨h1, h2, h3, h4⟩ := ER_bit (zb w k) h (by omega)
    obtain ⟨g1, g2, g3, g4⟩ := ER_byt hw k _ _ (t + 1) (by omega) h1 (by omega)
    show ER (x_byt w k (x_bit (zbx w k) y)) (r_byt w k (r_bit (zb w k) v)) (t + (k + 1)) ∧ rj (r_byt w k (r_bit (zb w k) v)) = rj v ∧ x_tx (x_byt w k (x_bit (zbx w k) y)) = x_tx y ∧ x_de (x_byt w k (x_bit (zbx w k) y)) = x_de y
    rw [zb_eq hw (by omega)]
    exact ⟨by rw [show t + (k + 1) = t + 1 + k by omega]; exact g1, g2.trans h2, g3.trans h3, g4.trans h4⟩
theorem at_in {r : Row} {k : Nat} (h : k < q_c r) (hc : q_c r < 2147483648) : q_at r (nI k) = q_f r k := by
  unfold q_at
  rw [if_pos (by rw [nI_toInt (by omega)]; omega), nI_clamp (by omega)]
theorem at_out {r : Row} {k : Nat} (h : ¬ k < q_c r) (hk : k < 2147483648) : q_at r (nI k) = 0 := by
  unfold q_at
  rw [if_neg (by rw [nI_toInt (by omega)]; omega)]
theorem ER_enl {e : Mx} {e' : RS} (h0 : ER e e' 0) (hq : RowQ (x_tx e) (r_sz e') (r_tx e')) (hB : RowB (x_tx e)) (hz : r_sz e' ≤ 80) : ∀ k, k ≤ r_sz e' → ER (x_enl e k) (r_enl e' k) (8 * k) ∧ rj (r_enl e' k) = rj e' ∧ x_tx (x_enl e k) = x_tx e ∧ x_de (x_enl e k) = x_de e
  | 0, _ => ⟨h0, rfl, rfl, rfl⟩
  | k + 1, hk => by
    obtain ⟨h1, h2, h3, h4⟩ := ER_enl h0 hq hB hz k (by omega)
    have hk9 : k < q_c (x_tx e) := by rw [hq.1]; omega
    have ea : q_at (x_tx e) (nI k) = r_tx e' k := by rw [at_in hk9 (by rw [hq.1]; omega)]; exact hq.2 k (by omega)
    have hw : isN (r_tx e' k) 0 255 := by rw [← hq.2 k (by omega)]; exact hB k hk9
    obtain ⟨g1, g2, g3, g4⟩ := ER_byt hw 8 _ _ (8 * k) (Nat.le_refl _) h1 (by omega)
    show ER (x_byt (q_at (x_tx e) (nI k)) 8 (x_enl e k)) (r_byt (r_tx e' k) 8 (r_enl e' k)) (8 * (k + 1)) ∧ rj (r_byt (r_tx e' k) 8 (r_enl e' k)) = rj e' ∧ x_tx (x_byt (q_at (x_tx e) (nI k)) 8 (x_enl e k)) = x_tx e ∧ x_de (x_byt (q_at (x_tx e) (nI k)) 8 (x_enl e k)) = x_de e
    rw [ea]
    exact ⟨by rw [show 8 * (k + 1) = 8 * k + 8 by omega]; exact g1, g2.trans h2, g3.trans h3, g4.trans h4⟩
