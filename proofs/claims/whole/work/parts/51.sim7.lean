/-! ===== encode, whole ===== -/
theorem rk_put (x : Int32) (v : RS) : rk (r_put x v) = rk v := by unfold r_put; rw [rk_cs, rk_cd]
theorem SH_th {k : Pr} {u : RS} (x : Int32) (h : SH k u) : SH k (rs_th u x) := by
  unfold SH ShR at *
  rw [r_n_th, r_od_th, r_ra_th, r_lo_th]
  exact h
theorem tl_step (k : Int32) (kn : Nat) (hk : ((k.toInt64 &&& 63).toBitVec.smod 64).toNat = kn) {y : Mx} {v : RS} {a c : Nat} (hv : r_lw v = lN a) (ha : a < 4294967296) (hl : v_lo (x_iv y) = lN c) (hc : c < 4294967296) (hac : c / 16777216 = a / 2 ^ kn % 256) (hq : RowQ (x_en y) (r_cs v) (r_cd v)) (hB : RowB (x_en y)) (hn : q_c (x_en y) < 2564) :
    RowQ (x_en (x_ps y)) (r_cs (r_tl k v)) (r_cd (r_tl k v)) ∧ RowB (x_en (x_ps y)) ∧ q_c (x_en (x_ps y)) = q_c (x_en y) + 1 ∧ r_lw (r_tl k v) = lN a ∧ v_lo (x_iv (x_ps y)) = lN (256 * (c % 16777216)) ∧ rk (r_tl k v) = rk v := by
  have h2 : a / 2 ^ kn ≤ a := Nat.div_le_self _ _
  have eb : ((r_lw v >>> (k.toInt64 &&& 63)) &&& 255).toInt32 = nI (c / 16777216) := by
    rw [hv, lN_sshr (by omega) _ kn hk, lN_255 (by omega), lN_i, hac]
  have ec : tpb (v_lo (x_iv y)) = nI (c / 16777216) := by rw [hl, tpb_N hc]
  unfold r_tl
  rw [eb, x_ps_en, ec, r_put_cs, r_put_cd, r_put_lw, rk_put, x_ps_iv, v_shf_lo, hl, sh8_N hc]
  exact ⟨app_Q hq (by rw [← hq.1]; exact hn), app_B hB ⟨_, by omega, by omega, rfl⟩, (app_Q ⟨rfl, fun _ _ => rfl⟩ hn).1, hv, rfl, rfl⟩
theorem e1_ER {x : Mx} {u : RS} (hs : SH (x_pr x) u) : ER (x_e1 x) (r_e1 u) 0 ∧ rj (r_e1 u) = rj (rs_th u 0) := by
  have hk : rk (r_e1 u) = rk (r_clr (rs_th u 0)) := by unfold r_e1; rw [rk_hg, rk_lw, rk_cs]
  have ep : x_pr (x_e1 x) = k_rs (x_pr x) := x_e1_pr x
  have ei : x_iv (x_e1 x) = v_opn (x_iv x) := by unfold x_e1; rw [x_iv_en, x_iv_iv]
  have ee : x_en (x_e1 x) = qs_c (x_en x) 0 := by unfold x_e1; rw [x_en_en]
  refine ⟨⟨?_, ?_, ?_, 0, 4294967295, ⟨⟨?_, ?_⟩, ⟨?_, ?_⟩, ⟨?_, ?_⟩, ?_⟩, by omega, by omega⟩, ?_⟩
  · rw [ep]; exact PR_rk hk (PR_rs (SH_th 0 hs))
  · rw [ep, k_rs_bt]; rfl
  · rw [ee, q_c_c]; omega
  · rw [ei]; rfl
  · rw [ei]; rfl
  · unfold r_e1; rw [r_lw_hg, r_lw_lw]; rfl
  · unfold r_e1; rw [r_hg_hg]; rfl
  · rw [ee, q_c_c]; unfold r_e1; rw [r_cs_hg, r_cs_lw, r_cs_cs]
  · intro i hi; unfold r_e1 at hi; rw [r_cs_hg, r_cs_lw, r_cs_cs] at hi; omega
  · intro i hi; rw [ee, q_c_c] at hi; omega
  · rw [rj_rk hk]
    unfold rj
    rw [r_clr_th, r_clr_sz, r_clr_tx, r_clr_mk, r_clr_ou]
theorem x_e1_de (x : Mx) : x_de (x_e1 x) = x_de x := by unfold x_e1; rw [x_de_en, x_de_iv, x_de_pr]
theorem enc_R {x : Mx} {u : RS} (hs : SH (x_pr x) u) (hq : RowQ (x_tx x) (r_sz u) (r_tx u)) (hB : RowB (x_tx x)) (hz : r_sz u ≤ 80) :
    PR (x_pr (x_enc x)) (r_enc u) ∧ (∃ t : Nat, t ≤ 640 ∧ k_bt (x_pr (x_enc x)) = nI t) ∧ RowQ (x_en (x_enc x)) (r_cs (r_enc u)) (r_cd (r_enc u)) ∧ RowB (x_en (x_enc x)) ∧ q_c (x_en (x_enc x)) ≤ 2564 ∧ rj (r_enc u) = rj (rs_th u 0) ∧ x_tx (x_enc x) = x_tx x ∧ x_de (x_enc x) = x_de x := by
  obtain ⟨h1, h2⟩ := e1_ER hs
  have s1 : r_sz (r_e1 u) = r_sz u := congrArg (fun q : RjT9 => q.2.1) h2
  have s2 : r_tx (r_e1 u) = r_tx u := congrArg (fun q : RjT9 => q.2.2.1) h2
  have hq1 : RowQ (x_tx (x_e1 x)) (r_sz (r_e1 u)) (r_tx (r_e1 u)) := by rw [x_e1_tx, s1, s2]; exact hq
  have hB1 : RowB (x_tx (x_e1 x)) := by rw [x_e1_tx]; exact hB
  obtain ⟨g1, g2, g3, g4⟩ := ER_enl h1 hq1 hB1 (by rw [s1]; exact hz) (r_sz (r_e1 u)) (Nat.le_refl _)
  have ex : x_enc x = x_ps (x_ps (x_ps (x_ps (x_enl (x_e1 x) (r_sz (r_e1 u)))))) := by unfold x_enc; rw [s1, ← hq.1]
  have eu : r_enc u = r_tl 0 (r_tl 8 (r_tl 16 (r_tl 24 (r_enl (r_e1 u) (r_sz (r_e1 u)))))) := rfl
  rw [ex, eu]
  have hsz : r_sz (r_e1 u) ≤ 80 := by rw [s1]; exact hz
  generalize r_sz (r_e1 u) = n at g1 g2 g3 g4 hsz ⊢
  generalize x_enl (x_e1 x) n = y at g1 g3 g4 ⊢
  generalize r_enl (r_e1 u) n = v at g1 g2 ⊢
  obtain ⟨hp, hbt, hc, a, b, ⟨⟨i1, -⟩, ⟨i3, -⟩, i5, i6⟩, hab, hb⟩ := g1
  obtain ⟨a1, a2, a3, a4, a5, a6⟩ := tl_step 24 24 (by decide) i3 (by omega) i1 (by omega) (by omega) i5 i6 (by omega)
  obtain ⟨b1, b2, b3, b4, b5, b6⟩ := tl_step 16 16 (by decide) a4 (by omega) a5 (by omega) (by omega) a1 a2 (by omega)
  obtain ⟨c1, c2, c3, c4, c5, c6⟩ := tl_step 8 8 (by decide) b4 (by omega) b5 (by omega) (by omega) b1 b2 (by omega)
  obtain ⟨d1, d2, d3, d4, d5, d6⟩ := tl_step 0 0 (by decide) c4 (by omega) c5 (by omega) (by omega) c1 c2 (by omega)
  have hrk := d6.trans (c6.trans (b6.trans a6))
  refine ⟨?_, ⟨8 * n, by omega, ?_⟩, d1, d2, by omega, (rj_rk hrk).trans (g2.trans h2), ?_, ?_⟩
  · rw [x_ps_pr, x_ps_pr, x_ps_pr, x_ps_pr]; exact PR_rk hrk hp
  · rw [x_ps_pr, x_ps_pr, x_ps_pr, x_ps_pr]; exact hbt
  · rw [x_ps_tx, x_ps_tx, x_ps_tx, x_ps_tx, g3, x_e1_tx]
  · rw [x_ps_de, x_ps_de, x_ps_de, x_ps_de, g4, x_e1_de]
