/-! ===== both begin anew alike, both learn alike ===== -/
theorem aim_R {la : Nat → Int32} {nd : Nat} {o : Mo} (h : o_cx o = ctxOf (o_od o) la) : AmR la nd (o_aim (nI nd) o) := ⟨h, rfl, rfl⟩
theorem k_rs_mo {k : Pr} {j : Nat} (hj : j < k_n k) : k_mo (k_rs k) j = o_aim (nI 1) (o_ctx (fiI 3 0 (k_la k)) (o_fgt (k_mo k j))) := by
  show mapM (o_aim (nI 1)) (k_n k) (mapM (o_ctx (fiI 3 0 (k_la k))) (k_n k) (mapM o_fgt (k_n k) (k_mo k))) j = _
  rw [mapM_lt hj, mapM_lt hj, mapM_lt hj]
theorem r_clr_th (u : RS) : r_th (r_clr u) = r_th u := by
  unfold r_clr clr4 clr3 clr2 clr1
  simp only [r_th_er, r_th_ob, r_th_nd, r_th_hi, r_th_cl, r_th_we, r_th_ln, r_th_co]
theorem r_clr_od (u : RS) : r_od (r_clr u) = r_od u := by
  unfold r_clr clr4 clr3 clr2 clr1
  simp only [r_od_er, r_od_ob, r_od_nd, r_od_hi, r_od_cl, r_od_we, r_od_ln, r_od_co]
theorem r_clr_ra (u : RS) : r_ra (r_clr u) = r_ra u := by
  unfold r_clr clr4 clr3 clr2 clr1
  simp only [r_ra_er, r_ra_ob, r_ra_nd, r_ra_hi, r_ra_cl, r_ra_we, r_ra_ln, r_ra_co]
theorem r_clr_lo (u : RS) : r_lo (r_clr u) = r_lo u := by
  unfold r_clr clr4 clr3 clr2 clr1
  simp only [r_lo_er, r_lo_ob, r_lo_nd, r_lo_hi, r_lo_cl, r_lo_we, r_lo_ln, r_lo_co]
theorem r_clr_tx (u : RS) : r_tx (r_clr u) = r_tx u := by
  unfold r_clr clr4 clr3 clr2 clr1
  simp only [r_tx_er, r_tx_ob, r_tx_nd, r_tx_hi, r_tx_cl, r_tx_we, r_tx_ln, r_tx_co]
theorem r_clr_co (u : RS) : r_co (r_clr u) = fiI 3072 2048 (r_co u) := by
  unfold r_clr clr4 clr3 clr2 clr1
  simp only [r_co_er, r_co_ob, r_co_nd, r_co_hi, r_co_cl, r_co_we, r_co_ln, r_co_co]
theorem r_clr_lc (u : RS) : r_lc (r_clr u) = r_lc u := by
  unfold r_clr clr4 clr3 clr2 clr1
  simp only [r_lc_er, r_lc_ob, r_lc_nd, r_lc_hi, r_lc_cl, r_lc_we, r_lc_ln, r_lc_co]
theorem r_clr_ln (u : RS) : r_ln (r_clr u) = fiI 3072 0 (r_ln u) := by
  unfold r_clr clr4 clr3 clr2 clr1
  simp only [r_ln_er, r_ln_ob, r_ln_nd, r_ln_hi, r_ln_cl, r_ln_we, r_ln_ln, r_ln_co, r_ln_co]
theorem r_clr_we (u : RS) : r_we (r_clr u) = fiI 48 256 (r_we u) := by
  unfold r_clr clr4 clr3 clr2 clr1
  simp only [r_we_er, r_we_ob, r_we_nd, r_we_hi, r_we_cl, r_we_we, r_we_ln, r_we_co, r_we_ln, r_we_co]
theorem r_clr_cl (u : RS) : r_cl (r_clr u) = fiI 6 0 (r_cl u) := by
  unfold r_clr clr4 clr3 clr2 clr1
  simp only [r_cl_er, r_cl_ob, r_cl_nd, r_cl_hi, r_cl_cl, r_cl_we, r_cl_ln, r_cl_co, r_cl_we, r_cl_ln, r_cl_co]
theorem r_clr_hi (u : RS) : r_hi (r_clr u) = fiI 3 0 (r_hi u) := by
  unfold r_clr clr4 clr3 clr2 clr1
  simp only [r_hi_er, r_hi_ob, r_hi_nd, r_hi_hi, r_hi_cl, r_hi_we, r_hi_ln, r_hi_co, r_hi_cl, r_hi_we, r_hi_ln, r_hi_co]
theorem r_clr_nd (u : RS) : r_nd (r_clr u) = 1 := by
  unfold r_clr clr4 clr3 clr2 clr1
  simp only [r_nd_er, r_nd_ob, r_nd_nd, r_nd_hi, r_nd_cl, r_nd_we, r_nd_ln, r_nd_co]
theorem r_clr_ob (u : RS) : r_ob (r_clr u) = 0 := by
  unfold r_clr clr4 clr3 clr2 clr1
  simp only [r_ob_er, r_ob_ob, r_ob_nd, r_ob_hi, r_ob_cl, r_ob_we, r_ob_ln, r_ob_co]
theorem r_clr_er (u : RS) : r_er (r_clr u) = 0 := by
  unfold r_clr clr4 clr3 clr2 clr1
  simp only [r_er_er, r_er_ob, r_er_nd, r_er_hi, r_er_cl, r_er_we, r_er_ln, r_er_co]
theorem r_clr_cs (u : RS) : r_cs (r_clr u) = r_cs u := by
  unfold r_clr clr4 clr3 clr2 clr1
  simp only [r_cs_er, r_cs_ob, r_cs_nd, r_cs_hi, r_cs_cl, r_cs_we, r_cs_ln, r_cs_co]
theorem r_clr_cd (u : RS) : r_cd (r_clr u) = r_cd u := by
  unfold r_clr clr4 clr3 clr2 clr1
  simp only [r_cd_er, r_cd_ob, r_cd_nd, r_cd_hi, r_cd_cl, r_cd_we, r_cd_ln, r_cd_co]
theorem r_clr_mk (u : RS) : r_mk (r_clr u) = r_mk u := by
  unfold r_clr clr4 clr3 clr2 clr1
  simp only [r_mk_er, r_mk_ob, r_mk_nd, r_mk_hi, r_mk_cl, r_mk_we, r_mk_ln, r_mk_co]
theorem r_clr_ou (u : RS) : r_ou (r_clr u) = r_ou u := by
  unfold r_clr clr4 clr3 clr2 clr1
  simp only [r_ou_er, r_ou_ob, r_ou_nd, r_ou_hi, r_ou_cl, r_ou_we, r_ou_ln, r_ou_co]
theorem r_clr_lw (u : RS) : r_lw (r_clr u) = r_lw u := by
  unfold r_clr clr4 clr3 clr2 clr1
  simp only [r_lw_er, r_lw_ob, r_lw_nd, r_lw_hi, r_lw_cl, r_lw_we, r_lw_ln, r_lw_co]
theorem r_clr_hg (u : RS) : r_hg (r_clr u) = r_hg u := by
  unfold r_clr clr4 clr3 clr2 clr1
  simp only [r_hg_er, r_hg_ob, r_hg_nd, r_hg_hi, r_hg_cl, r_hg_we, r_hg_ln, r_hg_co]
section RSM
variable (f : Nat → Int32) (nd : Int32) (o : Mo)
theorem rsm_co : o_co (o_aim nd (o_ctx f (o_fgt o))) = fiI 512 2048 (o_co o) := rfl
theorem rsm_we : o_we (o_aim nd (o_ctx f (o_fgt o))) = fiI 8 256 (o_we o) := rfl
theorem rsm_se : o_se (o_aim nd (o_ctx f (o_fgt o))) = fiL 512 0 (o_se o) := rfl
theorem rsm_cn : o_cn (o_aim nd (o_ctx f (o_fgt o))) = 0 := rfl
theorem rsm_od : o_od (o_aim nd (o_ctx f (o_fgt o))) = o_od o := rfl
theorem rsm_rt : o_rt (o_aim nd (o_ctx f (o_fgt o))) = o_rt o := rfl
theorem rsm_t : o_t (o_aim nd (o_ctx f (o_fgt o))) = o_t o := rfl
end RSM
theorem k_rs_n (k : Pr) : k_n (k_rs k) = k_n k := rfl
theorem k_rs_nd (k : Pr) : k_nd (k_rs k) = 1 := rfl
theorem k_rs_ph (k : Pr) : k_ph (k_rs k) = 0 := rfl
theorem k_rs_la (k : Pr) : k_la (k_rs k) = fiI 3 0 (k_la k) := rfl
theorem k_rs_bt (k : Pr) : k_bt (k_rs k) = 0 := rfl
theorem k_rs_er (k : Pr) : k_er (k_rs k) = 0 := rfl
theorem fiI_lt {n j : Nat} {v : Int32} {f : Nat → Int32} (h : j < n) : fiI n v f j = v := if_pos h
theorem fiL_lt {n j : Nat} {v : Int64} {f : Nat → Int64} (h : j < n) : fiL n v f j = v := if_pos h
theorem rs_PV {k : Pr} {u : RS} (h : SH k u) : PV (k_rs k) (r_clr u) := by
  obtain ⟨⟨hn, hn6⟩, hs⟩ := h
  unfold PV
  rw [k_rs_n, k_rs_nd, k_rs_ph, k_rs_la, r_clr_n, r_clr_nd, r_clr_hi]
  refine ⟨⟨hn, hn6⟩, ⟨rfl, Nat.le_refl _, by decide⟩, by decide, fun i hi => ?_, fun j hj => ?_⟩
  · rw [fiI_lt hi, fiI_lt hi]
    exact ⟨rfl, 0, by omega, by omega, rfl⟩
  · have hj6 : j < 6 := by omega
    obtain ⟨hs1, hs2, hs3, hs4⟩ := hs j hj
    rw [k_rs_mo hj]
    refine ⟨?_, ⟨fun i hi => ?_, fun i hi => ?_, fun i hi => ?_, ?_⟩, aim_R rfl⟩
    · unfold ShR
      rw [rsm_od, rsm_rt, rsm_t, r_clr_od, r_clr_ra, r_clr_lo]
      exact ⟨hs1, hs2, hs3, hs4⟩
    · rw [rsm_co, r_clr_co, fiI_lt hi, fiI_lt (show 512 * j + i < 3072 by omega)]
      exact ⟨rfl, 2048, by omega, by omega, rfl⟩
    · rw [rsm_we, r_clr_we, fiI_lt hi, fiI_lt (show 8 * j + i < 48 by omega)]
      exact ⟨rfl, 256, by omega, by omega, rfl⟩
    · rw [rsm_se, r_clr_ln, fiL_lt hi, fiI_lt (show 512 * j + i < 3072 by omega)]
      exact Or.inl ⟨rfl, rfl⟩
    · rw [rsm_cn, r_clr_cl, fiI_lt hj6]
/-! weights -/
theorem wI_N {w : Int32} (h : isN w 1 60000) : wInc w = wIncR w ∧ isN (wInc w) 1 60000 := by
  obtain ⟨a, h1, h2, rfl⟩ := h
  have e : nI a + nI a / 16 + 1 = nI (a + a / 16 + 1) := by
    rw [show nI a / 16 = nI (a / 16) from pk_div (d := 16) (by omega) (by omega) (by omega), nI_add, nI_1]
  unfold wInc wIncR
  rw [e]
  by_cases g : a + a / 16 + 1 < 60000
  · have g1 : nI (a + a / 16 + 1) < (60000 : Int32) := (nI_ltI (b := 60000) (by omega) (by omega)).mpr g
    have g2 : ¬ (60000 : Int32) < nI (a + a / 16 + 1) := fun h9 => by have := (nI_ltI (a := 60000) (by omega) (by omega)).mp h9; omega
    rw [if_pos g1, if_neg g2]
    exact ⟨rfl, _, by omega, by omega, rfl⟩
  · have g1 : ¬ nI (a + a / 16 + 1) < (60000 : Int32) := fun h9 => g ((nI_ltI (b := 60000) (by omega) (by omega)).mp h9)
    rw [if_neg g1]
    by_cases g3 : a + a / 16 + 1 = 60000
    · rw [g3, if_neg (by decide)]
      exact ⟨rfl, 60000, by omega, by omega, rfl⟩
    · have g2 : (60000 : Int32) < nI (a + a / 16 + 1) := (nI_ltI (a := 60000) (by omega) (by omega)).mpr (by omega)
      rw [if_pos g2]
      exact ⟨rfl, 60000, by omega, by omega, rfl⟩
theorem wD_N {w : Int32} (h : isN w 1 60000) : wDec w = wDecR w ∧ isN (wDec w) 1 60000 := by
  obtain ⟨a, h1, h2, rfl⟩ := h
  have e : nI a - nI a / 16 - 1 = nI (a - a / 16 - 1) := by
    rw [show nI a / 16 = nI (a / 16) from pk_div (d := 16) (by omega) (by omega) (by omega), pk_sub (by omega), show nI (a - a / 16) - 1 = nI (a - a / 16 - 1) from pk_sub (b := 1) (by omega)]
  unfold wDec wDecR
  rw [e]
  by_cases g : 1 < a - a / 16 - 1
  · have g1 : (1 : Int32) < nI (a - a / 16 - 1) := (nI_ltI (a := 1) (by omega) (by omega)).mpr g
    have g2 : ¬ nI (a - a / 16 - 1) < (1 : Int32) := fun h9 => by have := (nI_ltI (b := 1) (by omega) (by omega)).mp h9; omega
    rw [if_pos g1, if_neg g2]
    exact ⟨rfl, _, by omega, by omega, rfl⟩
  · have g1 : ¬ (1 : Int32) < nI (a - a / 16 - 1) := fun h9 => g ((nI_ltI (a := 1) (by omega) (by omega)).mp h9)
    rw [if_neg g1]
    by_cases g3 : a - a / 16 - 1 = 1
    · rw [g3, if_neg (by decide)]
      exact ⟨rfl, 1, by omega, by omega, rfl⟩
    · have g2 : nI (a - a / 16 - 1) < (1 : Int32) := (nI_ltI (b := 1) (by omega) (by omega)).mpr (by omega)
      rw [if_pos g2]
      exact ⟨rfl, 1, by omega, by omega, rfl⟩
theorem we_upd {o : Mo} {u : RS} {m p : Nat} {x y : Int32} (hT : TbR o u m) (hp : p < 8) (hxy : x = y) (hx : isN x 1 60000) : TbR (os_we o (upd (o_we o) p x)) (rs_we u (upd (r_we u) (8 * m + p) y)) m := by
  subst hxy
  refine ⟨hT.1, fun i hi => ?_, hT.2.2.1, hT.2.2.2⟩
  show upd (o_we o) p x i = upd (r_we u) (8 * m + p) x (8 * m + i) ∧ isN (upd (o_we o) p x i) 1 60000
  by_cases h : i = p
  · subst h
    rw [pk_us, pk_us]
    exact ⟨rfl, hx⟩
  · rw [pk_un h, pk_un (by omega)]
    exact hT.2.1 i hi
theorem we_oth {o : Mo} {u : RS} {j m p : Nat} {y : Int32} (hT : TbR o u j) (hp : p < 8) (hj : ¬ j = m) : TbR o (rs_we u (upd (r_we u) (8 * m + p) y)) j := by
  refine ⟨hT.1, fun i hi => ?_, hT.2.2.1, hT.2.2.2⟩
  show o_we o i = upd (r_we u) (8 * m + p) y (8 * j + i) ∧ isN (o_we o i) 1 60000
  rw [pk_un (by omega)]
  exact hT.2.1 i hi
theorem aw_self (z q : Int32) {o : Mo} {u : RS} {m : Nat} {ph : Int32} (hph : ph.toNatClampNeg = phN (r_nd u)) (hg : o_gs o = r_g u m) (hT : TbR o u m) : TbR (o_aw ph z q o) (r_aw1 z q m u) m := by
  have hp := phN_lt (r_nd u)
  obtain ⟨e1, e2⟩ := hT.2.1 _ hp
  have e3 : r_w u m = o_we o (phN (r_nd u)) := e1.symm
  unfold o_aw r_aw1
  rw [← hg, hph, e3]
  split
  · split
    · exact hT
    · exact we_upd hT hp (wD_N e2).1 (wD_N e2).2
  · exact we_upd hT hp (wI_N e2).1 (wI_N e2).2
theorem aw_oth (z q : Int32) {o : Mo} {u : RS} {j m : Nat} (hj : ¬ j = m) (hT : TbR o u j) : TbR o (r_aw1 z q m u) j := by
  have hp := phN_lt (r_nd u)
  unfold r_aw1
  split
  · split
    · exact hT
    · exact we_oth hT hp hj
  · exact we_oth hT hp hj
theorem aw_sh (z q : Int32) (u : RS) (m : Nat) : sh (r_aw1 z q m u) = sh u ∧ r_ra (r_aw1 z q m u) = r_ra u := by
  unfold r_aw1
  split
  · split
    · exact ⟨rfl, rfl⟩
    · exact ⟨rfl, rfl⟩
  · exact ⟨rfl, rfl⟩
theorem r_ix_eq {u v : RS} {j : Nat} (h : sh u = sh v) : r_ix u j = r_ix v j := by
  have h2 : r_nd u = r_nd v := congrArg (fun q : ShT => q.2.1) h
  have h4 : r_lo u = r_lo v := congrArg (fun q : ShT => q.2.2.2.1) h
  unfold r_ix
  rw [r_ctx_eq h, h2, h4]
theorem sh_nd {u v : RS} (h : sh u = sh v) : r_nd u = r_nd v := congrArg (fun q : ShT => q.2.1) h
theorem g_of {o : Mo} {u : RS} {m p : Nat} (hT : TbR o u m) (hp : p < 512) (h1 : (o_pl o).toNatClampNeg = p) (h2 : (r_ix u m).toNatClampNeg = p) : o_gs o = r_g u m := by
  unfold o_gs r_g
  rw [h1, h2]
  exact (hT.1 p hp).1
/-! counters -/
theorem cU_N {q r : Int32} (hq : isN q 1 4095) (hr : isN r 2 7) : isN (cUp q r) 1 4095 := by
  obtain ⟨a, h1, h2, rfl⟩ := hq
  obtain ⟨b, h3, h4, rfl⟩ := hr
  have e : (4096 : Int32) - nI a = nI (4096 - a) := pk_sub (a := 4096) (by omega)
  unfold cUp
  rw [e]
  rcases (show b = 2 ∨ b = 3 ∨ b = 4 ∨ b = 5 ∨ b = 6 ∨ b = 7 by omega) with rfl | rfl | rfl | rfl | rfl | rfl
  · rw [pk_shrN (by omega) _ 2 (by decide), nI_add]; exact ⟨_, by omega, by omega, rfl⟩
  · rw [pk_shrN (by omega) _ 3 (by decide), nI_add]; exact ⟨_, by omega, by omega, rfl⟩
  · rw [pk_shrN (by omega) _ 4 (by decide), nI_add]; exact ⟨_, by omega, by omega, rfl⟩
  · rw [pk_shrN (by omega) _ 5 (by decide), nI_add]; exact ⟨_, by omega, by omega, rfl⟩
  · rw [pk_shrN (by omega) _ 6 (by decide), nI_add]; exact ⟨_, by omega, by omega, rfl⟩
  · rw [pk_shrN (by omega) _ 7 (by decide), nI_add]; exact ⟨_, by omega, by omega, rfl⟩
theorem cD_N {q r : Int32} (hq : isN q 1 4095) (hr : isN r 2 7) : isN (cDn q r) 1 4095 := by
  obtain ⟨a, h1, h2, rfl⟩ := hq
  obtain ⟨b, h3, h4, rfl⟩ := hr
  unfold cDn
  rcases (show b = 2 ∨ b = 3 ∨ b = 4 ∨ b = 5 ∨ b = 6 ∨ b = 7 by omega) with rfl | rfl | rfl | rfl | rfl | rfl
  · rw [pk_shrN (by omega) _ 2 (by decide), pk_sub (by omega)]; exact ⟨_, by omega, by omega, rfl⟩
  · rw [pk_shrN (by omega) _ 3 (by decide), pk_sub (by omega)]; exact ⟨_, by omega, by omega, rfl⟩
  · rw [pk_shrN (by omega) _ 4 (by decide), pk_sub (by omega)]; exact ⟨_, by omega, by omega, rfl⟩
  · rw [pk_shrN (by omega) _ 5 (by decide), pk_sub (by omega)]; exact ⟨_, by omega, by omega, rfl⟩
  · rw [pk_shrN (by omega) _ 6 (by decide), pk_sub (by omega)]; exact ⟨_, by omega, by omega, rfl⟩
  · rw [pk_shrN (by omega) _ 7 (by decide), pk_sub (by omega)]; exact ⟨_, by omega, by omega, rfl⟩
theorem sight_N {c n : Int32} (hc : isN c 0 16974592) (hn : isN n 1 255) : ∃ a b : Nat, a ≤ 16974592 ∧ 1 ≤ b ∧ b ≤ 255 ∧ c = nI a ∧ n = nI b ∧ 256 * c.toInt64 + n.toInt64 = lN (256 * a + b) := by
  obtain ⟨a, -, h1, rfl⟩ := hc
  obtain ⟨b, h2, h3, rfl⟩ := hn
  refine ⟨a, b, h1, h2, h3, rfl, rfl, ?_⟩
  rw [nI_l (by omega), nI_l (by omega), show (256 : Int64) * lN a = lN (256 * a) from lN_mul 256 a, lN_add]
theorem a0_self (z : Int32) {o : Mo} {u : RS} {m p : Nat} (hp : p < 512) (h1 : (o_pl o).toNatClampNeg = p) (h2 : (r_ix u m).toNatClampNeg = p) (hr : o_rt o = r_ra u m) (hrN : isN (o_rt o) 2 7) (hc : r_ctx u m = o_cx o) (hcN : isN (o_cx o) 0 16974592) (hnd : 1 ≤ r_nd u ∧ r_nd u < 256) (hs : o_si o = 256 * (o_cx o).toInt64 + (nI (r_nd u)).toInt64) (hT : TbR o u m) : TbR (o_a0 z o) (r_acB z m u) m := by
  have hg := g_of hT hp h1 h2
  obtain ⟨e1, e2⟩ := hT.1 p hp
  have hgN : isN (o_gs o) 1 4095 := by unfold o_gs; rw [h1]; exact e2
  have hv : isN (if z = 0 then cDn (o_gs o) (o_rt o) else cUp (o_gs o) (o_rt o)) 1 4095 := by
    split
    · exact cD_N hgN hrN
    · exact cU_N hgN hrN
  have eat : r_at u m = 512 * m + p := by unfold r_at; rw [h2]
  unfold o_a0 r_acB
  rw [h1, eat, ← hg, ← hr, hc]
  generalize (if z = 0 then cDn (o_gs o) (o_rt o) else cUp (o_gs o) (o_rt o)) = v at hv
  refine ⟨fun i hi => ?_, hT.2.1, fun i hi => ?_, hT.2.2.2⟩
  · show upd (o_co o) p v i = upd (r_co u) (512 * m + p) v (512 * m + i) ∧ isN (upd (o_co o) p v i) 1 4095
    by_cases h : i = p
    · subst h
      rw [pk_us, pk_us]
      exact ⟨rfl, hv⟩
    · rw [pk_un h, pk_un (by omega)]
      exact hT.1 i hi
  · show SEr (vp_updL (o_se o) p (o_si o) i) (upd (r_lc u) (512 * m + p) (o_cx o) (512 * m + i)) (upd (r_ln u) (512 * m + p) (nI (r_nd u)) (512 * m + i))
    by_cases h : i = p
    · subst h
      rw [pk_uLs, pk_us, pk_us]
      exact Or.inr ⟨⟨r_nd u, hnd.1, by omega, rfl⟩, hcN, hs⟩
    · rw [pk_uLn h, pk_un (by omega), pk_un (by omega)]
      exact hT.2.2.1 i hi
theorem acB_cl (z : Int32) (u : RS) (m : Nat) : r_cl (r_acB z m u) = r_cl u := rfl
theorem cn_self {o : Mo} {u : RS} {m : Nat} {x : Int32} {f : Nat → Int32} (hT : TbR o u m) : TbR (os_cn o x) (rs_cl u (upd f m x)) m := by
  refine ⟨hT.1, hT.2.1, hT.2.2.1, ?_⟩
  show x = upd f m x m
  rw [pk_us]
theorem ac_self (z : Int32) {o : Mo} {u : RS} {m p : Nat} (hp : p < 512) (h1 : (o_pl o).toNatClampNeg = p) (h2 : (r_ix u m).toNatClampNeg = p) (hr : o_rt o = r_ra u m) (hrN : isN (o_rt o) 2 7) (hc : r_ctx u m = o_cx o) (hcN : isN (o_cx o) 0 16974592) (hnd : 1 ≤ r_nd u ∧ r_nd u < 256) (hs : o_si o = 256 * (o_cx o).toInt64 + (nI (r_nd u)).toInt64) (hT : TbR o u m) : TbR (o_ac z o) (r_ac1 z m u) m := by
  have hB := a0_self z hp h1 h2 hr hrN hc hcN hnd hs hT
  have eat : r_at u m = 512 * m + p := by unfold r_at; rw [h2]
  have hS := hT.2.2.1 p hp
  have hcl : o_cn o = r_cl u m := hT.2.2.2
  unfold o_ac r_ac1
  rw [h1, eat, hc]
  rcases hS with ⟨s0, n0⟩ | ⟨nN, cN, sE⟩
  · rw [if_pos ((lg_cmp_eq _ _).mpr s0), if_pos n0]
    exact hB
  · obtain ⟨a, b, ha, hb1, hb2, ea, eb, eab⟩ := sight_N cN nN
    obtain ⟨a', b', ha', hb1', hb2', ea', eb', eab'⟩ := sight_N hcN ⟨r_nd u, hnd.1, by omega, rfl⟩
    have hbb : r_nd u = b' := (nI_eq (by omega) (by omega)).mp eb'
    have n1 : ¬ r_ln u (512 * m + p) = 0 := by
      rw [eb]
      exact nI_ne0 (by omega) (by omega)
    have s1 : ¬ lg_cmp (o_se o p) 0 = 0 := fun h9 => by
      have h8 := (lg_cmp_eq _ _).mp h9
      rw [sE, eab] at h8
      have := (pk_lEQ (a := 256 * a + b) (b := 0) (by omega) (by omega)).mp h8
      omega
    rw [if_neg s1, if_neg n1, sE, eab, hs, eab', ea, eb, ea', eb']
    rw [hcl]
    by_cases g1 : b = b'
    · rw [if_pos (show nI b = nI b' by rw [g1])]
      by_cases g2 : a = a'
      · rw [if_pos (show nI a = nI a' by rw [g2]), if_pos ((lg_cmp_eq _ _).mpr (by rw [g1, g2]))]
        exact hB
      · rw [if_neg (fun h9 => g2 ((nI_eq (by omega) (by omega)).mp h9)), if_neg (fun h9 => g2 (by
          have := (pk_lEQ (a := 256 * a + b) (b := 256 * a' + b') (by omega) (by omega)).mp ((lg_cmp_eq _ _).mp h9)
          omega))]
        exact cn_self hB
    · rw [if_neg (fun h9 => g1 ((nI_eq (by omega) (by omega)).mp h9)), if_neg (fun h9 => g1 (by
        have := (pk_lEQ (a := 256 * a + b) (b := 256 * a' + b') (by omega) (by omega)).mp ((lg_cmp_eq _ _).mp h9)
        omega))]
      exact cn_self hB
theorem acB_oth (z : Int32) {o : Mo} {u : RS} {j m p : Nat} (hp : p < 512) (h2 : (r_ix u m).toNatClampNeg = p) (hj : ¬ j = m) (hT : TbR o u j) : TbR o (r_acB z m u) j := by
  have eat : r_at u m = 512 * m + p := by unfold r_at; rw [h2]
  unfold r_acB
  rw [eat]
  refine ⟨fun i hi => ?_, hT.2.1, fun i hi => ?_, hT.2.2.2⟩
  · show o_co o i = upd (r_co u) (512 * m + p) _ (512 * j + i) ∧ isN (o_co o i) 1 4095
    rw [pk_un (by omega)]
    exact hT.1 i hi
  · show SEr (o_se o i) (upd (r_lc u) (512 * m + p) _ (512 * j + i)) (upd (r_ln u) (512 * m + p) _ (512 * j + i))
    rw [pk_un (by omega), pk_un (by omega)]
    exact hT.2.2.1 i hi
theorem cl_oth {o : Mo} {u : RS} {j m : Nat} {x : Int32} (hj : ¬ j = m) (hT : TbR o u j) : TbR o (rs_cl u (upd (r_cl u) m x)) j := by
  refine ⟨hT.1, hT.2.1, hT.2.2.1, ?_⟩
  show o_cn o = upd (r_cl u) m x j
  rw [pk_un hj]
  exact hT.2.2.2
theorem ac_oth (z : Int32) {o : Mo} {u : RS} {j m p : Nat} (hp : p < 512) (h2 : (r_ix u m).toNatClampNeg = p) (hj : ¬ j = m) (hT : TbR o u j) : TbR o (r_ac1 z m u) j := by
  have hB := acB_oth z hp h2 hj hT
  unfold r_ac1
  split
  · exact hB
  · split
    · split
      · exact hB
      · exact cl_oth hj hB
    · exact cl_oth hj hB
theorem ac_sh (z : Int32) (u : RS) (m : Nat) : sh (r_ac1 z m u) = sh u ∧ r_ra (r_ac1 z m u) = r_ra u := by
  unfold r_ac1
  split
  · exact ⟨rfl, rfl⟩
  · split
    · split
      · exact ⟨rfl, rfl⟩
      · exact ⟨rfl, rfl⟩
    · exact ⟨rfl, rfl⟩
