/-! ===== decode, whole ===== -/
theorem DR_dby {y : Mx} {d : DT} {t : Nat} (h : DR y d t) : ∀ k : Nat, t + k ≤ 640 → DR (x_dby y k).1 (r_dby d k).1 (t + k) ∧ rd (r_dby d k).1.1 = rd d.1 ∧ (x_dby y k).2 = (r_dby d k).2
  | 0, _ => ⟨h, rfl, rfl⟩
  | k + 1, hk => by
    obtain ⟨h1, h2, h3⟩ := DR_dby h k (by omega)
    obtain ⟨g1, g2, g3⟩ := DR_db h1 (by omega)
    refine ⟨g1, g2.trans h2, ?_⟩
    show 2 * (x_dby y k).2 + (if x_zd (x_dby y k).1 = 0 then 0 else 1) = r_dvl (r_dby d k).1 (r_dby d k).2
    unfold r_dvl
    rw [h3, g3]
abbrev ReT9 : Type := Int32 × Nat × (Nat → Int32) × Nat × (Nat → Int32) × Nat
def re (v : RS) : ReT9 := (r_th v, r_sz v, r_tx v, r_cs v, r_cd v, r_mk v)
theorem re_rd {u v : RS} (h : rd u = rd v) : re u = re v := by
  have g1 : r_th u = r_th v := congrArg (fun q : RdT9 => q.1) h
  have g2 : r_sz u = r_sz v := congrArg (fun q : RdT9 => q.2.1) h
  have g3 : r_tx u = r_tx v := congrArg (fun q : RdT9 => q.2.2.1) h
  have g4 : r_cs u = r_cs v := congrArg (fun q : RdT9 => q.2.2.2.1) h
  have g5 : r_cd u = r_cd v := congrArg (fun q : RdT9 => q.2.2.2.2.1) h
  have g6 : r_mk u = r_mk v := congrArg (fun q : RdT9 => q.2.2.2.2.2.1) h
  unfold re
  rw [g1, g2, g3, g4, g5, g6]
theorem rd_ou {u v : RS} (h : rd u = rd v) : r_ou u = r_ou v := congrArg (fun q : RdT9 => q.2.2.2.2.2.2) h
theorem re_ou (u : RS) (x : Nat → Int32) : re (rs_ou u x) = re u := by unfold re; rw [r_th_ou, r_sz_ou, r_tx_ou, r_cs_ou, r_cd_ou, r_mk_ou]
theorem PR_ou {k : Pr} {u : RS} (x : Nat → Int32) (h : PR k u) : PR k (rs_ou u x) := ⟨PV_pv (pv_ou u x) h.1, by rw [r_ob_ou]; exact h.2.1, by rw [r_er_ou]; exact h.2.2⟩
theorem dpl_2 (k : Nat) (w : DT × Int32) : (r_dpl k w).2 = w.1.2 := rfl
theorem dpl_1 (k : Nat) (w : DT × Int32) : (r_dpl k w).1 = rs_ou w.1.1 (upd (r_ou w.1.1) k w.2) := rfl
theorem DR_dap {y : Mx} {d : DT} {k : Nat} (h : DR y d (8 * k)) (hk : k < 80) (hq : RowQ (x_de y) k (r_ou d.1)) : DR (x_dap y) (r_dpl k (r_dby d 8)) (8 * (k + 1)) ∧ RowQ (x_de (x_dap y)) (k + 1) (r_ou (r_dpl k (r_dby d 8)).1) ∧ re (r_dpl k (r_dby d 8)).1 = re d.1 := by
  obtain ⟨⟨hp, hbt, hn, hc, a, b, hI, hab, hb⟩, h2, h3⟩ := DR_dby h 8 (by omega)
  have ho : r_ou (r_dby d 8).1.1 = r_ou d.1 := rd_ou h2
  have hde := x_dby_de y 8
  have e1 : (r_dpl k (r_dby d 8)).1 = rs_ou (r_dby d 8).1.1 (upd (r_ou d.1) k (r_dby d 8).2) := by
    rw [dpl_1, ho]
  have e2 : (r_dpl k (r_dby d 8)).2 = (r_dby d 8).1.2 := dpl_2 k _
  have ex : x_dap y = xs_de (x_dby y 8).1 (q_app 80 (x_de y) (r_dby d 8).2) := by unfold x_dap; rw [hde, h3]
  rw [ex]
  unfold DR DI
  rw [e1, e2]
  generalize r_dby d 8 = w at *
  generalize (x_dby y 8).1 = y2 at *
  obtain ⟨⟨⟨g1, g2⟩, ⟨g3, g4⟩, g5, g6⟩, g7, g8⟩ := hI
  refine ⟨⟨?_, ?_, ?_, ?_, a, b, ⟨⟨⟨?_, ?_⟩, ⟨?_, ?_⟩, ?_, ?_⟩, ?_, ?_⟩, hab, hb⟩, ?_, ?_⟩
  · rw [x_pr_de]; exact PR_ou _ hp
  · rw [x_pr_de, hbt, show 8 * (k + 1) = 8 * k + 8 by omega]
  · omega
  · rw [r_cs_ou]; exact hc
  · rw [x_iv_de]; exact g1
  · rw [x_iv_de]; exact g2
  · rw [r_lw_ou]; exact g3
  · rw [r_hg_ou]; exact g4
  · rw [x_en_de, r_cs_ou, r_cd_ou]; exact g5
  · rw [x_en_de]; exact g6
  · rw [x_iv_de]; exact g7
  · rw [x_iv_de]; exact g8
  · rw [x_de_de, r_ou_ou]
    exact app_Q hq hk
  · rw [re_ou]; exact re_rd h2
theorem DR_dlp {y : Mx} {d : DT} (h : DR y d 0) (hq : RowQ (x_de y) 0 (r_ou d.1)) : ∀ k : Nat, k ≤ 80 → DR (x_dlp y k) (r_dcl d k) (8 * k) ∧ RowQ (x_de (x_dlp y k)) k (r_ou (r_dcl d k).1) ∧ re (r_dcl d k).1 = re d.1 ∧ x_tx (x_dlp y k) = x_tx y ∧ x_en (x_dlp y k) = x_en y
  | 0, _ => ⟨h, hq, rfl, rfl, rfl⟩
  | k + 1, hk => by
    obtain ⟨h1, h2, h3, h4, h5⟩ := DR_dlp h hq k (by omega)
    obtain ⟨g1, g2, g3⟩ := DR_dap h1 (by omega) h2
    exact ⟨g1, g2, g3.trans h3, (x_dap_tx _).trans h4, (x_dap_en _).trans h5⟩
theorem v_lod_e (v : Iv) (r : Row) : v_lod v r = v_pul (v_pul (v_pul (v_pul v r) r) r) r := by
  unfold v_lod i_lod
  have e : ∀ w : IR, i_v (i_pul w) = v_pul (i_v w) (i_r w) := fun w => by unfold i_pul; rw [i_v_v]
  rw [e, i_pul_r, i_pul_r, i_pul_r, e, i_pul_r, i_pul_r, e, i_pul_r, e]
  rfl
theorem boc_N {v : RS} (hB : ∀ i, i < r_cs v → isN (r_cd v i) 0 255) (p : Nat) : ∃ n : Nat, n ≤ 255 ∧ (r_boc v p).toInt64 = lN n := by
  unfold r_boc
  by_cases g : p < r_cs v
  · obtain ⟨n, -, hn, e⟩ := hB p g
    rw [if_pos g, e]
    exact ⟨n, hn, nI_l (by omega)⟩
  · rw [if_neg g]
    exact ⟨0, by omega, rfl⟩
theorem d1_DR {x : Mx} {u : RS} (m : Nat) (hs : SH (x_pr x) u) (hq : RowQ (x_en x) (r_cs u) (r_cd u)) (hB : RowB (x_en x)) (hc : r_cs u ≤ 2564) : DR (x_d1 x) (rs_mk (r_d1 u) m, r_x0 (r_d1 u), 4) 0 ∧ re (rs_mk (r_d1 u) m) = (0, r_sz u, r_tx u, r_cs u, r_cd u, m) ∧ x_tx (x_d1 x) = x_tx x ∧ x_en (x_d1 x) = x_en x ∧ q_c (x_de (x_d1 x)) = 0 := by
  have c1 : r_cs (r_d1 u) = r_cs u := by unfold r_d1; rw [r_cs_hg, r_cs_lw, r_clr_cs, r_cs_th]
  have c2 : r_cd (r_d1 u) = r_cd u := by unfold r_d1; rw [r_cd_hg, r_cd_lw, r_clr_cd, r_cd_th]
  have hk : rk (r_d1 u) = rk (r_clr (rs_th u 0)) := by unfold r_d1; rw [rk_hg, rk_lw]
  have ep : x_pr (x_d1 x) = k_rs (x_pr x) := by unfold x_d1; rw [x_pr_de, x_pr_iv, x_pr_iv, x_pr_pr]
  have ei : x_iv (x_d1 x) = v_lod (v_opn (x_iv x)) (x_en x) := by unfold x_d1; rw [x_iv_de, x_iv_iv]
  have ee : x_en (x_d1 x) = x_en x := by unfold x_d1; rw [x_en_de, x_en_iv, x_en_iv, x_en_pr]
  have et : x_tx (x_d1 x) = x_tx x := by unfold x_d1; rw [x_tx_de, x_tx_iv, x_tx_iv, x_tx_pr]
  have ed : x_de (x_d1 x) = qs_c (x_de x) 0 := by unfold x_d1; rw [x_de_de]
  have o1 : v_lo (v_opn (x_iv x)) = 0 := rfl
  have o2 : v_hi (v_opn (x_iv x)) = 4294967295 := rfl
  have o3 : v_x (v_opn (x_iv x)) = 0 := rfl
  have o4 : v_nx (v_opn (x_iv x)) = nI 0 := rfl
  have hq1 : RowQ (x_en x) (r_cs (r_d1 u)) (r_cd (r_d1 u)) := by rw [c1, c2]; exact hq
  have hB1 : ∀ i, i < r_cs (r_d1 u) → isN (r_cd (r_d1 u) i) 0 255 := fun i hi => by rw [c1] at hi; rw [c2, ← hq.2 i hi]; exact hB i (by rw [hq.1]; exact hi)
  have hc1 : r_cs (r_d1 u) ≤ 2564 := by rw [c1]; exact hc
  obtain ⟨n0, b0, t0⟩ := boc_N hB1 0
  obtain ⟨n1, b1, t1⟩ := boc_N hB1 1
  obtain ⟨n2, b2, t2⟩ := boc_N hB1 2
  obtain ⟨n3, b3, t3⟩ := boc_N hB1 3
  refine ⟨⟨?_, ?_, ?_, ?_, 0, 4294967295, ⟨⟨⟨?_, ?_⟩, ⟨?_, ?_⟩, ?_, ?_⟩, ?_, ?_⟩, by omega, by omega⟩, ?_, et, ee, ?_⟩
  · rw [ep]
    have hp := PR_rk hk (PR_rs (SH_th 0 hs))
    exact ⟨PV_pv (pv_mk _ _) hp.1, by rw [r_ob_mk]; exact hp.2.1, by rw [r_er_mk]; exact hp.2.2⟩
  · rw [ep, k_rs_bt]; rfl
  · show 4 ≤ 4 + 4 * 0
    omega
  · show r_cs (rs_mk (r_d1 u) m) ≤ 2564
    rw [r_cs_mk]; exact hc1
  · rw [ei, v_lod_e, v_pul_lo, v_pul_lo, v_pul_lo, v_pul_lo, o1]; rfl
  · rw [ei, v_lod_e, v_pul_hi, v_pul_hi, v_pul_hi, v_pul_hi, o2]; rfl
  · show r_lw (rs_mk (r_d1 u) m) = _
    rw [r_lw_mk]; unfold r_d1; rw [r_lw_hg, r_lw_lw]; rfl
  · show r_hg (rs_mk (r_d1 u) m) = _
    rw [r_hg_mk]; unfold r_d1; rw [r_hg_hg]; rfl
  · show RowQ (x_en (x_d1 x)) (r_cs (rs_mk (r_d1 u) m)) (r_cd (rs_mk (r_d1 u) m))
    rw [ee, r_cs_mk, r_cd_mk]; exact hq1
  · rw [ee]; exact hB
  · show v_x (x_iv (x_d1 x)) = r_x0 (r_d1 u)
    rw [ei, v_lod_e]
    simp only [v_pul_x, v_pul_nx, o3, o4, nI_1]
    unfold r_x0
    rw [boc_R hq1 hc1 (p := 0) (by omega), boc_R hq1 hc1 (p := 0 + 1) (by omega), boc_R hq1 hc1 (p := 0 + 1 + 1) (by omega), boc_R hq1 hc1 (p := 0 + 1 + 1 + 1) (by omega)]
    rw [show (0 : Nat) + 1 = 1 from rfl, show (1 : Nat) + 1 = 2 from rfl, show (2 : Nat) + 1 = 3 from rfl, t0, t1, t2, t3]
    rw [show (0 : Int64) = lN 0 from rfl, sh8_N (by omega), lN_add, sh8_N (by omega), lN_add, sh8_N (by omega), lN_add, sh8_N (by omega), lN_add]
    rw [show (256 : Int64) = lN 256 from rfl, lN_mul, lN_add, lN_mul, lN_add, lN_mul, lN_add, lN_mul, lN_add]
    congr 1
    omega
  · show v_nx (x_iv (x_d1 x)) = nI 4
    rw [ei, v_lod_e, v_pul_nx, v_pul_nx, v_pul_nx, v_pul_nx, o4, nI_1, nI_1, nI_1, nI_1]
  · unfold re
    rw [r_th_mk, r_sz_mk, r_tx_mk, r_cs_mk, r_cd_mk, r_mk_mk, c1, c2]
    unfold r_d1
    rw [r_th_hg, r_th_lw, r_clr_th, r_th_th, r_sz_hg, r_sz_lw, r_clr_sz, r_sz_th, r_tx_hg, r_tx_lw, r_clr_tx, r_tx_th]
  · rw [ed, q_c_c]
theorem dec_R {x : Mx} {u : RS} (q : Int32) (hm : q.toNatClampNeg ≤ 80) (hs : SH (x_pr x) u) (hq : RowQ (x_en x) (r_cs u) (r_cd u)) (hB : RowB (x_en x)) (hc : r_cs u ≤ 2564) :
    PR (x_pr (x_dec x q)) (r_dec q.toNatClampNeg u) ∧ (∃ t : Nat, t ≤ 640 ∧ k_bt (x_pr (x_dec x q)) = nI t) ∧ RowQ (x_de (x_dec x q)) q.toNatClampNeg (r_ou (r_dec q.toNatClampNeg u)) ∧ re (r_dec q.toNatClampNeg u) = (0, r_sz u, r_tx u, r_cs u, r_cd u, q.toNatClampNeg) ∧ x_tx (x_dec x q) = x_tx x ∧ x_en (x_dec x q) = x_en x := by
  unfold x_dec r_dec
  generalize q.toNatClampNeg = m at *
  obtain ⟨h1, h2, h3, h4, h5⟩ := d1_DR m hs hq hB hc
  obtain ⟨g1, g2, g3, g4, g5⟩ := DR_dlp h1 ⟨h5, fun i hi => by omega⟩ m hm
  exact ⟨g1.1, ⟨8 * m, by omega, g1.2.1⟩, g2, g3.trans h2, g4.trans h3, g5.trans h4⟩
