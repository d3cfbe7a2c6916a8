/-! ===== call by call: what changes more ===== -/
section CALLS2
variable {x : Mx} {u : RS} {c : Nat}
theorem Rel_ks {k : Pr} {v : RS} (h : Rel x u c) (hs : SH k v) (hv : qv v = qv v) (h1 : r_sz v = r_sz u) (h2 : r_tx v = r_tx u) (h3 : r_cs v = r_cs u) (h4 : r_cd v = r_cd u) (h5 : r_mk v = r_mk u) (h6 : r_ou v = r_ou u) : Rel (xs_pr x (k_rs k)) (r_clr v) (c + 1) := Rel_rs h hs ⟨h1, h2, h3, h4, h5, h6⟩
theorem add_th (y0 y1 y2 : Int32) (u : RS) : r_th (r_add y0 y1 y2 u) = 0 := by
  unfold r_add
  rw [r_clr_th, r_th_n, r_th_lo, r_th_ra, r_th_od, r_th_th]
theorem cl_addModel (h : Rel x u c) (y0 y1 y2 : Int32) : CALL x (xs_pr x (k_tk (x_pr x) y0 y1 y2)) (cdAdd x y0 y1 y2) (nI (k_n (x_pr x))) (if isI y0 0 3 = 0 then 0 else if isI y1 2 7 = 0 then 0 else if isI y2 4 9 = 0 then 0 else if r_n u = 6 then 0 else nI (r_n u)) (if isI y0 0 3 = 0 then (rs_th (rs_th u 0) 1) else if isI y1 2 7 = 0 then (rs_th (rs_th u 0) 1) else if isI y2 4 9 = 0 then (rs_th (rs_th u 0) 1) else if r_n u = 6 then (rs_th (rs_th u 0) 2) else r_add y0 y1 y2 u) c := by
  unfold cdAdd
  have hn := h.n
  have hn6 := h.pv.1.2
  rw [hn]
  by_cases g1 : isI y0 0 3 = 0
  · rw [if_pos g1, if_pos g1, if_pos g1]; exact cl_1 h rfl
  rw [if_neg g1, if_neg g1, if_neg g1]
  by_cases g2 : isI y1 2 7 = 0
  · rw [if_pos g2, if_pos g2, if_pos g2]; exact cl_1 h rfl
  rw [if_neg g2, if_neg g2, if_neg g2]
  by_cases g3 : isI y2 4 9 = 0
  · rw [if_pos g3, if_pos g3, if_pos g3]; exact cl_1 h rfl
  rw [if_neg g3, if_neg g3, if_neg g3]
  by_cases g4 : r_n u = 6
  · rw [if_pos g4, if_pos g4, if_pos g4]; exact cl_2 h rfl
  rw [if_neg g4, if_neg g4, if_neg g4]
  refine cl_0 rfl (add_th _ _ _ _) rfl ?_
  unfold k_tk r_add
  refine Rel_rs h ?_ ?_
  · refine ⟨⟨?_, ?_⟩, fun j hj => ?_⟩
    · rw [r_n_n, k_n_n, hn]
    · rw [k_n_n]; omega
    · rw [k_n_n] at hj
      unfold ShR
      rw [r_od_n, r_od_lo, r_od_ra, r_od_od, r_ra_n, r_ra_lo, r_ra_ra, r_lo_n, r_lo_lo, k_mo_n, k_mo_mo]
      by_cases gj : j = r_n u
      · subst gj
        rw [hn, setM_at, pk_us, pk_us, pk_us]
        exact ⟨⟨rfl, rfl, rfl⟩, isI_isN (lo := 0) (hi := 3) (by omega) (by omega) g1, isI_isN (lo := 2) (hi := 7) (by omega) (by omega) g2, isI_isN (lo := 4) (hi := 9) (by omega) (by omega) g3⟩
      · have gj2 : ¬ j = k_n (x_pr x) := by rw [hn]; exact gj
        have es : setM (k_mo (x_pr x)) (k_n (x_pr x)) (o_shp (k_mo (x_pr x) (k_n (x_pr x))) y0 y1 y2) j = k_mo (x_pr x) j := if_neg gj2
        rw [es, pk_un gj, pk_un gj, pk_un gj]
        exact (h.pv.2.2.2.2 j (by omega)).1
  · refine ⟨?_, ?_, ?_, ?_, ?_, ?_⟩
    · rw [r_sz_n, r_sz_lo, r_sz_ra, r_sz_od, r_sz_th]
    · rw [r_tx_n, r_tx_lo, r_tx_ra, r_tx_od, r_tx_th]
    · rw [r_cs_n, r_cs_lo, r_cs_ra, r_cs_od, r_cs_th]
    · rw [r_cd_n, r_cd_lo, r_cd_ra, r_cd_od, r_cd_th]
    · rw [r_mk_n, r_mk_lo, r_mk_ra, r_mk_od, r_mk_th]
    · rw [r_ou_n, r_ou_lo, r_ou_ra, r_ou_od, r_ou_th]
theorem cl_removeModel (h : Rel x u c) : CALL x (xs_pr x (k_dr (x_pr x))) (cdRem x) (nI (k_n (x_pr x) - 1)) (if r_n u = 0 then 0 else nI (r_n u - 1)) (if r_n u = 0 then (rs_th (rs_th u 0) 1) else r_clr (rs_n (rs_th u 0) (r_n u - 1))) c := by
  unfold cdRem
  have hn := h.n
  have hn6 := h.pv.1.2
  rw [hn]
  by_cases g1 : r_n u = 0
  · rw [if_pos g1, if_pos g1, if_pos g1]; exact cl_1 h rfl
  rw [if_neg g1, if_neg g1, if_neg g1]
  refine cl_0 rfl (by rw [r_clr_th, r_th_n, r_th_th]) rfl ?_
  unfold k_dr
  refine Rel_rs h ?_ ?_
  · refine ⟨⟨?_, ?_⟩, fun j hj => ?_⟩
    · rw [r_n_n, k_n_n, hn]
    · rw [k_n_n]; omega
    · rw [k_n_n] at hj
      unfold ShR
      rw [k_mo_n, r_od_n, r_od_th, r_ra_n, r_ra_th, r_lo_n, r_lo_th]
      exact (h.pv.2.2.2.2 j (by omega)).1
  · refine ⟨?_, ?_, ?_, ?_, ?_, ?_⟩
    · rw [r_sz_n, r_sz_th]
    · rw [r_tx_n, r_tx_th]
    · rw [r_cs_n, r_cs_th]
    · rw [r_cd_n, r_cd_th]
    · rw [r_mk_n, r_mk_th]
    · rw [r_ou_n, r_ou_th]
theorem cl_setRate (h : Rel x u c) (q y : Int32) : CALL x (x_rat x q y) (cdRat x q y) (o_rt (k_mo (x_pr x) q.toNatClampNeg)) (if isI q 0 (nI (r_n u) - 1) = 0 then 0 else if isI y 2 7 = 0 then 0 else r_ra u q.toNatClampNeg) (if isI q 0 (nI (r_n u) - 1) = 0 then (rs_th (rs_th u 0) 1) else if isI y 2 7 = 0 then (rs_th (rs_th u 0) 2) else r_clr (rs_ra (rs_th u 0) (upd (r_ra u) q.toNatClampNeg y))) c := by
  unfold cdRat
  have hn := h.n
  have hn6 := h.pv.1.2
  rw [hn]
  by_cases g1 : isI q 0 (nI (r_n u) - 1) = 0
  · rw [if_pos g1, if_pos g1, if_pos g1]; exact cl_1 h rfl
  rw [if_neg g1, if_neg g1, if_neg g1]
  by_cases g2 : isI y 2 7 = 0
  · rw [if_pos g2, if_pos g2, if_pos g2]; exact cl_2 h rfl
  rw [if_neg g2, if_neg g2, if_neg g2]
  have hm := isM_N h g1
  refine cl_0 rfl (by rw [r_clr_th, r_th_ra, r_th_th]) (h.pv.2.2.2.2 _ hm).1.1.2.1 ?_
  unfold x_rat
  refine Rel_rs h ?_ ?_
  · refine ⟨⟨?_, ?_⟩, fun j hj => ?_⟩
    · rw [r_n_ra, r_n_th, k_n_mo, hn]
    · rw [k_n_mo]; exact hn6
    · rw [k_n_mo] at hj
      unfold ShR
      rw [k_mo_mo, r_od_ra, r_od_th, r_ra_ra, r_lo_ra, r_lo_th]
      by_cases gj : j = q.toNatClampNeg
      · subst gj
        rw [setM_at, pk_us, o_od_rt, o_rt_rt, o_t_rt]
        obtain ⟨⟨s1, s2, s3⟩, s4, s5, s6⟩ := (h.pv.2.2.2.2 _ hm).1
        exact ⟨⟨s1, rfl, s3⟩, s4, isI_isN (lo := 2) (hi := 7) (by omega) (by omega) g2, s6⟩
      · have es : setM (k_mo (x_pr x)) q.toNatClampNeg (os_rt (k_mo (x_pr x) q.toNatClampNeg) y) j = k_mo (x_pr x) j := if_neg gj
        rw [es, pk_un gj]
        exact (h.pv.2.2.2.2 j hj).1
  · refine ⟨?_, ?_, ?_, ?_, ?_, ?_⟩
    · rw [r_sz_ra, r_sz_th]
    · rw [r_tx_ra, r_tx_th]
    · rw [r_cs_ra, r_cs_th]
    · rw [r_cd_ra, r_cd_th]
    · rw [r_mk_ra, r_mk_th]
    · rw [r_ou_ra, r_ou_th]
/-- a text that has grown -/
theorem Rel_tx {r : Row} {v : RS} (h : Rel x u c) (hq : RowQ r (r_sz v) (r_tx v)) (hB : RowB r) (hz : r_sz v ≤ 80) (hw : rw9 v = rw9 (rs_th u 0)) : Rel (xs_tx x r) v (c + 1) := by
  obtain ⟨hp, ⟨t, ht1, ht2⟩, -, h6, h7, h8⟩ := h
  have e1 : _root_.Eq (pv v) (pv (rs_th u 0)) := congrArg (fun q : RwT9 => q.1) hw
  have e2 : r_ob v = r_ob (rs_th u 0) := congrArg (fun q : RwT9 => q.2.1) hw
  have e3 : r_er v = r_er (rs_th u 0) := congrArg (fun q : RwT9 => q.2.2.1) hw
  have e4 : r_cs v = r_cs (rs_th u 0) := congrArg (fun q : RwT9 => q.2.2.2.2.1) hw
  have e5 : r_cd v = r_cd (rs_th u 0) := congrArg (fun q : RwT9 => q.2.2.2.2.2.1) hw
  have e6 : r_mk v = r_mk (rs_th u 0) := congrArg (fun q : RwT9 => q.2.2.2.2.2.2.1) hw
  have e7 : r_ou v = r_ou (rs_th u 0) := congrArg (fun q : RwT9 => q.2.2.2.2.2.2.2) hw
  unfold Rel PR
  rw [x_pr_tx, x_tx_tx, x_en_tx, x_de_tx, e2, e3, e4, e5, e6, e7, r_ob_th, r_er_th, r_cs_th, r_cd_th, r_mk_th, r_ou_th]
  exact ⟨⟨PV_pv (e1.trans (pv_th u 0)) hp.1, hp.2.1, hp.2.2⟩, ⟨t, by omega, ht2⟩, ⟨hq, hB, hz⟩, h6, h7, h8⟩
theorem cl_feed (h : Rel x u c) (w : Int64) (q : Int32) : CALL x (xs_tx x (q_fd w q.toNatClampNeg (x_tx x))) (cdFee x q) (nI (q_c (q_fd w q.toNatClampNeg (x_tx x)))) (if isI q 1 8 = 0 then 0 else if r_sz u + q.toNatClampNeg ≤ 80 then nI (r_sz u + q.toNatClampNeg) else 0) (if isI q 1 8 = 0 then (rs_th (rs_th u 0) 1) else if r_sz u + q.toNatClampNeg ≤ 80 then r_fd w q.toNatClampNeg (rs_th u 0) else (rs_th (rs_th u 0) 2)) c := by
  obtain ⟨hq, hB, hz⟩ := h.2.2.1
  unfold cdFee
  rw [hq.1]
  by_cases g1 : isI q 1 8 = 0
  · rw [if_pos g1, if_pos g1, if_pos g1]; exact cl_1 h rfl
  rw [if_neg g1, if_neg g1, if_neg g1]
  obtain ⟨j, hj1, hj8, hq9⟩ := isI_j (lo := 1) (hi := 8) (by omega) (by omega) g1
  have hcl : q.toNatClampNeg = j := clN hq9 (Nat.lt_succ_of_le hj8) (by omega)
  rw [hcl]
  by_cases g2 : r_sz u + j ≤ 80
  · rw [if_pos g2, if_pos g2, if_pos g2]
    obtain ⟨f1, f2, f3, f4⟩ := fd_R w j (x_tx x) (rs_th u 0) hj8 (by rw [r_sz_th, r_tx_th]; exact hq) hB (by rw [r_sz_th]; exact g2)
    rw [r_sz_th] at f3
    have ht : r_th (r_fd w j (rs_th u 0)) = r_th (rs_th u 0) := congrArg (fun q : RwT9 => q.2.2.2.1) f4
    refine cl_0 rfl (by rw [ht, r_th_th]) (by rw [f1.1, f3]) (Rel_tx h f1 f2 (by omega) f4)
  · rw [if_neg g2, if_neg g2, if_neg g2]; exact cl_2 h rfl
theorem cl_fill (h : Rel x u c) (v q : Int32) : CALL x (xs_tx x (q_fl v q.toNatClampNeg (x_tx x))) (cdFil x v q) (nI (q_c (q_fl v q.toNatClampNeg (x_tx x)))) (if isI v 0 255 = 0 then 0 else if isI q 1 80 = 0 then 0 else if r_sz u + q.toNatClampNeg ≤ 80 then nI (r_sz u + q.toNatClampNeg) else 0) (if isI v 0 255 = 0 then (rs_th (rs_th u 0) 1) else if isI q 1 80 = 0 then (rs_th (rs_th u 0) 1) else if r_sz u + q.toNatClampNeg ≤ 80 then rs_sz (rs_tx (rs_th u 0) (r_fl v (r_sz u) (r_tx u) q.toNatClampNeg)) (r_sz u + q.toNatClampNeg) else (rs_th (rs_th u 0) 2)) c := by
  obtain ⟨hq, hB, hz⟩ := h.2.2.1
  unfold cdFil
  rw [hq.1]
  by_cases g0 : isI v 0 255 = 0
  · rw [if_pos g0, if_pos g0, if_pos g0]; exact cl_1 h rfl
  rw [if_neg g0, if_neg g0, if_neg g0]
  by_cases g1 : isI q 1 80 = 0
  · rw [if_pos g1, if_pos g1, if_pos g1]; exact cl_1 h rfl
  rw [if_neg g1, if_neg g1, if_neg g1]
  generalize q.toNatClampNeg = j
  by_cases g2 : r_sz u + j ≤ 80
  · rw [if_pos g2, if_pos g2, if_pos g2]
    obtain ⟨f1, f2⟩ := fl_R (isI_isN (lo := 0) (hi := 255) (by omega) (by omega) g0) hq hB j g2
    refine cl_0 rfl (by rw [r_th_sz, r_th_tx, r_th_th]) (by rw [f1.1]) (Rel_tx h (by rw [r_sz_sz, r_tx_sz, r_tx_tx]; exact f1) f2 (by rw [r_sz_sz]; exact g2) (by rw [rw9_sz, rw9_tx]))
  · rw [if_neg g2, if_neg g2, if_neg g2]; exact cl_2 h rfl
theorem cl_decode (h : Rel x u c) (q : Int32) : CALL x (x_dec x q) (cdDec q) (dfX (x_dec x q) (max (q_c (x_tx (x_dec x q))) (q_c (x_de (x_dec x q))))) (if isI q 0 80 = 0 then 0 else dfR (r_dec q.toNatClampNeg u) (min (r_sz (r_dec q.toNatClampNeg u)) (r_mk (r_dec q.toNatClampNeg u)))) (if isI q 0 80 = 0 then (rs_th (rs_th u 0) 1) else r_dec q.toNatClampNeg u) c := by
  obtain ⟨hp, -, ⟨hq, hB, hz⟩, ⟨eq, eB, en⟩, -, -⟩ := id h
  unfold cdDec
  by_cases g1 : isI q 0 80 = 0
  · rw [if_pos g1, if_pos g1, if_pos g1]; exact cl_1 h rfl
  rw [if_neg g1, if_neg g1, if_neg g1]
  obtain ⟨j, -, hj8, hq9⟩ := isI_j (lo := 0) (hi := 80) (by omega) (by omega) g1
  have hcl : q.toNatClampNeg = j := clN hq9 (Nat.lt_succ_of_le hj8) (by omega)
  obtain ⟨d1, ⟨t, d2, d3⟩, d4, d5, d6, d7⟩ := dec_R q (by omega) (PV_SH hp.1) eq eB en
  have t1 : r_th (r_dec q.toNatClampNeg u) = 0 := congrArg (fun q : ReT9 => q.1) d5
  have t2 : r_sz (r_dec q.toNatClampNeg u) = r_sz u := congrArg (fun q : ReT9 => q.2.1) d5
  have t3 : r_tx (r_dec q.toNatClampNeg u) = r_tx u := congrArg (fun q : ReT9 => q.2.2.1) d5
  have t4 : r_cs (r_dec q.toNatClampNeg u) = r_cs u := congrArg (fun q : ReT9 => q.2.2.2.1) d5
  have t5 : r_cd (r_dec q.toNatClampNeg u) = r_cd u := congrArg (fun q : ReT9 => q.2.2.2.2.1) d5
  have t6 : r_mk (r_dec q.toNatClampNeg u) = q.toNatClampNeg := congrArg (fun q : ReT9 => q.2.2.2.2.2) d5
  rw [hcl] at *
  generalize r_dec j u = v at *
  generalize x_dec x q = y at *
  have a1 : RowQ (x_tx y) (r_sz v) (r_tx v) := by rw [d6, t2, t3]; exact hq
  have a2 : RowQ (x_de y) (r_mk v) (r_ou v) := by rw [t6]; exact d4
  refine cl_0 rfl t1 (diff_R a1 a2 (by rw [t2]; exact hz) (by rw [t6]; exact hj8)) ?_
  unfold Rel
  rw [d7, t4, t5]
  exact ⟨d1, ⟨t, by omega, d3⟩, ⟨a1, by rw [d6]; exact hB, by rw [t2]; exact hz⟩, ⟨eq, eB, en⟩, a2, by rw [t6]; exact hj8⟩
/-- encode, observe, reset -/
theorem cl_encode (h : Rel x u c) : q_c (x_en (x_enc x)) = r_cs (r_enc u) ∧ Rel (x_enc x) (r_enc u) (c + 1) := by
  obtain ⟨hp, -, ⟨hq, hB, hz⟩, -, hd, hm⟩ := h
  obtain ⟨d1, ⟨t, d2, d3⟩, d4, d5, d6, d7, d8, d9⟩ := enc_R (PV_SH hp.1) hq hB hz
  have t2 : r_sz (r_enc u) = r_sz u := congrArg (fun q : RjT9 => q.2.1) d7
  have t3 : r_tx (r_enc u) = r_tx u := congrArg (fun q : RjT9 => q.2.2.1) d7
  have t4 : r_mk (r_enc u) = r_mk u := congrArg (fun q : RjT9 => q.2.2.2.1) d7
  have t5 : r_ou (r_enc u) = r_ou u := congrArg (fun q : RjT9 => q.2.2.2.2) d7
  generalize r_enc u = v at *
  generalize x_enc x = y at *
  refine ⟨d4.1, ?_⟩
  unfold Rel
  rw [t2, t3, t4, t5, d8, d9]
  exact ⟨d1, ⟨t, by omega, d3⟩, ⟨hq, hB, hz⟩, ⟨d4, d5, by rw [← d4.1]; exact d6⟩, hd, hm⟩
theorem cl_observe (h : Rel x u c) (z : Int32) : k_mx (x_pr x) = r_mx (rs_th u 0) ∧ Rel (xs_pr x (k_ln z (k_mx (x_pr x)) (x_pr x))) (r_lrn z (rs_th u 0)) (c + 1) := by
  have h0 := Rel_th 0 h
  obtain ⟨hp, ⟨t, ht1, ht2⟩, h5, h6, h7, h8⟩ := h0
  have hq := lrn_qv z (rs_th u 0)
  have hj := rj_qv hq
  have t2 : r_sz (r_lrn z (rs_th u 0)) = r_sz (rs_th u 0) := congrArg (fun q : RjT9 => q.2.1) hj
  have t3 : r_tx (r_lrn z (rs_th u 0)) = r_tx (rs_th u 0) := congrArg (fun q : RjT9 => q.2.2.1) hj
  have t4 : r_mk (r_lrn z (rs_th u 0)) = r_mk (rs_th u 0) := congrArg (fun q : RjT9 => q.2.2.2.1) hj
  have t5 : r_ou (r_lrn z (rs_th u 0)) = r_ou (rs_th u 0) := congrArg (fun q : RjT9 => q.2.2.2.2) hj
  refine ⟨(mxR hp.1).1, ?_⟩
  have hp2 := PR_ln z hp
  unfold Rel
  rw [x_pr_pr, x_tx_pr, x_en_pr, x_de_pr, t2, t3, t4, t5, qv_cs hq, qv_cd hq]
  exact ⟨hp2, ⟨t + 1, by omega, by rw [k_ln_bt, ht2, nI_1]⟩, h5, h6, h7, h8⟩
theorem cl_reset (h : Rel x u c) : k_bt (x_pr x) = r_ob u ∧ Rel (xs_pr x (k_rs (x_pr x))) (r_clr (rs_th u 0)) (c + 1) :=
  ⟨h.1.2.1, Rel_rs h (SH_th 0 (PV_SH h.pv)) ⟨r_sz_th _ _, r_tx_th _ _, r_cs_th _ _, r_cd_th _ _, r_mk_th _ _, r_ou_th _ _⟩⟩
theorem Rel.btT (h : Rel x u c) (hc : c ≤ 1000000) : 0 ≤ (k_bt (x_pr x)).toInt := by
  obtain ⟨-, ⟨t, ht, e⟩, -⟩ := h
  rw [e, nI_toInt (by omega)]
  omega
end CALLS2
