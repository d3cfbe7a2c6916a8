/-! ===== call by call ===== -/
def CALL (x x' : Mx) (cd a b : Int32) (u' : RS) (c : Nat) : Prop := r_th u' = cd ∧ (cd = 0 → a = b) ∧ Rel (if cd = 0 then x' else x) u' (c + 1)
theorem cl_0 {x x' : Mx} {cd a b : Int32} {u' : RS} {c : Nat} (hcd : cd = 0) (ht : r_th u' = 0) (hab : a = b) (hR : Rel x' u' (c + 1)) : CALL x x' cd a b u' c := by
  subst hcd
  exact ⟨ht, fun _ => hab, by rw [if_pos rfl]; exact hR⟩
theorem cl_1 {x x' : Mx} {cd a b : Int32} {u : RS} {c : Nat} (h : Rel x u c) (hcd : cd = 1) : CALL x x' cd a b (rs_th (rs_th u 0) 1) c := by
  subst hcd
  exact ⟨rfl, fun h9 => absurd h9 (by decide), by rw [if_neg (by decide)]; exact Rel_t 1 (Rel_th 0 h)⟩
theorem cl_2 {x x' : Mx} {cd a b : Int32} {u : RS} {c : Nat} (h : Rel x u c) (hcd : cd = 2) : CALL x x' cd a b (rs_th (rs_th u 0) 2) c := by
  subst hcd
  exact ⟨rfl, fun h9 => absurd h9 (by decide), by rw [if_neg (by decide)]; exact Rel_t 2 (Rel_th 0 h)⟩
section CALLS
variable {x : Mx} {u : RS} {c : Nat}
theorem Rel.n (h : Rel x u c) : k_n (x_pr x) = r_n u := h.1.1.1.1
theorem Rel.pv0 (h : Rel x u c) : PV (x_pr x) (rs_th u 0) := PV_pv (pv_th u 0) h.1.1
theorem Rel.pv (h : Rel x u c) : PV (x_pr x) u := h.1.1
theorem isM_N (h : Rel x u c) {q : Int32} (g : ¬ isI q 0 (nI (r_n u) - 1) = 0) : q.toNatClampNeg < k_n (x_pr x) := by
  rw [h.n]
  exact isI_N (by have := h.pv.1.2; rw [h.n] at this; omega) g
theorem cl_prediction (h : Rel x u c) (q : Int32) : CALL x x (cdMod x q) (o_gs (k_mo (x_pr x) q.toNatClampNeg)) (if isI q 0 (nI (r_n u) - 1) = 0 then 0 else r_g (rs_th u 0) q.toNatClampNeg) (if isI q 0 (nI (r_n u) - 1) = 0 then (rs_th (rs_th u 0) 1) else (rs_th u 0)) c := by
  unfold cdMod
  rw [h.n]
  by_cases g : isI q 0 (nI (r_n u) - 1) = 0
  · rw [if_pos g, if_pos g, if_pos g]; exact cl_1 h rfl
  · rw [if_neg g, if_neg g, if_neg g]; exact cl_0 rfl rfl (gR h.pv0 (isM_N h g)).1 (Rel_t 0 h)
theorem cl_index (h : Rel x u c) (q : Int32) : CALL x x (cdMod x q) (o_pl (k_mo (x_pr x) q.toNatClampNeg)) (if isI q 0 (nI (r_n u) - 1) = 0 then 0 else r_ix (rs_th u 0) q.toNatClampNeg) (if isI q 0 (nI (r_n u) - 1) = 0 then (rs_th (rs_th u 0) 1) else (rs_th u 0)) c := by
  unfold cdMod
  rw [h.n]
  by_cases g : isI q 0 (nI (r_n u) - 1) = 0
  · rw [if_pos g, if_pos g, if_pos g]; exact cl_1 h rfl
  · rw [if_neg g, if_neg g, if_neg g]
    obtain ⟨p, -, e1, e2, -⟩ := plR h.pv0 (isM_N h g)
    exact cl_0 rfl rfl (e1.trans e2.symm) (Rel_t 0 h)
theorem cl_collisions (h : Rel x u c) (q : Int32) : CALL x x (cdMod x q) (o_cn (k_mo (x_pr x) q.toNatClampNeg)) (if isI q 0 (nI (r_n u) - 1) = 0 then 0 else r_cl u q.toNatClampNeg) (if isI q 0 (nI (r_n u) - 1) = 0 then (rs_th (rs_th u 0) 1) else (rs_th u 0)) c := by
  unfold cdMod
  rw [h.n]
  by_cases g : isI q 0 (nI (r_n u) - 1) = 0
  · rw [if_pos g, if_pos g, if_pos g]; exact cl_1 h rfl
  · rw [if_neg g, if_neg g, if_neg g]
    exact cl_0 rfl rfl (h.pv.2.2.2.2 _ (isM_N h g)).2.1.2.2.2 (Rel_t 0 h)
theorem cl_counter (h : Rel x u c) (q i : Int32) : CALL x x (cdCnt x q i) (o_co (k_mo (x_pr x) q.toNatClampNeg) i.toNatClampNeg) (if isI q 0 (nI (r_n u) - 1) = 0 then 0 else if isI i 0 ((1 : Int32) <<< (r_lo u q.toNatClampNeg &&& 31) - 1) = 0 then 0 else r_co u (512 * q.toNatClampNeg + i.toNatClampNeg)) (if isI q 0 (nI (r_n u) - 1) = 0 then (rs_th (rs_th u 0) 1) else if isI i 0 ((1 : Int32) <<< (r_lo u q.toNatClampNeg &&& 31) - 1) = 0 then (rs_th (rs_th u 0) 1) else (rs_th u 0)) c := by
  unfold cdCnt
  rw [h.n]
  by_cases g : isI q 0 (nI (r_n u) - 1) = 0
  · rw [if_pos g, if_pos g, if_pos g]; exact cl_1 h rfl
  · rw [if_neg g, if_neg g, if_neg g]
    obtain ⟨p, -, -, -, -, -, -, -, j, h1, h2, h3, h4, -⟩ := plR h.pv (isM_N h g)
    obtain ⟨g1, g2⟩ := pow_le h1 h2
    rw [h3, h4]
    by_cases g3 : isI i 0 (nI (2 ^ j) - 1) = 0
    · rw [if_pos g3, if_pos g3, if_pos g3]; exact cl_1 h rfl
    · rw [if_neg g3, if_neg g3, if_neg g3]
      have hi := isI_N (by omega) g3
      exact cl_0 rfl rfl ((h.pv.2.2.2.2 _ (isM_N h g)).2.1.1 _ (by omega)).1 (Rel_t 0 h)
theorem cl_weight (h : Rel x u c) (q i : Int32) : CALL x x (cdWei x q i) (o_we (k_mo (x_pr x) q.toNatClampNeg) i.toNatClampNeg) (if isI q 0 (nI (r_n u) - 1) = 0 then 0 else if isI i 0 7 = 0 then 0 else r_we u (8 * q.toNatClampNeg + i.toNatClampNeg)) (if isI q 0 (nI (r_n u) - 1) = 0 then (rs_th (rs_th u 0) 1) else if isI i 0 7 = 0 then (rs_th (rs_th u 0) 1) else (rs_th u 0)) c := by
  unfold cdWei
  rw [h.n]
  by_cases g : isI q 0 (nI (r_n u) - 1) = 0
  · rw [if_pos g, if_pos g, if_pos g]; exact cl_1 h rfl
  · rw [if_neg g, if_neg g, if_neg g]
    by_cases g3 : isI i 0 7 = 0
    · rw [if_pos g3, if_pos g3, if_pos g3]; exact cl_1 h rfl
    · rw [if_neg g3, if_neg g3, if_neg g3]
      have hi := isI_N (q := i) (n := 8) (by omega) g3
      exact cl_0 rfl rfl ((h.pv.2.2.2.2 _ (isM_N h g)).2.1.2.1 _ hi).1 (Rel_t 0 h)
theorem cl_history (h : Rel x u c) (q : Int32) : CALL x x (cdHis q) (k_la (x_pr x) q.toNatClampNeg) (if isI q 0 2 = 0 then 0 else r_hi u q.toNatClampNeg) (if isI q 0 2 = 0 then (rs_th (rs_th u 0) 1) else (rs_th u 0)) c := by
  unfold cdHis
  by_cases g : isI q 0 2 = 0
  · rw [if_pos g, if_pos g, if_pos g]; exact cl_1 h rfl
  · rw [if_neg g, if_neg g, if_neg g]
    have hi := isI_N (q := q) (n := 3) (by omega) g
    exact cl_0 rfl rfl (h.pv.2.2.2.1 _ hi).1 (Rel_t 0 h)
theorem cl_place (h : Rel x u c) {r : Row} {n : Nat} {f : Nat → Int32} (hr : RowQ r n f) (hn : n ≤ 2564) (q : Int32) : CALL x x (cdPlc r q) (q_at r q) (if isI q 0 (nI n - 1) = 0 then 0 else f q.toNatClampNeg) (if isI q 0 (nI n - 1) = 0 then (rs_th (rs_th u 0) 1) else (rs_th u 0)) c := by
  have e := has_isI (r := r) (q := q) (by rw [hr.1]; omega)
  rw [hr.1] at e
  unfold cdPlc
  by_cases g : isI q 0 (nI n - 1) = 0
  · rw [if_pos g, if_pos g, if_pos (by rw [e]; exact g)]; exact cl_1 h rfl
  · rw [if_neg g, if_neg g, if_neg (by rw [e]; exact g)]
    obtain ⟨j, hj, hq⟩ := isI0 (by omega) g
    have hcl := clN hq hj (by omega)
    refine cl_0 rfl rfl ?_ (Rel_t 0 h)
    rw [hcl, hq, at_in (by rw [hr.1]; exact hj) (by rw [hr.1]; omega)]
    exact hr.2 j hj
theorem put_Q {r : Row} {n : Nat} {f : Nat → Int32} {q v : Int32} {j : Nat} (hr : RowQ r n f) (hn : n ≤ 2564) (hj : j < n) (hq : q = nI j) : RowQ (q_put r q v) n (upd f j v) ∧ (RowB r → isN v 0 255 → RowB (q_put r q v)) ∧ q_c (q_put r q v) = q_c r := by
  have e : q_put r q v = qs_f r (upd (q_f r) j v) := by
    unfold q_put
    rw [hq, if_pos (by rw [nI_toInt (by omega), hr.1]; omega), nI_clamp (by omega)]
  rw [e]
  refine ⟨⟨hr.1, fun i hi => ?_⟩, fun hB hv i hi => ?_, rfl⟩
  · show upd (q_f r) j v i = upd f j v i
    by_cases g : i = j
    · subst g; rw [pk_us, pk_us]
    · rw [pk_un g, pk_un g]; exact hr.2 i hi
  · show isN (upd (q_f r) j v i) 0 255
    by_cases g : i = j
    · subst g; rw [pk_us]; exact hv
    · rw [pk_un g]; exact hB i hi
theorem isI_isN {v : Int32} {lo hi : Nat} (hl : lo < 1073741824) (hh : hi < 1073741824) (h : ¬ isI v (nI lo) (nI hi) = 0) : isN v lo hi := by
  obtain ⟨j, h1, h2, e⟩ := isI_j hl hh h
  exact ⟨j, h1, h2, e⟩
theorem cl_setCode (h : Rel x u c) (q v : Int32) : CALL x (xs_en x (q_put (x_en x) q v)) (cdSet (x_en x) q v) (q_at (x_en x) q) (if isI q 0 (nI (r_cs u) - 1) = 0 then 0 else if isI v 0 255 = 0 then 0 else r_cd u q.toNatClampNeg) (if isI q 0 (nI (r_cs u) - 1) = 0 then (rs_th (rs_th u 0) 1) else if isI v 0 255 = 0 then (rs_th (rs_th u 0) 2) else (rs_cd (rs_th u 0) (upd (r_cd u) q.toNatClampNeg v))) c := by
  obtain ⟨hp, ⟨t, ht1, ht2⟩, h5, ⟨hr, hB, hn⟩, h7, h8⟩ := id h
  have e := has_isI (r := x_en x) (q := q) (by rw [hr.1]; omega)
  rw [hr.1] at e
  unfold cdSet
  by_cases g : isI q 0 (nI (r_cs u) - 1) = 0
  · rw [if_pos g, if_pos g, if_pos (by rw [e]; exact g)]; exact cl_1 h rfl
  · rw [if_neg g, if_neg g, if_neg (by rw [e]; exact g)]
    by_cases g3 : isI v 0 255 = 0
    · rw [if_pos g3, if_pos g3, if_pos g3]; exact cl_2 h rfl
    · rw [if_neg g3, if_neg g3, if_neg g3]
      obtain ⟨j, hj, hq⟩ := isI0 (by omega) g
      have hcl := clN hq hj (by omega)
      obtain ⟨w1, w2, w3⟩ := put_Q (v := v) hr (by omega) hj hq
      refine cl_0 rfl rfl ?_ ?_
      · rw [hcl, hq, at_in (by rw [hr.1]; exact hj) (by rw [hr.1]; omega)]
        exact hr.2 j hj
      · rw [hcl]
        unfold Rel PR
        rw [x_pr_en, x_tx_en, x_en_en, x_de_en, r_ob_cd, r_er_cd, r_sz_cd, r_tx_cd, r_cs_cd, r_cd_cd, r_mk_cd, r_ou_cd, r_ob_th, r_er_th, r_sz_th, r_tx_th, r_cs_th, r_mk_th, r_ou_th]
        exact ⟨⟨PV_pv ((pv_cd _ _).trans (pv_th u 0)) hp.1, hp.2.1, hp.2.2⟩, ⟨t, by omega, ht2⟩, h5, ⟨w1, w2 hB (isI_isN (lo := 0) (hi := 255) (by omega) (by omega) g3), hn⟩, h7, h8⟩
theorem cut_Q {r : Row} {n m : Nat} {f : Nat → Int32} (hr : RowQ r n f) (hm : m ≤ n) : RowQ (qs_c r m) m f := ⟨rfl, fun i hi => hr.2 i (by omega)⟩
theorem cut_B {r : Row} {m : Nat} (hB : RowB r) (hm : m ≤ q_c r) : RowB (qs_c r m) := fun i hi => hB i (by have hi : i < m := hi; omega)
theorem cl_cut (h : Rel x u c) (q : Int32) : CALL x (xs_tx x (qs_c (x_tx x) (q_c (x_tx x) - q.toNatClampNeg))) (cdCut (x_tx x) q) (nI (q_c (x_tx x) - q.toNatClampNeg)) (if isI q 0 (nI (r_sz u)) = 0 then 0 else nI (r_sz u - q.toNatClampNeg)) (if isI q 0 (nI (r_sz u)) = 0 then (rs_th (rs_th u 0) 1) else (rs_sz (rs_th u 0) (r_sz u - q.toNatClampNeg))) c := by
  obtain ⟨hp, ⟨t, ht1, ht2⟩, ⟨hr, hB, hn⟩, h6, h7, h8⟩ := id h
  unfold cdCut
  rw [hr.1]
  by_cases g : isI q 0 (nI (r_sz u)) = 0
  · rw [if_pos g, if_pos g, if_pos g]; exact cl_1 h rfl
  · rw [if_neg g, if_neg g, if_neg g]
    refine cl_0 rfl rfl rfl ?_
    unfold Rel PR
    rw [x_pr_tx, x_tx_tx, x_en_tx, x_de_tx, r_ob_sz, r_er_sz, r_sz_sz, r_tx_sz, r_cs_sz, r_cd_sz, r_mk_sz, r_ou_sz, r_ob_th, r_er_th, r_tx_th, r_cs_th, r_cd_th, r_mk_th, r_ou_th]
    exact ⟨⟨PV_pv ((pv_sz _ _).trans (pv_th u 0)) hp.1, hp.2.1, hp.2.2⟩, ⟨t, by omega, ht2⟩, ⟨cut_Q hr (by omega), cut_B hB (by rw [hr.1]; omega), by omega⟩, h6, h7, h8⟩
theorem cl_cutCode (h : Rel x u c) (q : Int32) : CALL x (xs_en x (qs_c (x_en x) (q_c (x_en x) - q.toNatClampNeg))) (cdCut (x_en x) q) (nI (q_c (x_en x) - q.toNatClampNeg)) (if isI q 0 (nI (r_cs u)) = 0 then 0 else nI (r_cs u - q.toNatClampNeg)) (if isI q 0 (nI (r_cs u)) = 0 then (rs_th (rs_th u 0) 1) else (rs_cs (rs_th u 0) (r_cs u - q.toNatClampNeg))) c := by
  obtain ⟨hp, ⟨t, ht1, ht2⟩, h5, ⟨hr, hB, hn⟩, h7, h8⟩ := id h
  unfold cdCut
  rw [hr.1]
  by_cases g : isI q 0 (nI (r_cs u)) = 0
  · rw [if_pos g, if_pos g, if_pos g]; exact cl_1 h rfl
  · rw [if_neg g, if_neg g, if_neg g]
    refine cl_0 rfl rfl rfl ?_
    unfold Rel PR
    rw [x_pr_en, x_tx_en, x_en_en, x_de_en, r_ob_cs, r_er_cs, r_sz_cs, r_tx_cs, r_cs_cs, r_cd_cs, r_mk_cs, r_ou_cs, r_ob_th, r_er_th, r_sz_th, r_tx_th, r_cd_th, r_mk_th, r_ou_th]
    exact ⟨⟨PV_pv ((pv_cs _ _).trans (pv_th u 0)) hp.1, hp.2.1, hp.2.2⟩, ⟨t, by omega, ht2⟩, h5, ⟨cut_Q hr (by omega), cut_B hB (by rw [hr.1]; omega), by omega⟩, h7, h8⟩
end CALLS
