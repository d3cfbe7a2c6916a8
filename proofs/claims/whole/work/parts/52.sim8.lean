/-! ===== both decode alike ===== -/
def DI (y : Mx) (d : DT) (a b : Nat) : Prop := IE y d.1 a b ∧ v_x (x_iv y) = d.2.1 ∧ v_nx (x_iv y) = nI d.2.2
theorem boc_R {r : Row} {v : RS} (h : RowQ r (r_cs v) (r_cd v)) (hc : r_cs v ≤ 2564) {p : Nat} (hp : p < 2147483648) : q_at r (nI p) = r_boc v p := by
  unfold r_boc
  by_cases g : p < r_cs v
  · rw [if_pos g, at_in (by rw [h.1]; exact g) (by rw [h.1]; omega)]
    exact h.2 p g
  · rw [if_neg g, at_out (by rw [h.1]; exact g) hp]
theorem r_shf_cd (u : RS) : r_cd (r_shf u) = r_cd u := by unfold r_shf; rw [r_cd_hg, r_cd_lw]
theorem rk_shf (v : RS) : rk (r_shf v) = rk v := by unfold r_shf; rw [rk_hg, rk_lw]
theorem x_dst_iv (y : Mx) : x_iv (x_dst y) = v_pul (v_shf (x_iv y)) (x_en y) := by unfold x_dst x_sh; rw [x_iv_iv, x_iv_iv, x_en_iv]
theorem v_pul_lo (v : Iv) (r : Row) : v_lo (v_pul v r) = v_lo v := by unfold v_pul; rw [v_lo_nx, v_lo_x]
theorem v_pul_hi (v : Iv) (r : Row) : v_hi (v_pul v r) = v_hi v := by unfold v_pul; rw [v_hi_nx, v_hi_x]
theorem v_pul_x (v : Iv) (r : Row) : v_x (v_pul v r) = sh8 (v_x v) + (q_at r (v_nx v)).toInt64 := by unfold v_pul; rw [v_x_nx, v_x_x]
theorem v_pul_nx (v : Iv) (r : Row) : v_nx (v_pul v r) = v_nx v + 1 := by unfold v_pul; rw [v_nx_nx]
theorem v_shf_x (v : Iv) : v_x (v_shf v) = v_x v := by unfold v_shf; rw [v_x_hi, v_x_lo]
theorem v_shf_nx (v : Iv) : v_nx (v_shf v) = v_nx v := by unfold v_shf; rw [v_nx_hi, v_nx_lo]
theorem DI_ds {y : Mx} {d : DT} {a b : Nat} (h : DI y d a b) (ha : a < 4294967296) (hb : b < 4294967296) (hc : r_cs d.1 ≤ 2564) (hp : d.2.2 < 2147483648) : DI (x_dst y) (r_ds d) (256 * (a % 16777216)) (256 * (b % 16777216) + 255) := by
  obtain ⟨⟨⟨h1, h2⟩, ⟨h3, h4⟩, h5, h6⟩, h7, h8⟩ := h
  have e1 : (r_ds d).1 = r_shf d.1 := rfl
  refine ⟨⟨⟨?_, ?_⟩, ⟨?_, ?_⟩, ?_, ?_⟩, ?_, ?_⟩
  · rw [x_dst_iv, v_pul_lo, v_shf_lo, h1, sh8_N ha]
  · rw [x_dst_iv, v_pul_hi, v_shf_hi, h2, sh8a_N hb]
  · rw [e1, r_shf_lw, h3, sh8_N ha]
  · rw [e1, r_shf_hg, h4, sh8o_N hb]
  · rw [e1, x_dst_en, r_shf_cs, r_shf_cd]; exact h5
  · rw [x_dst_en]; exact h6
  · have h5' : RowQ (x_en y) (r_cs (r_shf d.1)) (r_cd (r_shf d.1)) := by rw [r_shf_cs, r_shf_cd]; exact h5
    rw [x_dst_iv, v_pul_x, v_shf_x, v_shf_nx, h7, h8, boc_R h5' (by rw [r_shf_cs]; exact hc) hp]
    rfl
  · rw [x_dst_iv, v_pul_nx, v_shf_nx, h8, nI_1]
    rfl
theorem DI_dw : ∀ (n : Nat) (y : Mx) (d : DT) (a b : Nat), DI y d a b → a ≤ b → b < 4294967296 → r_cs d.1 ≤ 2564 → d.2.2 + n < 2147483648 → ∃ a' b' : Nat, DI (x_dwh n y) (r_dw n d) a' b' ∧ a' ≤ b' ∧ b' < 4294967296 ∧ rk (r_dw n d).1 = rk d.1 ∧ r_cs (r_dw n d).1 = r_cs d.1 ∧ r_cd (r_dw n d).1 = r_cd d.1 ∧ (r_dw n d).2.2 ≤ d.2.2 + n
  | 0, y, d, a, b, h, h1, h2, _, _ => ⟨a, b, h, h1, h2, rfl, rfl, rfl, Nat.le_refl _⟩
  | n + 1, y, d, a, b, h, h1, h2, h3, h4 => by
    obtain ⟨s1, s2⟩ := set_sam h.1 (by omega) h2
    show ∃ a' b' : Nat, DI (if v_set (x_iv y) = 0 then y else x_dwh n (x_dst y)) (if r_sam d.1 = 0 then d else r_dw n (r_ds d)) a' b' ∧ a' ≤ b' ∧ b' < 4294967296 ∧ rk (if r_sam d.1 = 0 then d else r_dw n (r_ds d)).1 = rk d.1 ∧ r_cs (if r_sam d.1 = 0 then d else r_dw n (r_ds d)).1 = r_cs d.1 ∧ r_cd (if r_sam d.1 = 0 then d else r_dw n (r_ds d)).1 = r_cd d.1 ∧ (if r_sam d.1 = 0 then d else r_dw n (r_ds d)).2.2 ≤ d.2.2 + (n + 1)
    by_cases g : a / 16777216 = b / 16777216
    · rw [if_neg (fun h9 => absurd g (s1.mp h9)), if_neg (fun h9 => absurd g (s2.mp h9))]
      have hp := DI_ds h (by omega) h2 h3 (by omega)
      have e1 : (r_ds d).1 = r_shf d.1 := rfl
      have e2 : (r_ds d).2.2 = d.2.2 + 1 := rfl
      obtain ⟨a', b', g1, g2, g3, g4, g5, g6, g7⟩ := DI_dw n (x_dst y) (r_ds d) _ _ hp (by omega) (by omega) (by rw [e1, r_shf_cs]; exact h3) (by rw [e2]; omega)
      rw [e2] at g7
      rw [e1] at g4 g5 g6
      exact ⟨a', b', g1, g2, g3, g4.trans (rk_shf _), g5.trans (r_shf_cs _), g6.trans (r_shf_cd _), by omega⟩
    · rw [if_pos (s1.mpr g), if_pos (s2.mpr g)]
      exact ⟨a, b, h, h1, h2, rfl, rfl, rfl, by omega⟩
theorem shn_s (v : RS) : ∀ n, r_shn n (r_shf v) = r_shn (n + 1) v
  | 0 => rfl
  | n + 1 => congrArg r_shf (shn_s v n)
theorem dw_end : ∀ (n : Nat) (d : DT), r_sam (r_dw n d).1 = 0 ∨ (r_dw n d).1 = r_shn n d.1
  | 0, d => Or.inr rfl
  | n + 1, d => by
    show r_sam (if r_sam d.1 = 0 then d else r_dw n (r_ds d)).1 = 0 ∨ (if r_sam d.1 = 0 then d else r_dw n (r_ds d)).1 = r_shn (n + 1) d.1
    by_cases g : r_sam d.1 = 0
    · rw [if_pos g]
      exact Or.inl g
    · rw [if_neg g, ← shn_s]
      exact dw_end n (r_ds d)
theorem dw_sam (d : DT) : r_sam (r_dw 4 d).1 = 0 := by
  rcases dw_end 4 d with h | h
  · exact h
  · rw [h]; exact H4sh d.1
def DR (y : Mx) (d : DT) (t : Nat) : Prop := PR (x_pr y) d.1 ∧ k_bt (x_pr y) = nI t ∧ d.2.2 ≤ 4 + 4 * t ∧ r_cs d.1 ≤ 2564 ∧ ∃ a b : Nat, DI y d a b ∧ a < b ∧ b < 4294967296
/-- what decoding leaves alone -/
abbrev RdT9 : Type := Int32 × Nat × (Nat → Int32) × Nat × (Nat → Int32) × Nat × (Nat → Int32)
def rd (v : RS) : RdT9 := (r_th v, r_sz v, r_tx v, r_cs v, r_cd v, r_mk v, r_ou v)
theorem rd_of {u v : RS} (h : rj u = rj v) (h1 : r_cs u = r_cs v) (h2 : r_cd u = r_cd v) : rd u = rd v := by
  have g1 : r_th u = r_th v := congrArg (fun q : RjT9 => q.1) h
  have g2 : r_sz u = r_sz v := congrArg (fun q : RjT9 => q.2.1) h
  have g3 : r_tx u = r_tx v := congrArg (fun q : RjT9 => q.2.2.1) h
  have g4 : r_mk u = r_mk v := congrArg (fun q : RjT9 => q.2.2.2.1) h
  have g5 : r_ou u = r_ou v := congrArg (fun q : RjT9 => q.2.2.2.2) h
  unfold rd
  rw [g1, g2, g3, g4, g5, h1, h2]
theorem zd_R {y : Mx} {d : DT} {a b : Nat} (h : DI y d a b) (hp : PV (x_pr y) d.1) (hab : a < b) (hb : b < 4294967296) : x_zd y = zd d.2.1 d.1 := by
  obtain ⟨⟨⟨h1, h2⟩, ⟨h3, h4⟩, -⟩, h7, -⟩ := h
  have e1 := (mxR hp).1
  have m2 : r_mid d.1 = v_mid (x_iv y) (k_mx (x_pr y)) := by
    unfold r_mid v_mid
    rw [h3, h4, h1, h2, e1]
  unfold x_zd zd zdx
  rw [m2, h7]
theorem DR_db {y : Mx} {d : DT} {t : Nat} (h : DR y d t) (ht : t < 640) : DR (x_db y) (r_db d) (t + 1) ∧ rd (r_db d).1 = rd d.1 ∧ x_zd y = zd d.2.1 d.1 := by
  obtain ⟨hp, hbt, hn, hc, a, b, hI, hab, hb⟩ := h
  have hz := zd_R hI hp.1 hab hb
  obtain ⟨a1, b1, i1, i2, i3, i4⟩ := IE_prt (x_zd y) hI.1 hp.1 hab hb
  have ei : ∀ z, v_x (x_iv (x_prt z y)) = v_x (x_iv y) ∧ v_nx (x_iv (x_prt z y)) = v_nx (x_iv y) := fun z => by
    unfold x_prt v_nar
    rw [x_iv_iv]
    split
    · exact ⟨rfl, rfl⟩
    · exact ⟨rfl, rfl⟩
  have hpc : ∀ z v, r_cs (r_prt z v) = r_cs v ∧ r_cd (r_prt z v) = r_cd v := fun z v => by
    unfold r_prt
    split
    · exact ⟨rfl, rfl⟩
    · exact ⟨rfl, rfl⟩
  have hD1 : DI (x_prt (x_zd y) y) (r_prt (x_zd y) d.1, d.2) a1 b1 := ⟨i1, (ei _).1.trans hI.2.1, (ei _).2.trans hI.2.2⟩
  obtain ⟨a2, b2, j1, j2, j3, j4, j5, j6, j7⟩ := DI_dw 4 (x_prt (x_zd y) y) (r_prt (x_zd y) d.1, d.2) a1 b1 hD1 i2 i3 (by rw [(hpc _ _).1]; exact hc) (by show d.2.2 + 4 < _; omega)
  have j7 : (r_dw 4 (r_prt (x_zd y) d.1, d.2)).2.2 ≤ d.2.2 + 4 := j7
  have hsam := dw_sam (r_prt (x_zd y) d.1, d.2)
  have er : r_db d = (r_lrn (x_zd y) (r_dw 4 (r_prt (x_zd y) d.1, d.2)).1, (r_dw 4 (r_prt (x_zd y) d.1, d.2)).2) := by unfold r_db; rw [← hz]
  have ex : x_db y = xs_pr (x_dwh 4 (x_prt (x_zd y) y)) (k_ln (x_zd y) (k_mx (x_pr y)) (x_pr y)) := by unfold x_db; rw [x_dwh_pr, x_prt_pr]
  rw [er, ex]
  generalize x_zd y = z at *
  generalize r_dw 4 (r_prt z d.1, d.2) = w at *
  generalize x_dwh 4 (x_prt z y) = y2 at *
  have hq := lrn_qv z w.1
  have hne : ¬ a2 / 16777216 = b2 / 16777216 := (set_sam j1.1 (by omega) j3).2.mp hsam
  refine ⟨⟨?_, ?_, ?_, ?_, a2, b2, ⟨?_, ?_, ?_⟩, ?_, j3⟩, ?_, hz⟩
  · rw [x_pr_pr]
    exact PR_ln z (PR_rk (j4.trans i4) hp)
  · rw [x_pr_pr, k_ln_bt, hbt, nI_1]
  · show w.2.2 ≤ _
    omega
  · show r_cs (r_lrn z w.1) ≤ _
    rw [qv_cs hq, j5]
    rw [(hpc _ _).1]
    exact hc
  · exact IE_qv j1.1 (by rw [x_iv_pr]) (by rw [x_en_pr]) hq
  · rw [x_iv_pr]; exact j1.2.1
  · rw [x_iv_pr]; exact j1.2.2
  · rcases Nat.lt_or_ge a2 b2 with h9 | h9
    · exact h9
    · exact absurd (by rw [show a2 = b2 by omega]) hne
  · show rd (r_lrn z w.1) = rd d.1
    refine rd_of ((rj_qv hq).trans ((rj_rk j4).trans (rj_rk i4))) ?_ ?_
    · rw [qv_cs hq, j5]; exact (hpc _ _).1
    · rw [qv_cd hq, j6]; exact (hpc _ _).2
