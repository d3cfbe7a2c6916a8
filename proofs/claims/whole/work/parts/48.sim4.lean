/-! ===== what learning leaves alone; invariants for the coders ===== -/
/-- what is not the predictor's -/
abbrev QT : Type := Int32 × Nat × (Nat → Int32) × (Nat → Int32) × (Nat → Int32) × Nat × (Nat → Int32) × Nat × (Nat → Int32) × Nat × (Nat → Int32) × Int64 × Int64
def qv (v : RS) : QT := (r_th v, r_n v, r_od v, r_ra v, r_lo v, r_sz v, r_tx v, r_cs v, r_cd v, r_mk v, r_ou v, r_lw v, r_hg v)
def Lx (v v' : RS) : Prop := qv v' = qv v
theorem Lx.rf (v : RS) : Lx v v := rfl
theorem Lx.tr {v v' v'' : RS} (h1 : Lx v v') (h2 : Lx v' v'') : Lx v v'' := Eq.trans h2 h1
theorem Lx.we (v : RS) (w : Nat → Int32) : Lx v (rs_we v w) := rfl
theorem Lx.cl (v : RS) (w : Nat → Int32) : Lx v (rs_cl v w) := rfl
theorem Lx.co (v : RS) (w : Nat → Int32) : Lx v (rs_co v w) := rfl
theorem Lx.lc (v : RS) (w : Nat → Int32) : Lx v (rs_lc v w) := rfl
theorem Lx.ln (v : RS) (w : Nat → Int32) : Lx v (rs_ln v w) := rfl
theorem Lx.hi (v : RS) (w : Nat → Int32) : Lx v (rs_hi v w) := rfl
theorem Lx.nd (v : RS) (w : Nat) : Lx v (rs_nd v w) := rfl
theorem Lx.ob (v : RS) (w : Int32) : Lx v (rs_ob v w) := rfl
theorem Lx.er (v : RS) (w : Int64) : Lx v (rs_er v w) := rfl
theorem aw_Lx (z q : Int32) (m : Nat) (v : RS) : Lx v (r_aw1 z q m v) := by
  unfold r_aw1
  split
  · split
    · exact Lx.rf v
    · exact Lx.we _ _
  · exact Lx.we _ _
theorem awl_Lx (z q : Int32) (v : RS) : ∀ m, Lx v (r_awl z q m v)
  | 0 => Lx.rf v
  | m + 1 => (awl_Lx z q v m).tr (aw_Lx z q m _)
theorem acB_Lx (z : Int32) (m : Nat) (v : RS) : Lx v (r_acB z m v) := ((Lx.co v _).tr (Lx.lc _ _)).tr (Lx.ln _ _)
theorem ac_Lx (z : Int32) (m : Nat) (v : RS) : Lx v (r_ac1 z m v) := by
  have h := acB_Lx z m v
  unfold r_ac1
  split
  · exact h
  · split
    · split
      · exact h
      · exact h.tr (Lx.cl _ _)
    · exact h.tr (Lx.cl _ _)
theorem acl_Lx (z : Int32) (v : RS) : ∀ m, Lx v (r_acl z m v)
  | 0 => Lx.rf v
  | m + 1 => (acl_Lx z v m).tr (ac_Lx z m _)
theorem fin_Lx (z : Int32) (v : RS) : Lx v (r_fin z v) := by
  unfold r_fin
  split
  · exact (Lx.nd _ _).tr (Lx.ob _ _)
  · exact ((((Lx.nd _ _).tr (Lx.hi _ _)).tr (Lx.hi _ _)).tr (Lx.hi _ _)).tr ((Lx.nd _ _).tr (Lx.ob _ _))
theorem lrn_Lx (z : Int32) (v : RS) : Lx v (r_lrn z v) := by
  unfold r_lrn
  refine Lx.tr (Lx.tr (Lx.tr ?_ (awl_Lx z _ _ _)) (acl_Lx z _ _)) (fin_Lx z _)
  unfold r_l1
  exact Lx.er _ _
theorem lrn_qv (z : Int32) (v : RS) : qv (r_lrn z v) = qv v := lrn_Lx z v
/-! how often, how wrong -/
theorem aw_oe (z q : Int32) (m : Nat) (v : RS) : r_ob (r_aw1 z q m v) = r_ob v ∧ r_er (r_aw1 z q m v) = r_er v := by
  unfold r_aw1
  split
  · split
    · exact ⟨rfl, rfl⟩
    · exact ⟨rfl, rfl⟩
  · exact ⟨rfl, rfl⟩
theorem awl_oe (z q : Int32) (v : RS) : ∀ m, r_ob (r_awl z q m v) = r_ob v ∧ r_er (r_awl z q m v) = r_er v
  | 0 => ⟨rfl, rfl⟩
  | m + 1 => ⟨(aw_oe z q m _).1.trans (awl_oe z q v m).1, (aw_oe z q m _).2.trans (awl_oe z q v m).2⟩
theorem ac_oe (z : Int32) (m : Nat) (v : RS) : r_ob (r_ac1 z m v) = r_ob v ∧ r_er (r_ac1 z m v) = r_er v := by
  unfold r_ac1
  split
  · exact ⟨rfl, rfl⟩
  · split
    · split
      · exact ⟨rfl, rfl⟩
      · exact ⟨rfl, rfl⟩
    · exact ⟨rfl, rfl⟩
theorem acl_oe (z : Int32) (v : RS) : ∀ m, r_ob (r_acl z m v) = r_ob v ∧ r_er (r_acl z m v) = r_er v
  | 0 => ⟨rfl, rfl⟩
  | m + 1 => ⟨(ac_oe z m _).1.trans (acl_oe z v m).1, (ac_oe z m _).2.trans (acl_oe z v m).2⟩
theorem fin_oe (z : Int32) (v : RS) : r_ob (r_fin z v) = r_ob v + 1 ∧ r_er (r_fin z v) = r_er v := by
  unfold r_fin
  split
  · rw [r_ob_ob, r_er_ob, r_er_nd]
    exact ⟨rfl, rfl⟩
  · rw [r_ob_ob, r_er_ob, r_er_nd, r_er_hi, r_er_hi, r_er_hi, r_er_nd]
    exact ⟨rfl, rfl⟩
theorem l1_ob (z : Int32) (v : RS) : r_ob (r_l1 z v) = r_ob v := by unfold r_l1; rw [r_ob_er]
theorem l1_er (z : Int32) (v : RS) : r_er (r_l1 z v) = r_er v + (4096 - qual (r_mx v) z).toInt64 := by unfold r_l1; rw [r_er_er]
theorem lrn_ob (z : Int32) (v : RS) : r_ob (r_lrn z v) = r_ob v + 1 := by
  unfold r_lrn
  rw [(fin_oe z _).1, (acl_oe z _ _).1, (awl_oe z _ _ _).1, l1_ob]
theorem lrn_er (z : Int32) (v : RS) : r_er (r_lrn z v) = r_er v + (4096 - qual (r_mx v) z).toInt64 := by
  unfold r_lrn
  rw [(fin_oe z _).2, (acl_oe z _ _).2, (awl_oe z _ _ _).2, l1_er]
theorem k_ln_bt (z mx : Int32) (k : Pr) : k_bt (k_ln z mx k) = k_bt k + 1 := by
  by_cases hc : 2 * k_nd k + bz z < 256
  · exact (k_ln_1 z mx hc).2.2.2.2.1
  · exact (k_ln_2 z mx hc).2.2.2.2.1
theorem k_ln_er (z mx : Int32) (k : Pr) : k_er (k_ln z mx k) = k_er k + (4096 - qual mx z).toInt64 := by
  by_cases hc : 2 * k_nd k + bz z < 256
  · exact (k_ln_1 z mx hc).2.2.2.2.2.1
  · exact (k_ln_2 z mx hc).2.2.2.2.2.1
/-- the predictors, with how often and how wrong -/
def PR (k : Pr) (u : RS) : Prop := PV k u ∧ k_bt k = r_ob u ∧ k_er k = r_er u
theorem PR_ln (z : Int32) {k : Pr} {u : RS} (h : PR k u) : PR (k_ln z (k_mx k) k) (r_lrn z u) :=
  ⟨ln_PV z h.1, by rw [k_ln_bt, lrn_ob, h.2.1], by rw [k_ln_er, lrn_er, h.2.2, (mxR h.1).1]⟩
theorem PR_rs {k : Pr} {u : RS} (h : SH k u) : PR (k_rs k) (r_clr u) := ⟨rs_PV h, by rw [k_rs_bt, r_clr_ob], by rw [k_rs_er, r_clr_er]⟩
/-! the invariants -/
def Iv9 (v : RS) : Prop := ∃ k, PV k v
def Jv9 (k : Pr) : Prop := ∃ v, PV k v
theorem PV_RSf {k : Pr} {u : RS} (h : PV k u) : RSf u := by
  refine ⟨by rw [← h.1.1]; exact h.1.2, by rw [← h.2.1.1]; exact h.2.1.2.2, by rw [← h.2.1.1]; exact h.2.1.2.1, fun j hj => ?_⟩
  rw [← h.1.1] at hj
  obtain ⟨p, hp, -, e2, -, -, -, -, i, h1, h2, h3, -, -⟩ := plR h hj
  obtain ⟨⟨⟨so, -, -⟩, ⟨a, -, ha, ea⟩, -⟩, -⟩ := h.2.2.2.2 j hj
  obtain ⟨g1, g2⟩ := pow_le h1 h2
  refine ⟨?_, ?_, ?_⟩
  · rw [← so, ea]
    exact nI_le (b := 3) ha (by omega)
  · rw [h3]
    exact nI_ne0 (by omega) (by omega)
  · rw [e2]
    exact vin (by rw [nI_toInt (by omega)]; omega) (by rw [nI_toInt (by omega)]; omega)
theorem PV_RT {k : Pr} {u : RS} (h : PV k u) : RT u := by
  intro h0
  obtain ⟨T, P, h1, h2, h3, h4, h5, h6, h7, h8⟩ := sums_N (w := k_w k) (w' := r_w u) (g := k_g k) (g' := r_g u) (k_n k) h.1.2 (fun j hj => ⟨wR h hj, gR h hj⟩)
  rw [← h.1.1] at h0 ⊢
  rw [h2]
  intro h9
  have := (lN_eq (b := 0) (by have := h.1.2; omega) (by omega)).mp h9
  omega
theorem PV_LGB {k : Pr} {u : RS} (h : PV k u) : LGB u := by
  intro j hj
  rw [← h.1.1] at hj
  obtain ⟨p, hp, -, e2, -, -, -, -, i, h1, h2, h3, -, -⟩ := plR h hj
  obtain ⟨g1, g2⟩ := pow_le h1 h2
  rw [h3, nI_toInt (by omega)]
  omega
theorem PV_pl {k : Pr} {u : RS} (h : PV k u) : ∀ j, j < k_n k → vp_in (o_pl (k_mo k j)) 512 := fun j hj => by
  obtain ⟨p, hp, e1, -⟩ := plR h hj
  rw [e1]
  exact vin (by rw [nI_toInt (by omega)]; omega) (by rw [nI_toInt (by omega)]; omega)
theorem PV_ts {k : Pr} {u : RS} (h : PV k u) : ∀ j, j < k_n k → 0 < (o_ts (k_mo k j)).toInt ∧ (o_ts (k_mo k j)).toInt ≤ 512 := fun j hj => by
  obtain ⟨p, hp, -, -, -, -, -, -, i, h1, h2, -, h4, -⟩ := plR h hj
  obtain ⟨g1, g2⟩ := pow_le h1 h2
  rw [h4, nI_toInt (by omega)]
  omega
theorem PV_ph {k : Pr} {u : RS} (h : PV k u) : vp_in (k_ph k) 8 := by
  have := phN_lt (k_nd k)
  rw [h.2.2.1]
  exact vin (by rw [nI_toInt (by omega)]; omega) (by rw [nI_toInt (by omega)]; omega)
theorem Iv9_inv : InvP Iv9 := ⟨fun _ h => ⟨PV_RSf h.choose_spec, PV_RT h.choose_spec⟩, fun _ _ hp h => ⟨_, PV_pv hp h.choose_spec⟩, fun _ z h => ⟨_, ln_PV z h.choose_spec⟩⟩
theorem Jv9_inv : JInv Jv9 := ⟨fun _ h => ⟨h.choose_spec.1.2, h.choose_spec.2.1.2.2, PV_ph h.choose_spec, PV_pl h.choose_spec⟩, fun _ z h => ⟨_, ln_PV z h.choose_spec⟩⟩
