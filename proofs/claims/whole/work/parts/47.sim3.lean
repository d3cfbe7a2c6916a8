/-! ===== both learn alike: all models, then the node ===== -/
def o_wl (b : Prop) [Decidable b] (ph z q : Int32) (o : Mo) : Mo := if b then o_aw ph z q o else o
theorem o_aw_od (ph z q : Int32) (o : Mo) : o_od (o_aw ph z q o) = o_od o := by unfold o_aw; split <;> (try split) <;> rfl
theorem o_aw_rt (ph z q : Int32) (o : Mo) : o_rt (o_aw ph z q o) = o_rt o := by unfold o_aw; split <;> (try split) <;> rfl
theorem o_aw_t (ph z q : Int32) (o : Mo) : o_t (o_aw ph z q o) = o_t o := by unfold o_aw; split <;> (try split) <;> rfl
theorem o_aw_cx (ph z q : Int32) (o : Mo) : o_cx (o_aw ph z q o) = o_cx o := by unfold o_aw; split <;> (try split) <;> rfl
theorem o_aw_si (ph z q : Int32) (o : Mo) : o_si (o_aw ph z q o) = o_si o := by unfold o_aw; split <;> (try split) <;> rfl
theorem o_ac_od (z : Int32) (o : Mo) : o_od (o_ac z o) = o_od o := by unfold o_ac; split <;> (try split) <;> rfl
theorem o_ac_rt (z : Int32) (o : Mo) : o_rt (o_ac z o) = o_rt o := by unfold o_ac; split <;> (try split) <;> rfl
theorem o_ac_t (z : Int32) (o : Mo) : o_t (o_ac z o) = o_t o := by unfold o_ac; split <;> (try split) <;> rfl
theorem o_ac_cx (z : Int32) (o : Mo) : o_cx (o_ac z o) = o_cx o := by unfold o_ac; split <;> (try split) <;> rfl
theorem o_l_od (ph z q : Int32) (o : Mo) : o_od (o_l ph z q o) = o_od o := (o_ac_od _ _).trans (o_aw_od _ _ _ _)
theorem o_l_rt (ph z q : Int32) (o : Mo) : o_rt (o_l ph z q o) = o_rt o := (o_ac_rt _ _).trans (o_aw_rt _ _ _ _)
theorem o_l_t (ph z q : Int32) (o : Mo) : o_t (o_l ph z q o) = o_t o := (o_ac_t _ _).trans (o_aw_t _ _ _ _)
theorem o_l_cx (ph z q : Int32) (o : Mo) : o_cx (o_l ph z q o) = o_cx o := (o_ac_cx _ _).trans (o_aw_cx _ _ _ _)
theorem awl_R (z q : Int32) {k : Pr} {u : RS} (h : PV k u) : ∀ m : Nat, m ≤ k_n k → sh (r_awl z q m u) = sh u ∧ r_ra (r_awl z q m u) = r_ra u ∧ ∀ j, j < k_n k → TbR (if j < m then o_aw (k_ph k) z q (k_mo k j) else k_mo k j) (r_awl z q m u) j
  | 0, _ => ⟨rfl, rfl, fun j hj => by rw [if_neg (Nat.not_lt_zero j)]; exact (h.2.2.2.2 j hj).2.1⟩
  | m + 1, hm => by
    obtain ⟨h1, h2, h3⟩ := awl_R z q h m (by omega)
    have hmn : m < k_n k := by omega
    show sh (r_aw1 z q m (r_awl z q m u)) = sh u ∧ r_ra (r_aw1 z q m (r_awl z q m u)) = r_ra u ∧ ∀ j, j < k_n k → TbR (if j < m + 1 then o_aw (k_ph k) z q (k_mo k j) else k_mo k j) (r_aw1 z q m (r_awl z q m u)) j
    generalize r_awl z q m u = v at h1 h2 h3
    obtain ⟨s1, s2⟩ := aw_sh z q v m
    refine ⟨s1.trans h1, s2.trans h2, fun j hj => ?_⟩
    have hT := h3 j hj
    by_cases hjm : j = m
    · subst hjm
      rw [if_neg (Nat.lt_irrefl j)] at hT
      rw [if_pos (Nat.lt_succ_self j)]
      obtain ⟨p, hp, -, -, -, -, e1, e2, -⟩ := plR h hj
      have e3 : (r_ix v j).toNatClampNeg = p := by rw [r_ix_eq h1]; exact e2
      refine aw_self z q ?_ (g_of hT hp e1 e3) hT
      rw [phR h, sh_nd h1, h.2.1.1]
    · by_cases hlt : j < m
      · rw [if_pos hlt] at hT
        rw [if_pos (by omega)]
        exact aw_oth z q hjm hT
      · rw [if_neg hlt] at hT
        rw [if_neg (by omega)]
        exact aw_oth z q hjm hT
theorem acl_R (z : Int32) {k : Pr} {u : RS} {N : Nat} {F : Nat → Mo} (hnd : 1 ≤ r_nd u ∧ r_nd u < 256) (hF : ∀ j, j < N → ∃ p : Nat, p < 512 ∧ (o_pl (F j)).toNatClampNeg = p ∧ (r_ix u j).toNatClampNeg = p ∧ o_rt (F j) = r_ra u j ∧ isN (o_rt (F j)) 2 7 ∧ r_ctx u j = o_cx (F j) ∧ isN (o_cx (F j)) 0 16974592 ∧ o_si (F j) = 256 * (o_cx (F j)).toInt64 + (nI (r_nd u)).toInt64) (hT0 : ∀ j, j < N → TbR (F j) u j) :
    ∀ m : Nat, m ≤ N → sh (r_acl z m u) = sh u ∧ r_ra (r_acl z m u) = r_ra u ∧ ∀ j, j < N → TbR (if j < m then o_ac z (F j) else F j) (r_acl z m u) j
  | 0, _ => ⟨rfl, rfl, fun j hj => by rw [if_neg (Nat.not_lt_zero j)]; exact hT0 j hj⟩
  | m + 1, hm => by
    obtain ⟨h1, h2, h3⟩ := acl_R (k := k) z hnd hF hT0 m (by omega)
    have hmn : m < N := by omega
    show sh (r_ac1 z m (r_acl z m u)) = sh u ∧ r_ra (r_ac1 z m (r_acl z m u)) = r_ra u ∧ ∀ j, j < N → TbR (if j < m + 1 then o_ac z (F j) else F j) (r_ac1 z m (r_acl z m u)) j
    generalize r_acl z m u = v at h1 h2 h3
    obtain ⟨s1, s2⟩ := ac_sh z v m
    refine ⟨s1.trans h1, s2.trans h2, fun j hj => ?_⟩
    have hT := h3 j hj
    obtain ⟨p, hp, e1, e2, e3, e4, e5, e6, e7⟩ := hF m hmn
    have f2 : (r_ix v m).toNatClampNeg = p := by rw [r_ix_eq h1]; exact e2
    by_cases hjm : j = m
    · subst hjm
      rw [if_neg (Nat.lt_irrefl j)] at hT
      rw [if_pos (Nat.lt_succ_self j)]
      have hn := sh_nd h1
      exact ac_self z hp e1 f2 (by rw [h2]; exact e3) e4 (by rw [r_ctx_eq h1]; exact e5) e6 (by rw [hn]; exact hnd) (by rw [hn]; exact e7) hT
    · by_cases hlt : j < m
      · rw [if_pos hlt] at hT
        rw [if_pos (by omega)]
        exact ac_oth z hp f2 hjm hT
      · rw [if_neg hlt] at hT
        rw [if_neg (by omega)]
        exact ac_oth z hp f2 hjm hT
/-- the models behind a bit -/
theorem mods_R (z q : Int32) {k : Pr} {u : RS} (h : PV k u) : ∃ w, r_acl z (k_n k) (r_awl z q (k_n k) u) = w ∧ sh w = sh u ∧ r_ra w = r_ra u ∧ ∀ j, j < k_n k → TbR (o_l (k_ph k) z q (k_mo k j)) w j := by
  obtain ⟨h1, h2, h3⟩ := awl_R z q h (k_n k) (Nat.le_refl _)
  generalize hv : r_awl z q (k_n k) u = v at h1 h2 h3
  have hn : r_nd v = k_nd k := (sh_nd h1).trans h.2.1.1.symm
  obtain ⟨g1, g2, g3⟩ := acl_R (k := k) (u := v) (N := k_n k) (F := fun j => o_aw (k_ph k) z q (k_mo k j)) z (by rw [hn]; exact ⟨h.2.1.2.1, h.2.1.2.2⟩) (fun j hj => by
      obtain ⟨p, hp, -, -, ec, ecN, e1, e2, -⟩ := plR h hj
      obtain ⟨⟨⟨-, sr, -⟩, -, hrN, -⟩, -, -, ha2, -⟩ := h.2.2.2.2 j hj
      refine ⟨p, hp, ?_, ?_, ?_, ?_, ?_, ?_, ?_⟩
      · rw [o_aw_pl]; exact e1
      · rw [r_ix_eq h1]; exact e2
      · rw [o_aw_rt, h2]; exact sr
      · rw [o_aw_rt]; exact hrN
      · rw [o_aw_cx, r_ctx_eq h1]; exact ec
      · rw [o_aw_cx]; exact ecN
      · rw [o_aw_si, o_aw_cx, hn]; exact ha2) (fun j hj => by have := h3 j hj; rw [if_pos hj] at this; exact this) (k_n k) (Nat.le_refl _)
  refine ⟨_, rfl, g1.trans h1, g2.trans h2, fun j hj => ?_⟩
  have := g3 j hj
  rw [if_pos hj] at this
  exact this
theorem PV_pv {k : Pr} {u v : RS} (hp : pv u = pv v) (h : PV k v) : PV k u := by
  have e1 : r_n u = r_n v := congrArg (fun q : PvT => q.1) hp
  have e2 : r_od u = r_od v := congrArg (fun q : PvT => q.2.1) hp
  have e3 : r_ra u = r_ra v := congrArg (fun q : PvT => q.2.2.1) hp
  have e4 : r_lo u = r_lo v := congrArg (fun q : PvT => q.2.2.2.1) hp
  have e5 : r_co u = r_co v := congrArg (fun q : PvT => q.2.2.2.2.1) hp
  have e6 : r_lc u = r_lc v := congrArg (fun q : PvT => q.2.2.2.2.2.1) hp
  have e7 : r_ln u = r_ln v := congrArg (fun q : PvT => q.2.2.2.2.2.2.1) hp
  have e8 : r_we u = r_we v := congrArg (fun q : PvT => q.2.2.2.2.2.2.2.1) hp
  have e9 : r_cl u = r_cl v := congrArg (fun q : PvT => q.2.2.2.2.2.2.2.2.1) hp
  have e10 : r_hi u = r_hi v := congrArg (fun q : PvT => q.2.2.2.2.2.2.2.2.2.1) hp
  have e11 : r_nd u = r_nd v := congrArg (fun q : PvT => q.2.2.2.2.2.2.2.2.2.2) hp
  unfold PV ShR TbR at *
  rw [e1, e2, e3, e4, e5, e6, e7, e8, e9, e10, e11]
  exact h
theorem ph_1 {nd b : Nat} (h0 : 1 ≤ nd) (hb : b ≤ 1) (h : 2 * nd + b < 256) : (nI (phN nd) + 1) - (nI (phN nd) + 1) / 8 * 8 = nI (phN (2 * nd + b)) := by
  rw [nI_1, show nI (phN nd + 1) - nI (phN nd + 1) / 8 * 8 = nI ((phN nd + 1) % 8) from pk_rem (d := 8) (by have := phN_lt nd; omega) (by omega) (by omega)]
  congr 1
  unfold phN
  rcases (show nd < 2 ∨ (2 ≤ nd ∧ nd < 4) ∨ (4 ≤ nd ∧ nd < 8) ∨ (8 ≤ nd ∧ nd < 16) ∨ (16 ≤ nd ∧ nd < 32) ∨ (32 ≤ nd ∧ nd < 64) ∨ (64 ≤ nd ∧ nd < 128) by omega) with h9 | h9 | h9 | h9 | h9 | h9 | h9
  · rw [if_pos h9, if_neg (by omega), if_pos (by omega)]
  · rw [if_neg (by omega), if_pos (by omega), if_neg (by omega), if_neg (by omega), if_pos (by omega)]
  · rw [if_neg (by omega), if_neg (by omega), if_pos (by omega), if_neg (by omega), if_neg (by omega), if_neg (by omega), if_pos (by omega)]
  · rw [if_neg (by omega), if_neg (by omega), if_neg (by omega), if_pos (by omega), if_neg (by omega), if_neg (by omega), if_neg (by omega), if_neg (by omega), if_pos (by omega)]
  · rw [if_neg (by omega), if_neg (by omega), if_neg (by omega), if_neg (by omega), if_pos (by omega), if_neg (by omega), if_neg (by omega), if_neg (by omega), if_neg (by omega), if_neg (by omega), if_pos (by omega)]
  · rw [if_neg (by omega), if_neg (by omega), if_neg (by omega), if_neg (by omega), if_neg (by omega), if_pos (by omega), if_neg (by omega), if_neg (by omega), if_neg (by omega), if_neg (by omega), if_neg (by omega), if_neg (by omega), if_pos (by omega)]
  · rw [if_neg (by omega), if_neg (by omega), if_neg (by omega), if_neg (by omega), if_neg (by omega), if_neg (by omega), if_pos (by omega), if_neg (by omega), if_neg (by omega), if_neg (by omega), if_neg (by omega), if_neg (by omega), if_neg (by omega), if_neg (by omega)]
theorem ph_2 {nd b : Nat} (hb : b ≤ 1) (h1 : nd < 256) (h : ¬ 2 * nd + b < 256) : (nI (phN nd) + 1) - (nI (phN nd) + 1) / 8 * 8 = nI (phN 1) := by
  have e : phN nd = 7 := by
    unfold phN
    rw [if_neg (by omega), if_neg (by omega), if_neg (by omega), if_neg (by omega), if_neg (by omega), if_neg (by omega), if_neg (by omega)]
  rw [e]
  decide
theorem k_ln_1 (z mx : Int32) {k : Pr} (hc : 2 * k_nd k + bz z < 256) : k_n (k_ln z mx k) = k_n k ∧ k_nd (k_ln z mx k) = 2 * k_nd k + bz z ∧ k_ph (k_ln z mx k) = (k_ph k + 1) - (k_ph k + 1) / 8 * 8 ∧ k_la (k_ln z mx k) = k_la k ∧ k_bt (k_ln z mx k) = k_bt k + 1 ∧ k_er (k_ln z mx k) = k_er k + (4096 - qual mx z).toInt64 ∧ ∀ j, j < k_n k → k_mo (k_ln z mx k) j = o_aim (nI (2 * k_nd k + bz z)) (o_l (k_ph k) z (qual mx z) (k_mo k j)) := by
  unfold k_ln k_st
  rw [if_pos (show 2 * k_nd (k_l0 z (qual mx z) k) + bz z < 256 from hc)]
  refine ⟨rfl, rfl, rfl, rfl, rfl, rfl, fun j hj => ?_⟩
  show mapM (o_aim (nI (2 * k_nd k + bz z))) (k_n k) (mapM (o_l (k_ph k) z (qual mx z)) (k_n k) (k_mo k)) j = _
  rw [mapM_lt hj, mapM_lt hj]
theorem k_ln_2 (z mx : Int32) {k : Pr} (hc : ¬ 2 * k_nd k + bz z < 256) : k_n (k_ln z mx k) = k_n k ∧ k_nd (k_ln z mx k) = 1 ∧ k_ph (k_ln z mx k) = (k_ph k + 1) - (k_ph k + 1) / 8 * 8 ∧ k_la (k_ln z mx k) = la3 (k_la k) (nI (2 * k_nd k + bz z) - 256) ∧ k_bt (k_ln z mx k) = k_bt k + 1 ∧ k_er (k_ln z mx k) = k_er k + (4096 - qual mx z).toInt64 ∧ ∀ j, j < k_n k → k_mo (k_ln z mx k) j = o_aim (nI 1) (o_ctx (la3 (k_la k) (nI (2 * k_nd k + bz z) - 256)) (o_l (k_ph k) z (qual mx z) (k_mo k j))) := by
  unfold k_ln k_st
  rw [if_neg (show ¬ 2 * k_nd (k_l0 z (qual mx z) k) + bz z < 256 from hc)]
  refine ⟨rfl, rfl, rfl, rfl, rfl, rfl, fun j hj => ?_⟩
  show mapM (o_aim (nI 1)) (k_n k) (mapM (o_ctx (la3 (k_la k) (nI (2 * k_nd k + bz z) - 256))) (k_n k) (mapM (o_l (k_ph k) z (qual mx z)) (k_n k) (k_mo k))) j = _
  rw [mapM_lt hj, mapM_lt hj, mapM_lt hj]
theorem la3_0 (f : Nat → Int32) (x : Int32) : la3 f x 0 = x := pk_us
theorem la3_1 (f : Nat → Int32) (x : Int32) : la3 f x 1 = f 0 := by unfold la3; rw [pk_un (show (1 : Nat) ≠ 0 by decide), pk_us, pk_un (show (0 : Nat) ≠ 2 by decide)]
theorem la3_2 (f : Nat → Int32) (x : Int32) : la3 f x 2 = f 1 := by unfold la3; rw [pk_un (show (2 : Nat) ≠ 0 by decide), pk_un (show (2 : Nat) ≠ 1 by decide), pk_us]
theorem la3_R {f g : Nat → Int32} {x : Int32} (h : LaR f g) (hx : isN x 0 255) : LaR (la3 f x) (la3 g x) := by
  intro i hi
  rcases (show i = 0 ∨ i = 1 ∨ i = 2 by omega) with rfl | rfl | rfl
  · rw [la3_0, la3_0]
    exact ⟨rfl, hx⟩
  · rw [la3_1, la3_1]
    exact h 0 (by omega)
  · rw [la3_2, la3_2]
    exact h 1 (by omega)
theorem aim_Tb {o : Mo} {u : RS} {j : Nat} (nd : Int32) (h : TbR o u j) : TbR (o_aim nd o) u j := ⟨h.1, h.2.1, h.2.2.1, h.2.2.2⟩
theorem ctx_Tb {o : Mo} {u : RS} {j : Nat} (f : Nat → Int32) (h : TbR o u j) : TbR (o_ctx f o) u j := ⟨h.1, h.2.1, h.2.2.1, h.2.2.2⟩
theorem nd_Tb {o : Mo} {u : RS} {j : Nat} (x : Nat) (h : TbR o u j) : TbR o (rs_nd u x) j := ⟨h.1, h.2.1, h.2.2.1, h.2.2.2⟩
theorem ob_Tb {o : Mo} {u : RS} {j : Nat} (x : Int32) (h : TbR o u j) : TbR o (rs_ob u x) j := ⟨h.1, h.2.1, h.2.2.1, h.2.2.2⟩
theorem hi_Tb {o : Mo} {u : RS} {j : Nat} (x : Nat → Int32) (h : TbR o u j) : TbR o (rs_hi u x) j := ⟨h.1, h.2.1, h.2.2.1, h.2.2.2⟩
theorem pv_er9 (u : RS) (x : Int64) : pv (rs_er u x) = pv u := rfl
theorem aim_od (nd : Int32) (o : Mo) : o_od (o_aim nd o) = o_od o := rfl
theorem aim_rt (nd : Int32) (o : Mo) : o_rt (o_aim nd o) = o_rt o := rfl
theorem aim_t (nd : Int32) (o : Mo) : o_t (o_aim nd o) = o_t o := rfl
theorem ctx_od (f : Nat → Int32) (o : Mo) : o_od (o_ctx f o) = o_od o := rfl
theorem ctx_rt (f : Nat → Int32) (o : Mo) : o_rt (o_ctx f o) = o_rt o := rfl
theorem ctx_t (f : Nat → Int32) (o : Mo) : o_t (o_ctx f o) = o_t o := rfl
theorem ctx_cx (f : Nat → Int32) (o : Mo) : o_cx (o_ctx f o) = ctxOf (o_od (o_ctx f o)) f := rfl
theorem fin_PV (z mx : Int32) {k : Pr} {u w : RS} (h : PV k u) (h1 : sh w = sh u) (h2 : r_ra w = r_ra u) (h3 : ∀ j, j < k_n k → TbR (o_l (k_ph k) z (qual mx z) (k_mo k j)) w j) : PV (k_ln z mx k) (r_fin z w) := by
  obtain ⟨⟨hn, hn6⟩, ⟨hnd, hnd1, hnd2⟩, hph, hla, hm⟩ := h
  have f1 : r_n w = r_n u := congrArg (fun q : ShT => q.1) h1
  have f2 : r_nd w = r_nd u := congrArg (fun q : ShT => q.2.1) h1
  have f3 : r_od w = r_od u := congrArg (fun q : ShT => q.2.2.1) h1
  have f4 : r_lo w = r_lo u := congrArg (fun q : ShT => q.2.2.2.1) h1
  have f5 : r_hi w = r_hi u := congrArg (fun q : ShT => q.2.2.2.2) h1
  have hbz := bz_le z
  by_cases hc : 2 * k_nd k + bz z < 256
  · obtain ⟨a1, a2, a3, a4, -, -, a5⟩ := k_ln_1 z mx hc
    have er : r_fin z w = rs_ob (rs_nd w (2 * r_nd w + bz z)) (r_ob w + 1) := by unfold r_fin; rw [if_pos (by rw [f2, ← hnd]; exact hc)]
    rw [er]
    unfold PV
    rw [a1, a2, a3, a4, r_n_ob, r_n_nd, r_nd_ob, r_nd_nd, r_hi_ob, r_hi_nd, f1, f2, f5]
    refine ⟨⟨hn, hn6⟩, ⟨by rw [hnd], by omega, hc⟩, by rw [hph]; exact ph_1 hnd1 hbz hc, hla, fun j hj => ?_⟩
    obtain ⟨⟨⟨s1, s2, s3⟩, s4, s5, s6⟩, -, b1, -, -⟩ := hm j hj
    rw [a5 j hj]
    refine ⟨?_, ob_Tb _ (nd_Tb _ (aim_Tb _ (h3 j hj))), aim_R ?_⟩
    · unfold ShR
      rw [aim_od, aim_rt, aim_t, o_l_od, o_l_rt, o_l_t, r_od_ob, r_od_nd, r_ra_ob, r_ra_nd, r_lo_ob, r_lo_nd, f3, h2, f4]
      exact ⟨⟨s1, s2, s3⟩, s4, s5, s6⟩
    · rw [o_l_cx, o_l_od]; exact b1
  · obtain ⟨a1, a2, a3, a4, -, -, a5⟩ := k_ln_2 z mx hc
    have er : r_fin z w = rs_ob (rs_nd (rs_hi (rs_hi (rs_hi (rs_nd w (2 * r_nd w + bz z)) (upd (r_hi w) 2 (r_hi w 1))) (upd (upd (r_hi w) 2 (r_hi w 1)) 1 ((upd (r_hi w) 2 (r_hi w 1)) 0))) (la3 (r_hi w) (nI (2 * r_nd w + bz z) - 256))) 1) (r_ob w + 1) := by unfold r_fin; rw [if_neg (by rw [f2, ← hnd]; exact hc)]; rfl
    have ex : nI (2 * k_nd k + bz z) - 256 = nI (2 * k_nd k + bz z - 256) := pk_sub (b := 256) (by omega)
    have hx : isN (nI (2 * k_nd k + bz z) - 256) 0 255 := ⟨_, by omega, by omega, ex⟩
    rw [er]
    unfold PV
    rw [a1, a2, a3, a4, r_n_ob, r_n_nd, r_n_hi, r_n_hi, r_n_hi, r_n_nd, r_nd_ob, r_nd_nd, r_hi_ob, r_hi_nd, r_hi_hi, f1, f2, f5, ← hnd]
    refine ⟨⟨hn, hn6⟩, ⟨rfl, by omega, by omega⟩, by rw [hph]; exact ph_2 hbz hnd2 hc, la3_R hla hx, fun j hj => ?_⟩
    obtain ⟨⟨⟨s1, s2, s3⟩, s4, s5, s6⟩, -, b1, -, -⟩ := hm j hj
    rw [a5 j hj]
    refine ⟨?_, ob_Tb _ (nd_Tb _ (hi_Tb _ (hi_Tb _ (hi_Tb _ (nd_Tb _ (aim_Tb _ (ctx_Tb _ (h3 j hj)))))))), aim_R (ctx_cx _ _)⟩
    unfold ShR
    rw [aim_od, aim_rt, aim_t, ctx_od, ctx_rt, ctx_t, o_l_od, o_l_rt, o_l_t, r_od_ob, r_od_nd, r_od_hi, r_od_hi, r_od_hi, r_od_nd, r_ra_ob, r_ra_nd, r_ra_hi, r_ra_hi, r_ra_hi, r_ra_nd, r_lo_ob, r_lo_nd, r_lo_hi, r_lo_hi, r_lo_hi, r_lo_nd, f3, h2, f4]
    exact ⟨⟨s1, s2, s3⟩, s4, s5, s6⟩
/-- both learn alike -/
theorem ln_PV (z : Int32) {k : Pr} {u : RS} (h : PV k u) : PV (k_ln z (k_mx k) k) (r_lrn z u) := by
  have hl : PV k (r_l1 z u) := by unfold r_l1; exact PV_pv (pv_er9 _ _) h
  obtain ⟨w, hw, h1, h2, h3⟩ := mods_R z (qual (k_mx k) z) hl
  have e : r_lrn z u = r_fin z w := by
    unfold r_lrn
    rw [← (mxR h).1, show r_n (r_l1 z u) = k_n k from hl.1.1.symm, hw]
  rw [e]
  exact fin_PV z (k_mx k) hl h1 h2 h3
