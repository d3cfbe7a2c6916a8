/-! ===== feed, fill; the relation between class and reference ===== -/
theorem and32 (X : Int64) : (X &&& 255).toInt32 = X.toInt32 &&& 255 := by
  refine Int32.toBitVec_inj.mp (BitVec.eq_of_getLsbD_eq fun i hi => ?_)
  rw [Int32.toBitVec_and]
  show ((X &&& 255).toBitVec.signExtend 32).getLsbD i = (X.toBitVec.signExtend 32 &&& (255 : Int32).toBitVec).getLsbD i
  rw [BitVec.getLsbD_and, BitVec.getLsbD_signExtend, BitVec.getLsbD_signExtend, Int64.toBitVec_and, BitVec.getLsbD_and]
  have h255 : ∀ i, i < 32 → (255 : Int64).toBitVec.getLsbD i = (255 : Int32).toBitVec.getLsbD i := by decide
  rw [h255 i hi, if_pos (by omega), if_pos (by omega)]
  cases X.toBitVec.getLsbD i <;> cases (255 : Int32).toBitVec.getLsbD i <;> simp [hi]
theorem fb_R (w : Int64) {k : Nat} (hk : k < 8) : fbX w k = fbR w k ∧ isN (fbX w k) 0 255 := by
  have e8 : (8 : Int32) * nI k = nI (8 * k) := pk_mul 8 k
  have eq : ((w.toUInt64 >>> ((nI (8 * k)).toInt64.toUInt64 &&& Int64.toUInt64 63)).toInt64) &&& 255 = (w >>> ((nI (8 * k)).toInt64 &&& 63)) &&& 255 := by
    refine Int64.toBitVec_inj.mp (BitVec.eq_of_getLsbD_eq fun i hi => ?_)
    have hs1 : ((nI (8 * k)).toInt64.toUInt64 &&& Int64.toUInt64 63).toNat = 8 * k := by
      rcases (show k = 0 ∨ k = 1 ∨ k = 2 ∨ k = 3 ∨ k = 4 ∨ k = 5 ∨ k = 6 ∨ k = 7 by omega) with rfl | rfl | rfl | rfl | rfl | rfl | rfl | rfl <;> decide
    have hs2 : (((nI (8 * k)).toInt64 &&& 63).toBitVec.smod 64).toNat = 8 * k := by
      rcases (show k = 0 ∨ k = 1 ∨ k = 2 ∨ k = 3 ∨ k = 4 ∨ k = 5 ∨ k = 6 ∨ k = 7 by omega) with rfl | rfl | rfl | rfl | rfl | rfl | rfl | rfl <;> decide
    have e1 : (w.toUInt64 >>> ((nI (8 * k)).toInt64.toUInt64 &&& Int64.toUInt64 63)).toInt64.toBitVec = w.toBitVec >>> (8 * k) := by
      apply BitVec.eq_of_toNat_eq
      show (w.toUInt64 >>> ((nI (8 * k)).toInt64.toUInt64 &&& Int64.toUInt64 63)).toNat = _
      rw [UInt64.toNat_shiftRight, hs1, Nat.mod_eq_of_lt (by omega), BitVec.toNat_ushiftRight]
      rfl
    have e2 : (w >>> ((nI (8 * k)).toInt64 &&& 63)).toBitVec = w.toBitVec.sshiftRight (8 * k) := by
      show w.toBitVec.sshiftRight (((nI (8 * k)).toInt64 &&& 63).toBitVec.smod 64).toNat = _
      rw [hs2]
    rw [Int64.toBitVec_and, Int64.toBitVec_and, e1, e2, BitVec.getLsbD_and, BitVec.getLsbD_and, BitVec.getLsbD_ushiftRight, BitVec.getLsbD_sshiftRight]
    by_cases g : i < 8
    · rw [if_pos (by omega), decide_eq_false (show ¬ 64 ≤ i by omega)]
      simp
    · have h255 : ∀ i, i < 64 → ¬ i < 8 → (255 : Int64).toBitVec.getLsbD i = false := by decide
      rw [h255 i hi g, Bool.and_false, Bool.and_false]
  constructor
  · unfold fbX fbR
    rw [e8, ← eq, and32]
  · unfold fbX
    obtain ⟨j, hj, e⟩ := pk_andE ((w.toUInt64 >>> ((8 * nI k).toInt64.toUInt64 &&& Int64.toUInt64 63)).toInt64.toInt32) (m := 255) 8 (by decide)
    exact ⟨j, by omega, by omega, e⟩
/-- all but the text -/
abbrev RwT9 : Type := PvT × Int32 × Int64 × Int32 × Nat × (Nat → Int32) × Nat × (Nat → Int32)
def rw9 (v : RS) : RwT9 := (pv v, r_ob v, r_er v, r_th v, r_cs v, r_cd v, r_mk v, r_ou v)
theorem rw9_sz (u : RS) (x : Nat) : rw9 (rs_sz u x) = rw9 u := by unfold rw9; rw [pv_sz, r_ob_sz, r_er_sz, r_th_sz, r_cs_sz, r_cd_sz, r_mk_sz, r_ou_sz]
theorem rw9_tx (u : RS) (x : Nat → Int32) : rw9 (rs_tx u x) = rw9 u := by unfold rw9; rw [pv_tx, r_ob_tx, r_er_tx, r_th_tx, r_cs_tx, r_cd_tx, r_mk_tx, r_ou_tx]
theorem fd_R (w : Int64) : ∀ (k : Nat) (r : Row) (u : RS), k ≤ 8 → RowQ r (r_sz u) (r_tx u) → RowB r → r_sz u + k ≤ 80 → RowQ (q_fd w k r) (r_sz (r_fd w k u)) (r_tx (r_fd w k u)) ∧ RowB (q_fd w k r) ∧ r_sz (r_fd w k u) = r_sz u + k ∧ rw9 (r_fd w k u) = rw9 u
  | 0, r, u, _, h1, h2, _ => ⟨h1, h2, rfl, rfl⟩
  | k + 1, r, u, hk, h1, h2, h3 => by
    obtain ⟨e1, e2⟩ := fb_R w (show k < 8 by omega)
    have hq : RowQ (q_app 80 r (fbX w k)) (r_sz (rs_sz (rs_tx u (upd (r_tx u) (r_sz u) (fbR w k))) (r_sz u + 1))) (r_tx (rs_sz (rs_tx u (upd (r_tx u) (r_sz u) (fbR w k))) (r_sz u + 1))) := by
      rw [r_sz_sz, r_tx_sz, r_tx_tx, ← e1]
      exact app_Q h1 (by omega)
    obtain ⟨g1, g2, g3, g4⟩ := fd_R w k (q_app 80 r (fbX w k)) (rs_sz (rs_tx u (upd (r_tx u) (r_sz u) (fbR w k))) (r_sz u + 1)) (by omega) hq (app_B h2 e2) (by rw [r_sz_sz]; omega)
    rw [r_sz_sz] at g3
    rw [rw9_sz, rw9_tx] at g4
    exact ⟨g1, g2, by rw [show r_sz u + (k + 1) = r_sz u + 1 + k by omega]; exact g3, g4⟩
theorem fl_R {v : Int32} (hv : isN v 0 255) {r : Row} {n : Nat} {f : Nat → Int32} (h1 : RowQ r n f) (h2 : RowB r) : ∀ k, n + k ≤ 80 → RowQ (q_fl v k r) (n + k) (r_fl v n f k) ∧ RowB (q_fl v k r)
  | 0, _ => ⟨h1, h2⟩
  | k + 1, hk => by
    obtain ⟨g1, g2⟩ := fl_R hv h1 h2 k (by omega)
    exact ⟨app_Q g1 (show n + k < 80 by omega), app_B g2 hv⟩
/-- THE RELATION: c calls have been made -/
def Rel (x : Mx) (u : RS) (c : Nat) : Prop := PR (x_pr x) u ∧ (∃ t : Nat, t ≤ 640 + c ∧ k_bt (x_pr x) = nI t) ∧ (RowQ (x_tx x) (r_sz u) (r_tx u) ∧ RowB (x_tx x) ∧ r_sz u ≤ 80) ∧ (RowQ (x_en x) (r_cs u) (r_cd u) ∧ RowB (x_en x) ∧ r_cs u ≤ 2564) ∧ RowQ (x_de x) (r_mk u) (r_ou u) ∧ r_mk u ≤ 80
theorem Rel_th {x : Mx} {u : RS} {c : Nat} (y : Int32) (h : Rel x u c) : Rel x (rs_th u y) c := by
  obtain ⟨⟨h1, h2, h3⟩, h4, h5, h6, h7, h8⟩ := h
  unfold Rel PR
  rw [r_ob_th, r_er_th, r_sz_th, r_tx_th, r_cs_th, r_cd_th, r_mk_th, r_ou_th]
  exact ⟨⟨PV_pv (pv_th u y) h1, h2, h3⟩, h4, h5, h6, h7, h8⟩
theorem Rel_s {x : Mx} {u : RS} {c : Nat} (h : Rel x u c) : Rel x u (c + 1) := by
  obtain ⟨h1, ⟨t, h2, h3⟩, h4⟩ := h
  exact ⟨h1, ⟨t, by omega, h3⟩, h4⟩
theorem Rel_t {x : Mx} {u : RS} {c : Nat} (y : Int32) (h : Rel x u c) : Rel x (rs_th u y) (c + 1) := Rel_s (Rel_th y h)
/-- a predictor begun anew -/
theorem Rel_rs {x : Mx} {u : RS} {c : Nat} {k : Pr} {v : RS} (h : Rel x u c) (hs : SH k v) (hv : r_sz v = r_sz u ∧ r_tx v = r_tx u ∧ r_cs v = r_cs u ∧ r_cd v = r_cd u ∧ r_mk v = r_mk u ∧ r_ou v = r_ou u) : Rel (xs_pr x (k_rs k)) (r_clr v) (c + 1) := by
  obtain ⟨-, -, h5, h6, h7, h8⟩ := h
  obtain ⟨v1, v2, v3, v4, v5, v6⟩ := hv
  unfold Rel
  rw [x_pr_pr, x_tx_pr, x_en_pr, x_de_pr, r_clr_sz, r_clr_tx, r_clr_cs, r_clr_cd, r_clr_mk, r_clr_ou, v1, v2, v3, v4, v5, v6]
  exact ⟨PR_rs hs, ⟨0, by omega, by rw [k_rs_bt]; rfl⟩, h5, h6, h7, h8⟩
