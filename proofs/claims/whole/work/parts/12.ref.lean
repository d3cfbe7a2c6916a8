/-! ===== the reference: what its methods say ===== -/
def isI (v lo hi : Int32) : Int32 := if v < lo then 0 else if hi < v then 0 else 1
theorem isI_z (v lo hi : Int32) : narrow .boolean (.int (isI v lo hi)) = .int (isI v lo hi) := by unfold isI; split <;> (try split) <;> rfl
theorem loopm {N j n : Nat} (h1 : N - j < n + 1) (h2 : j < N) : N - (j + 1) < n := by omega
def r_ctx (u : RS) (j : Nat) : Int32 := ctxOf (r_od u j) (r_hi u)
def r_ix (u : RS) (j : Nat) : Int32 := (73 * r_ctx u j + nI (r_nd u)) - (73 * r_ctx u j + nI (r_nd u)) / ((1 : Int32) <<< (r_lo u j &&& 31)) * ((1 : Int32) <<< (r_lo u j &&& 31))
def r_g (u : RS) (j : Nat) : Int32 := r_co u (512 * j + (r_ix u j).toNatClampNeg)
def phN (n : Nat) : Nat := if n < 2 then 0 else if n < 4 then 1 else if n < 8 then 2 else if n < 16 then 3 else if n < 32 then 4 else if n < 64 then 5 else if n < 128 then 6 else 7
theorem phN_lt (n : Nat) : phN n < 8 := by unfold phN; (repeat' split) <;> omega
def r_w (u : RS) (j : Nat) : Int32 := r_we u (8 * j + phN (r_nd u))
/-- the shape: what keeps every index in its row -/
def RSf (u : RS) : Prop := r_n u ≤ 6 ∧ r_nd u < 256 ∧ 0 < r_nd u ∧ ∀ j, j < r_n u → r_od u j ≤ 3 ∧ ¬ ((1 : Int32) <<< (r_lo u j &&& 31) = 0) ∧ vp_in (r_ix u j) 512
def sumPL (w g : Nat → Int32) : Nat → Int64
  | 0 => 0
  | j + 1 => sumPL w g j + (w j).toInt64 * (g j).toInt64
def sumTL (w : Nat → Int32) : Nat → Int64
  | 0 => 0
  | j + 1 => sumTL w j + (w j).toInt64
def clampL (q : Int64) : Int64 := if (if q < (4095 : Int64) then q else 4095) < (1 : Int64) then 1 else (if q < (4095 : Int64) then q else 4095)
def r_mx (u : RS) : Int32 := if r_n u = 0 then 2048 else (clampL (sumPL (r_w u) (r_g u) (r_n u) / sumTL (r_w u) (r_n u))).toInt32
def clr1 (u : RS) (j : Nat) : RS := rs_ln (rs_co u (fiI j 2048 (r_co u))) (fiI j 0 (r_ln u))
def clr2 (u : RS) (j : Nat) : RS := rs_we u (fiI j 256 (r_we u))
def clr3 (u : RS) (j : Nat) : RS := rs_cl u (fiI j 0 (r_cl u))
def clr4 (u : RS) (j : Nat) : RS := rs_hi u (fiI j 0 (r_hi u))
theorem clr1_e (u : RS) (x y x2 y2 : Nat → Int32) : rs_ln (rs_co (rs_ln (rs_co u x) y) x2) y2 = rs_ln (rs_co u x2) y2 := rfl
theorem clr1_a (u : RS) (x y : Nat → Int32) : r_co (rs_ln (rs_co u x) y) = x := rfl
theorem clr1_b (u : RS) (x y : Nat → Int32) : r_ln (rs_ln (rs_co u x) y) = y := rfl
theorem clr1_0 (u : RS) : u = clr1 u 0 := by unfold clr1; rw [fiI_0, fiI_0]; rfl
theorem clr1_s (u : RS) (j : Nat) : rs_ln (rs_co (clr1 u j) (upd (r_co (clr1 u j)) j 2048)) (upd (r_ln (clr1 u j)) j 0) = clr1 u (j + 1) := by unfold clr1; rw [clr1_e, clr1_a, clr1_b, fiI_s, fiI_s]
theorem clr2_e (u : RS) (x y : Nat → Int32) : rs_we (rs_we u x) y = rs_we u y := rfl
theorem clr2_0 (u : RS) : u = clr2 u 0 := by unfold clr2; rw [fiI_0]; rfl
theorem clr2_s (u : RS) (j : Nat) : rs_we (clr2 u j) (upd (r_we (clr2 u j)) j 256) = clr2 u (j + 1) := by unfold clr2; rw [clr2_e, r_we_we, fiI_s]
theorem clr3_e (u : RS) (x y : Nat → Int32) : rs_cl (rs_cl u x) y = rs_cl u y := rfl
theorem clr3_0 (u : RS) : u = clr3 u 0 := by unfold clr3; rw [fiI_0]; rfl
theorem clr3_s (u : RS) (j : Nat) : rs_cl (clr3 u j) (upd (r_cl (clr3 u j)) j 0) = clr3 u (j + 1) := by unfold clr3; rw [clr3_e, r_cl_cl, fiI_s]
theorem clr4_e (u : RS) (x y : Nat → Int32) : rs_hi (rs_hi u x) y = rs_hi u y := rfl
theorem clr4_0 (u : RS) : u = clr4 u 0 := by unfold clr4; rw [fiI_0]; rfl
theorem clr4_s (u : RS) (j : Nat) : rs_hi (clr4 u j) (upd (r_hi (clr4 u j)) j 0) = clr4 u (j + 1) := by unfold clr4; rw [clr4_e, r_hi_hi, fiI_s]
def r_clr (u : RS) : RS := rs_er (rs_ob (rs_nd (clr4 (clr3 (clr2 (clr1 u 3072) 48) 6) 3) 1) 0) 0
theorem ixT {j : Nat} {x : Int32} (hj : j < 6) (hx : vp_in x 512) : (512 * nI j + x).toInt = 512 * (j : Int) + x.toInt := by
  obtain ⟨h0, h1⟩ := vp_in_iff.mp hx
  have e : (512 * nI j : Int32) = nI (512 * j) := by rw [show (512 : Int32) = nI 512 from rfl, pk_mul]
  have e1 : (nI (512 * j)).toInt = ((512 * j : Nat) : Int) := nI_toInt (by omega)
  rw [e, Int32.toInt_add, e1]
  rw [Int.bmod_eq_of_le (by omega) (by omega)]
  omega
theorem ixA {j : Nat} {x : Int32} (hj : j < 6) (hx : vp_in x 512) : vp_in (512 * nI j + x) 3072 := by
  obtain ⟨h0, h1⟩ := vp_in_iff.mp hx
  exact vp_in_iff.mpr (by rw [ixT hj hx]; omega)
theorem ixN {j : Nat} {x : Int32} (hj : j < 6) (hx : vp_in x 512) : (512 * nI j + x).toNatClampNeg = 512 * j + x.toNatClampNeg := by
  obtain ⟨h0, h1⟩ := vp_in_iff.mp hx
  show (512 * nI j + x).toInt.toNat = 512 * j + x.toInt.toNat
  rw [ixT hj hx]
  omega
theorem wixN (j q : Nat) : 8 * nI j + nI q = nI (8 * j + q) := by rw [show (8 : Int32) = nI 8 from rfl, pk_mul, nI_add]

section RFW
variable (cI : ClassId) (b : Nat → Nat) (u : RS)
theorem rfW_th (x : Int32) : (rfW cI b u).set 0 (b 0, .inr (5, [.int (r_th u), .int (nI (r_n u)), .ref (b 1), .ref (b 2), .ref (b 3), .int (nI (r_sz u)), .ref (b 4), .ref (b 5), .ref (b 6), .ref (b 7), .ref (b 8), .ref (b 9), .ref (b 10), .int (nI (r_nd u)), .int (r_ob u), .long (r_er u), .int (nI (r_cs u)), .ref (b 11), .int (nI (r_mk u)), .ref (b 12), .long (r_lw u), .long (r_hg u)].set 0 (.int x))) = rfW cI b (rs_th u x) := rfl
theorem rfW_n (x : Nat) : (rfW cI b u).set 0 (b 0, .inr (5, [.int (r_th u), .int (nI (r_n u)), .ref (b 1), .ref (b 2), .ref (b 3), .int (nI (r_sz u)), .ref (b 4), .ref (b 5), .ref (b 6), .ref (b 7), .ref (b 8), .ref (b 9), .ref (b 10), .int (nI (r_nd u)), .int (r_ob u), .long (r_er u), .int (nI (r_cs u)), .ref (b 11), .int (nI (r_mk u)), .ref (b 12), .long (r_lw u), .long (r_hg u)].set 1 (.int (nI x)))) = rfW cI b (rs_n u x) := rfl
theorem rfW_sz (x : Nat) : (rfW cI b u).set 0 (b 0, .inr (5, [.int (r_th u), .int (nI (r_n u)), .ref (b 1), .ref (b 2), .ref (b 3), .int (nI (r_sz u)), .ref (b 4), .ref (b 5), .ref (b 6), .ref (b 7), .ref (b 8), .ref (b 9), .ref (b 10), .int (nI (r_nd u)), .int (r_ob u), .long (r_er u), .int (nI (r_cs u)), .ref (b 11), .int (nI (r_mk u)), .ref (b 12), .long (r_lw u), .long (r_hg u)].set 5 (.int (nI x)))) = rfW cI b (rs_sz u x) := rfl
theorem rfW_nd (x : Nat) : (rfW cI b u).set 0 (b 0, .inr (5, [.int (r_th u), .int (nI (r_n u)), .ref (b 1), .ref (b 2), .ref (b 3), .int (nI (r_sz u)), .ref (b 4), .ref (b 5), .ref (b 6), .ref (b 7), .ref (b 8), .ref (b 9), .ref (b 10), .int (nI (r_nd u)), .int (r_ob u), .long (r_er u), .int (nI (r_cs u)), .ref (b 11), .int (nI (r_mk u)), .ref (b 12), .long (r_lw u), .long (r_hg u)].set 13 (.int (nI x)))) = rfW cI b (rs_nd u x) := rfl
theorem rfW_ob (x : Int32) : (rfW cI b u).set 0 (b 0, .inr (5, [.int (r_th u), .int (nI (r_n u)), .ref (b 1), .ref (b 2), .ref (b 3), .int (nI (r_sz u)), .ref (b 4), .ref (b 5), .ref (b 6), .ref (b 7), .ref (b 8), .ref (b 9), .ref (b 10), .int (nI (r_nd u)), .int (r_ob u), .long (r_er u), .int (nI (r_cs u)), .ref (b 11), .int (nI (r_mk u)), .ref (b 12), .long (r_lw u), .long (r_hg u)].set 14 (.int x))) = rfW cI b (rs_ob u x) := rfl
theorem rfW_er (x : Int64) : (rfW cI b u).set 0 (b 0, .inr (5, [.int (r_th u), .int (nI (r_n u)), .ref (b 1), .ref (b 2), .ref (b 3), .int (nI (r_sz u)), .ref (b 4), .ref (b 5), .ref (b 6), .ref (b 7), .ref (b 8), .ref (b 9), .ref (b 10), .int (nI (r_nd u)), .int (r_ob u), .long (r_er u), .int (nI (r_cs u)), .ref (b 11), .int (nI (r_mk u)), .ref (b 12), .long (r_lw u), .long (r_hg u)].set 15 (.long x))) = rfW cI b (rs_er u x) := rfl
theorem rfW_cs (x : Nat) : (rfW cI b u).set 0 (b 0, .inr (5, [.int (r_th u), .int (nI (r_n u)), .ref (b 1), .ref (b 2), .ref (b 3), .int (nI (r_sz u)), .ref (b 4), .ref (b 5), .ref (b 6), .ref (b 7), .ref (b 8), .ref (b 9), .ref (b 10), .int (nI (r_nd u)), .int (r_ob u), .long (r_er u), .int (nI (r_cs u)), .ref (b 11), .int (nI (r_mk u)), .ref (b 12), .long (r_lw u), .long (r_hg u)].set 16 (.int (nI x)))) = rfW cI b (rs_cs u x) := rfl
theorem rfW_mk (x : Nat) : (rfW cI b u).set 0 (b 0, .inr (5, [.int (r_th u), .int (nI (r_n u)), .ref (b 1), .ref (b 2), .ref (b 3), .int (nI (r_sz u)), .ref (b 4), .ref (b 5), .ref (b 6), .ref (b 7), .ref (b 8), .ref (b 9), .ref (b 10), .int (nI (r_nd u)), .int (r_ob u), .long (r_er u), .int (nI (r_cs u)), .ref (b 11), .int (nI (r_mk u)), .ref (b 12), .long (r_lw u), .long (r_hg u)].set 18 (.int (nI x)))) = rfW cI b (rs_mk u x) := rfl
theorem rfW_lw (x : Int64) : (rfW cI b u).set 0 (b 0, .inr (5, [.int (r_th u), .int (nI (r_n u)), .ref (b 1), .ref (b 2), .ref (b 3), .int (nI (r_sz u)), .ref (b 4), .ref (b 5), .ref (b 6), .ref (b 7), .ref (b 8), .ref (b 9), .ref (b 10), .int (nI (r_nd u)), .int (r_ob u), .long (r_er u), .int (nI (r_cs u)), .ref (b 11), .int (nI (r_mk u)), .ref (b 12), .long (r_lw u), .long (r_hg u)].set 20 (.long x))) = rfW cI b (rs_lw u x) := rfl
theorem rfW_hg (x : Int64) : (rfW cI b u).set 0 (b 0, .inr (5, [.int (r_th u), .int (nI (r_n u)), .ref (b 1), .ref (b 2), .ref (b 3), .int (nI (r_sz u)), .ref (b 4), .ref (b 5), .ref (b 6), .ref (b 7), .ref (b 8), .ref (b 9), .ref (b 10), .int (nI (r_nd u)), .int (r_ob u), .long (r_er u), .int (nI (r_cs u)), .ref (b 11), .int (nI (r_mk u)), .ref (b 12), .long (r_lw u), .long (r_hg u)].set 21 (.long x))) = rfW cI b (rs_hg u x) := rfl
theorem rfW_od (f : Nat → Int32) : (rfW cI b u).set 1 (b 1, .inl (cI, 6, .inl f)) = rfW cI b (rs_od u f) := rfl
theorem rfW_ra (f : Nat → Int32) : (rfW cI b u).set 2 (b 2, .inl (cI, 6, .inl f)) = rfW cI b (rs_ra u f) := rfl
theorem rfW_lo (f : Nat → Int32) : (rfW cI b u).set 3 (b 3, .inl (cI, 6, .inl f)) = rfW cI b (rs_lo u f) := rfl
theorem rfW_tx (f : Nat → Int32) : (rfW cI b u).set 4 (b 4, .inl (cI, 80, .inl f)) = rfW cI b (rs_tx u f) := rfl
theorem rfW_co (f : Nat → Int32) : (rfW cI b u).set 5 (b 5, .inl (cI, 3072, .inl f)) = rfW cI b (rs_co u f) := rfl
theorem rfW_lc (f : Nat → Int32) : (rfW cI b u).set 6 (b 6, .inl (cI, 3072, .inl f)) = rfW cI b (rs_lc u f) := rfl
theorem rfW_ln (f : Nat → Int32) : (rfW cI b u).set 7 (b 7, .inl (cI, 3072, .inl f)) = rfW cI b (rs_ln u f) := rfl
theorem rfW_we (f : Nat → Int32) : (rfW cI b u).set 8 (b 8, .inl (cI, 48, .inl f)) = rfW cI b (rs_we u f) := rfl
theorem rfW_cl (f : Nat → Int32) : (rfW cI b u).set 9 (b 9, .inl (cI, 6, .inl f)) = rfW cI b (rs_cl u f) := rfl
theorem rfW_hi (f : Nat → Int32) : (rfW cI b u).set 10 (b 10, .inl (cI, 3, .inl f)) = rfW cI b (rs_hi u f) := rfl
theorem rfW_cd (f : Nat → Int32) : (rfW cI b u).set 11 (b 11, .inl (cI, 3000, .inl f)) = rfW cI b (rs_cd u f) := rfl
theorem rfW_ou (f : Nat → Int32) : (rfW cI b u).set 12 (b 12, .inl (cI, 80, .inl f)) = rfW cI b (rs_ou u f) := rfl
end RFW

set_option maxHeartbeats 4000000 in
set_option maxRecDepth 100000 in
theorem c_X5_isIn (l : Launch) (D : va_G) (cI cL cM : ClassId) (A : Nat → Prop) (v lo hi : Int32) : mI l yX5_isIn wsX5_isIn ({ frames := 0, cells := 0, slots := 0, locals := 0 }) D (tB cI cL cM) A [.int v, .int lo, .int hi] [] (isI v lo hi) [] := by
  refine Met.ofW (cc := cX5_isIn) (maxL := 3) (ret := (some .boolean)) (by decide) rfl ?_
  intro p e s m args below meth c s₁ B hml hv
  obtain ⟨rfl, hP, hE, hD, hA⟩ := hv
  have hK := hE.1
  have hx := B.exec
  have hb := B.bytes
  have hr := B.returns
  have hts := atoms_spec (ws := wsX5_isIn) B.pre
  have hown : s.vm.findClass RX5 = some m.cls := findClass_of_methodNamed B.named
  have hlocks := B.notSynchronized
  have hS : va_S A s.heap s.heap [] := va_S.rf
  have hl := lv_entry ([.int v, .int lo, .int hi]) (n := 3) (Nat.le_of_ble_eq_true rfl)
  rw [lg_entry_eq]
  generalize (lg_sl ([.int v, .int lo, .int hi]) ++ List.replicate (3 - (lg_sl ([.int v, .int lo, .int hi])).length) Slot.unset).toArray = ls at hl ⊢
  have hl : lv_has ls 3 [(0, .int v), (1, .int lo), (2, .int hi)] := hl
  refine lv_iload_n hx hb dX5_isIn_0 rfl (lv_at hl 0 rfl) ?_
  refine lv_iload_n hx hb dX5_isIn_1 rfl (lv_at hl 1 rfl) ?_
  refine lv_icmp_lt (tgt := 14) hx hb dX5_isIn_2 (by decide) (fun c_1 => ?_) (fun c_1 => ?_)
  · have c_1 : v < lo := c_1
    refine lv_iconst (v := 0) hx hb dX5_isIn_14 (by decide) ?_
    exact W.zret (v := 0) hx hb hr rfl (fun t ht hW => ⟨⟨0, (), rfl, by (try unfold isI); (try rw [if_pos c_1]); try rfl, by rw [ht]; exact hP, hD⟩, hS.F ht⟩) hS.2.2 dX5_isIn_15
  · have c_1 : ¬ v < lo := c_1
    refine lv_iload_n hx hb dX5_isIn_5 rfl (lv_at hl 0 rfl) ?_
    refine lv_iload_n hx hb dX5_isIn_6 rfl (lv_at hl 2 rfl) ?_
    refine lv_icmp_gt (tgt := 14) hx hb dX5_isIn_7 (by decide) (fun c_2 => ?_) (fun c_2 => ?_)
    · have c_2 : hi < v := c_2
      refine lv_iconst (v := 0) hx hb dX5_isIn_14 (by decide) ?_
      exact W.zret (v := 0) hx hb hr rfl (fun t ht hW => ⟨⟨0, (), rfl, by (try unfold isI); (try rw [if_neg c_1]); (try rw [if_pos c_2]); try rfl, by rw [ht]; exact hP, hD⟩, hS.F ht⟩) hS.2.2 dX5_isIn_15
    · have c_2 : ¬ hi < v := c_2
      refine lv_iconst (v := 1) hx hb dX5_isIn_10 (by decide) ?_
      refine lv_goto (tgt := 15) hx hb dX5_isIn_11 (by decide) ?_
      exact W.zret (v := 1) hx hb hr rfl (fun t ht hW => ⟨⟨1, (), rfl, by (try unfold isI); (try rw [if_neg c_1]); (try rw [if_neg c_2]); try rfl, by rw [ht]; exact hP, hD⟩, hS.F ht⟩) hS.2.2 dX5_isIn_15

set_option maxHeartbeats 4000000 in
set_option maxRecDepth 100000 in
theorem c_X5_quality (l : Launch) (D : va_G) (cI cL cM : ClassId) (A : Nat → Prop) (q z : Int32) : mI l yX5_quality wsX5_quality ({ frames := 0, cells := 0, slots := 0, locals := 0 }) D (tB cI cL cM) A [.int q, .int z] [] (qual q z) [] := by
  refine Met.ofW (cc := cX5_quality) (maxL := 2) (ret := (some .int)) (by decide) rfl ?_
  intro p e s m args below meth c s₁ B hml hv
  obtain ⟨rfl, hP, hE, hD, hA⟩ := hv
  have hK := hE.1
  have hx := B.exec
  have hb := B.bytes
  have hr := B.returns
  have hts := atoms_spec (ws := wsX5_quality) B.pre
  have hown : s.vm.findClass RX5 = some m.cls := findClass_of_methodNamed B.named
  have hlocks := B.notSynchronized
  have hS : va_S A s.heap s.heap [] := va_S.rf
  have hl := lv_entry ([.int q, .int z]) (n := 2) (Nat.le_of_ble_eq_true rfl)
  rw [lg_entry_eq]
  generalize (lg_sl ([.int q, .int z]) ++ List.replicate (2 - (lg_sl ([.int q, .int z])).length) Slot.unset).toArray = ls at hl ⊢
  have hl : lv_has ls 2 [(0, .int q), (1, .int z)] := hl
  refine lv_iload_n hx hb dX5_quality_0 rfl (lv_at hl 1 rfl) ?_
  refine lv_if_eq (tgt := 8) hx hb dX5_quality_1 (by decide) (fun c_1 => ?_) (fun c_1 => ?_)
  · have c_1 : z = (0 : Int32) := c_1
    refine lv_sipush (v := 4096) hx hb dX5_quality_8 (by decide) ?_
    refine lv_iload_n hx hb dX5_quality_11 rfl (lv_at hl 0 rfl) ?_
    refine lv_isub hx hb dX5_quality_12 ?_
    exact W.iret (v := 4096 - q) hx hb hr (fun t ht hW => ⟨⟨(4096 - q), (), rfl, by (try unfold qual); (try rw [if_pos c_1]); try rfl, by rw [ht]; exact hP, hD⟩, hS.F ht⟩) hS.2.2 dX5_quality_13
  · have c_1 : ¬ z = (0 : Int32) := c_1
    refine lv_iload_n hx hb dX5_quality_4 rfl (lv_at hl 0 rfl) ?_
    refine lv_goto (tgt := 13) hx hb dX5_quality_5 (by decide) ?_
    exact W.iret (v := q) hx hb hr (fun t ht hW => ⟨⟨q, (), rfl, by (try unfold qual); (try rw [if_neg c_1]); try rfl, by rw [ht]; exact hP, hD⟩, hS.F ht⟩) hS.2.2 dX5_quality_13

set_option maxHeartbeats 4000000 in
set_option maxRecDepth 100000 in
theorem c_X5_thrown (l : Launch) (D : va_G) (cI cL cM : ClassId) (A : Nat → Prop) (b : Nat → Nat) (u : RS)  : mI l yX5_thrown wsX5_thrown ({ frames := 0, cells := 0, slots := 0, locals := 0 }) D (tB cI cL cM) A [.ref (b 0)] (rfW cI b u) (r_th u) (rfW cI b u) := by
  refine Met.ofW (cc := cX5_thrown) (maxL := 1) (ret := (some .int)) (by decide) rfl ?_
  intro p e s m args below meth c s₁ B hml hv
  obtain ⟨rfl, hP, hE, hD, hA⟩ := hv
  have hK := hE.1
  have hx := B.exec
  have hb := B.bytes
  have hr := B.returns
  have hts := atoms_spec (ws := wsX5_thrown) B.pre
  have hown : s.vm.findClass RX5 = some m.cls := findClass_of_methodNamed B.named
  have hlocks := B.notSynchronized
  have hS : va_S A s.heap s.heap [] := va_S.rf
  have hl := lv_entry ([.ref (b 0)]) (n := 1) (Nat.le_of_ble_eq_true rfl)
  rw [lg_entry_eq]
  generalize (lg_sl ([.ref (b 0)]) ++ List.replicate (1 - (lg_sl ([.ref (b 0)])).length) Slot.unset).toArray = ls at hl ⊢
  have hl : lv_has ls 1 [(0, .ref (b 0))] := hl
  refine lv_aload_n hx hb dX5_thrown_0 rfl (lv_at hl 0 rfl) ?_
  refine va_get (D := D) (ci := 5) (v := .int (r_th u)) (C := RX5) (T := TX5) (N := 22) hx hb hts (fun _ h => List.mem_cons_of_mem _ (List.mem_append_right _ h)) hown hK hP 0 rfl rfl 0 (by decide) (hts _ (List.mem_of_getElem? (i := 1) rfl)) (fun _ h9 => h9) rfl dX5_thrown_1 ?_
  exact W.iret (v := (r_th u)) hx hb hr (fun t ht hW => ⟨⟨(r_th u), (), rfl, by rfl, by rw [ht]; exact hP, hD⟩, hS.F ht⟩) hS.2.2 dX5_thrown_4

set_option maxHeartbeats 4000000 in
set_option maxRecDepth 100000 in
theorem c_X5_no (l : Launch) (D : va_G) (cI cL cM : ClassId) (A : Nat → Prop) (b : Nat → Nat) (u : RS) (q : Int32) : mI l yX5_no wsX5_no ({ frames := 0, cells := 0, slots := 0, locals := 0 }) D (tB cI cL cM) A [.ref (b 0), .int q] (rfW cI b u) 0 (rfW cI b (rs_th u q)) := by
  refine Met.ofW (cc := cX5_no) (maxL := 2) (ret := (some .int)) (by decide) rfl ?_
  intro p e s m args below meth c s₁ B hml hv
  obtain ⟨rfl, hP, hE, hD, hA⟩ := hv
  have hK := hE.1
  have hx := B.exec
  have hb := B.bytes
  have hr := B.returns
  have hts := atoms_spec (ws := wsX5_no) B.pre
  have hown : s.vm.findClass RX5 = some m.cls := findClass_of_methodNamed B.named
  have hlocks := B.notSynchronized
  have hS : va_S A s.heap s.heap [] := va_S.rf
  have hl := lv_entry ([.ref (b 0), .int q]) (n := 2) (Nat.le_of_ble_eq_true rfl)
  rw [lg_entry_eq]
  generalize (lg_sl ([.ref (b 0), .int q]) ++ List.replicate (2 - (lg_sl ([.ref (b 0), .int q])).length) Slot.unset).toArray = ls at hl ⊢
  have hl : lv_has ls 2 [(0, .ref (b 0)), (1, .int q)] := hl
  refine lv_aload_n hx hb dX5_no_0 rfl (lv_at hl 0 rfl) ?_
  refine lv_iload_n hx hb dX5_no_1 rfl (lv_at hl 1 rfl) ?_
  refine va_put (D := D) (ci := 5) (v := .int q) (ty := .int) (C := RX5) (T := TX5) (N := 22) hx hb hts (fun _ h => List.mem_cons_of_mem _ (List.mem_append_right _ h)) tyX5 tyX5_ok nmX5 hown hK hP hD hS 0 rfl rfl 0 (by decide) (hts _ (List.mem_of_getElem? (i := 1) rfl)) (fun _ h9 => h9) rfl (by decide +kernel) rfl rfl (Nat.le_of_ble_eq_true rfl) dX5_no_2 (fun H locs hP hD hS => ?_)
  rw [rfW_th] at hP hD
  have hP : va_P D vwCl (rfW cI b (rs_th u q)) H := hP
  have hD : va_D A (rfW cI b (rs_th u q)) := hD
  refine lv_iconst (v := 0) hx hb dX5_no_5 (by decide) ?_
  exact W.iret (v := 0) hx hb hr (fun t ht hW => ⟨⟨0, (), rfl, by rfl, by rw [ht]; exact hP, hD⟩, hS.F ht⟩) hS.2.2 dX5_no_6

set_option maxHeartbeats 4000000 in
set_option maxRecDepth 100000 in
theorem c_X5_isModel (l : Launch) (D : va_G) (cI cL cM : ClassId) (A : Nat → Prop) (b : Nat → Nat) (u : RS) (q : Int32) : mI l yX5_isModel wsX5_isModel ({ frames := 1, cells := 0, slots := 0, locals := 22 }) D (tB cI cL cM) A [.ref (b 0), .int q] (rfW cI b u) (isI q 0 (nI (r_n u) - 1)) (rfW cI b u) := by
  refine Met.ofW (cc := cX5_isModel) (maxL := 2) (ret := (some .boolean)) (by decide) rfl ?_
  intro p e s m args below meth c s₁ B hml hv
  obtain ⟨rfl, hP, hE, hD, hA⟩ := hv
  have hK := hE.1
  have hx := B.exec
  have hb := B.bytes
  have hr := B.returns
  have hts := atoms_spec (ws := wsX5_isModel) B.pre
  have hown : s.vm.findClass RX5 = some m.cls := findClass_of_methodNamed B.named
  have hlocks := B.notSynchronized
  have hS : va_S A s.heap s.heap [] := va_S.rf
  have hl := lv_entry ([.ref (b 0), .int q]) (n := 2) (Nat.le_of_ble_eq_true rfl)
  rw [lg_entry_eq]
  generalize (lg_sl ([.ref (b 0), .int q]) ++ List.replicate (2 - (lg_sl ([.ref (b 0), .int q])).length) Slot.unset).toArray = ls at hl ⊢
  have hl : lv_has ls 2 [(0, .ref (b 0)), (1, .int q)] := hl
  refine lv_iload_n hx hb dX5_isModel_0 rfl (lv_at hl 1 rfl) ?_
  refine lv_iconst (v := 0) hx hb dX5_isModel_1 (by decide) ?_
  refine lv_aload_n hx hb dX5_isModel_2 rfl (lv_at hl 0 rfl) ?_
  refine va_get (D := D) (ci := 5) (v := .int (nI (r_n u))) (C := RX5) (T := TX5) (N := 22) hx hb hts (fun _ h => List.mem_cons_of_mem _ (List.mem_append_right _ h)) hown hK hP 0 rfl rfl 1 (by decide) (hts _ (List.mem_of_getElem? (i := 1) rfl)) (fun _ h9 => h9) rfl dX5_isModel_3 ?_
  refine lv_iconst (v := 1) hx hb dX5_isModel_6 (by decide) ?_
  refine lv_isub hx hb dX5_isModel_7 ?_
  refine kI (rS (As := [.int q, .int 0, .int ((nI (r_n u)) - 1)]) (rest := []) ⟨hx, hb, hml, hown, hts⟩ (c_X5_isIn l D cI cL cM _ q 0 ((nI (r_n u)) - 1) ) (va_cwS 3 hts gX5_isModel_X5_isIn rfl rfl rfl (by decide +kernel) ⟨(Nat.le_of_ble_eq_true rfl), (Nat.le_of_ble_eq_true rfl)⟩) hE hP hD [] rfl rfl rfl hl.1 rfl (Nat.le_of_ble_eq_true rfl) dX5_isModel_8 ⟨(Nat.le_of_ble_eq_true rfl), (Nat.le_of_ble_eq_true rfl)⟩) hP hD hS hA (is := []) rfl rfl (fun H locs hP hD hS => ?_)
  rw [putW_nil] at hP hD
  have hP : va_P D vwCl (rfW cI b u) H := hP
  have hD : va_D A (rfW cI b u) := hD
  exact W.zret (v := isI q 0 ((nI (r_n u)) - 1)) hx hb hr (isI_z _ _ _) (fun t ht hW => ⟨⟨(isI q 0 ((nI (r_n u)) - 1)), (), rfl, by rfl, by rw [ht]; exact hP, hD⟩, hS.F ht⟩) hS.2.2 dX5_isModel_11

set_option maxHeartbeats 4000000 in
set_option maxRecDepth 100000 in
theorem c_X5_clear (l : Launch) (D : va_G) (cI cL cM : ClassId) (A : Nat → Prop) (b : Nat → Nat) (u : RS)  : mV l yX5_clear wsX5_clear ({ frames := 0, cells := 0, slots := 0, locals := 0 }) D (tB cI cL cM) A [.ref (b 0)] (rfW cI b u) (rfW cI b (r_clr u)) := by
  refine Met.ofW (cc := cX5_clear) (maxL := 2) (ret := none) (by decide) rfl ?_
  intro p e s m args below meth c s₁ B hml hv
  obtain ⟨rfl, hP, hE, hD, hA⟩ := hv
  have hK := hE.1
  have hx := B.exec
  have hb := B.bytes
  have hr := B.returns
  have hts := atoms_spec (ws := wsX5_clear) B.pre
  have hown : s.vm.findClass RX5 = some m.cls := findClass_of_methodNamed B.named
  have hlocks := B.notSynchronized
  have hS : va_S A s.heap s.heap [] := va_S.rf
  have hl := lv_entry ([.ref (b 0)]) (n := 2) (Nat.le_of_ble_eq_true rfl)
  rw [lg_entry_eq]
  generalize (lg_sl ([.ref (b 0)]) ++ List.replicate (2 - (lg_sl ([.ref (b 0)])).length) Slot.unset).toArray = ls at hl ⊢
  have hl : lv_has ls 2 [(0, .ref (b 0))] := hl
  refine lv_iconst (v := 0) hx hb dX5_clear_0 (by decide) ?_
  refine lv_istore_n (lv' := [(1, .int 0), (0, .ref (b 0))]) hx hb dX5_clear_1 rfl hl (by decide) rfl (fun ls hl => ?_)
  have lp2 : ∀ (n9 : Nat) (j : Nat) (v1 : RS) (hj : j ≤ 3072) (hv1 : v1 = clr1 u j), 3072 - j < n9 → ∀ (H : Heap) (locs : List Loc), va_P D vwCl (rfW cI b v1) H → va_D A (rfW cI b v1) → va_S A s.heap H locs → ∀ (ls : Array Slot), lv_has ls 2 [(1, .int (nI j)), (0, .ref (b 0))] → W p l e (headSpec wsX5_clear ({ frames := 0, cells := 0, slots := 0, locals := 0 })).room s m (([.ref (b 0)] : List Value).toArray) below meth c H locs 0 0 (MQ below (va_Qv (fun (_ : Unit) => True) (fun _ t => hq D A (rfW cI b (r_clr u)) t) A) (([.ref (b 0)] : List Value).toArray) s 0 0 A) (F0 m 2 ls []) := by
    intro n9
    induction n9 with
    | zero => intro j v1 hj hv1 hm9; exact absurd hm9 (Nat.not_lt_zero _)
    | succ n9 ih_lp2 =>
      intro j v1 hj hv1 hm9 H locs hP hD hS ls hl
      refine lv_iload_n hx hb dX5_clear_2 rfl (lv_at hl 0 rfl) ?_
      refine lv_sipush (v := 3072) hx hb dX5_clear_3 (by decide) ?_
      refine lv_icmp_ge (tgt := 31) hx hb dX5_clear_6 (by decide) (fun cj => ?_) (fun cj => ?_)
      · have cj : (3072 : Int32) ≤ (nI j) := cj
        have hjn : j = 3072 := Nat.le_antisymm hj (ge_N (a := 3072) (Nat.le_of_ble_eq_true rfl) (Nat.lt_of_le_of_lt hj (Nat.le_of_ble_eq_true rfl)) cj)
        rw [hjn] at hv1
        refine lv_iconst (v := 0) hx hb dX5_clear_31 (by decide) ?_
        refine lv_istore_n (lv' := [(1, .int 0), (0, .ref (b 0))]) hx hb dX5_clear_32 rfl hl (by decide) rfl (fun ls hl => ?_)
        have lp33 : ∀ (n9 : Nat) (j : Nat) (v2 : RS) (hj : j ≤ 48) (hv2 : v2 = clr2 v1 j), 48 - j < n9 → ∀ (H : Heap) (locs : List Loc), va_P D vwCl (rfW cI b v2) H → va_D A (rfW cI b v2) → va_S A s.heap H locs → ∀ (ls : Array Slot), lv_has ls 2 [(1, .int (nI j)), (0, .ref (b 0))] → W p l e (headSpec wsX5_clear ({ frames := 0, cells := 0, slots := 0, locals := 0 })).room s m (([.ref (b 0)] : List Value).toArray) below meth c H locs 0 0 (MQ below (va_Qv (fun (_ : Unit) => True) (fun _ t => hq D A (rfW cI b (r_clr u)) t) A) (([.ref (b 0)] : List Value).toArray) s 0 0 A) (F0 m 33 ls []) := by
          intro n9
          induction n9 with
          | zero => intro j v2 hj hv2 hm9; exact absurd hm9 (Nat.not_lt_zero _)
          | succ n9 ih_lp33 =>
            intro j v2 hj hv2 hm9 H locs hP hD hS ls hl
            refine lv_iload_n hx hb dX5_clear_33 rfl (lv_at hl 0 rfl) ?_
            refine lv_bipush (v := 48) hx hb dX5_clear_34 (by decide) ?_
            refine lv_icmp_ge (tgt := 54) hx hb dX5_clear_36 (by decide) (fun cj => ?_) (fun cj => ?_)
            · have cj : (48 : Int32) ≤ (nI j) := cj
              have hjn : j = 48 := Nat.le_antisymm hj (ge_N (a := 48) (Nat.le_of_ble_eq_true rfl) (Nat.lt_of_le_of_lt hj (Nat.le_of_ble_eq_true rfl)) cj)
              rw [hjn] at hv2
              refine lv_iconst (v := 0) hx hb dX5_clear_54 (by decide) ?_
              refine lv_istore_n (lv' := [(1, .int 0), (0, .ref (b 0))]) hx hb dX5_clear_55 rfl hl (by decide) rfl (fun ls hl => ?_)
              have lp56 : ∀ (n9 : Nat) (j : Nat) (v3 : RS) (hj : j ≤ 6) (hv3 : v3 = clr3 v2 j), 6 - j < n9 → ∀ (H : Heap) (locs : List Loc), va_P D vwCl (rfW cI b v3) H → va_D A (rfW cI b v3) → va_S A s.heap H locs → ∀ (ls : Array Slot), lv_has ls 2 [(1, .int (nI j)), (0, .ref (b 0))] → W p l e (headSpec wsX5_clear ({ frames := 0, cells := 0, slots := 0, locals := 0 })).room s m (([.ref (b 0)] : List Value).toArray) below meth c H locs 0 0 (MQ below (va_Qv (fun (_ : Unit) => True) (fun _ t => hq D A (rfW cI b (r_clr u)) t) A) (([.ref (b 0)] : List Value).toArray) s 0 0 A) (F0 m 56 ls []) := by
                intro n9
                induction n9 with
                | zero => intro j v3 hj hv3 hm9; exact absurd hm9 (Nat.not_lt_zero _)
                | succ n9 ih_lp56 =>
                  intro j v3 hj hv3 hm9 H locs hP hD hS ls hl
                  refine lv_iload_n hx hb dX5_clear_56 rfl (lv_at hl 0 rfl) ?_
                  refine lv_bipush (v := 6) hx hb dX5_clear_57 (by decide) ?_
                  refine lv_icmp_ge (tgt := 75) hx hb dX5_clear_59 (by decide) (fun cj => ?_) (fun cj => ?_)
                  · have cj : (6 : Int32) ≤ (nI j) := cj
                    have hjn : j = 6 := Nat.le_antisymm hj (ge_N (a := 6) (Nat.le_of_ble_eq_true rfl) (Nat.lt_of_le_of_lt hj (Nat.le_of_ble_eq_true rfl)) cj)
                    rw [hjn] at hv3
                    refine lv_iconst (v := 0) hx hb dX5_clear_75 (by decide) ?_
                    refine lv_istore_n (lv' := [(1, .int 0), (0, .ref (b 0))]) hx hb dX5_clear_76 rfl hl (by decide) rfl (fun ls hl => ?_)
                    have lp77 : ∀ (n9 : Nat) (j : Nat) (v4 : RS) (hj : j ≤ 3) (hv4 : v4 = clr4 v3 j), 3 - j < n9 → ∀ (H : Heap) (locs : List Loc), va_P D vwCl (rfW cI b v4) H → va_D A (rfW cI b v4) → va_S A s.heap H locs → ∀ (ls : Array Slot), lv_has ls 2 [(1, .int (nI j)), (0, .ref (b 0))] → W p l e (headSpec wsX5_clear ({ frames := 0, cells := 0, slots := 0, locals := 0 })).room s m (([.ref (b 0)] : List Value).toArray) below meth c H locs 0 0 (MQ below (va_Qv (fun (_ : Unit) => True) (fun _ t => hq D A (rfW cI b (r_clr u)) t) A) (([.ref (b 0)] : List Value).toArray) s 0 0 A) (F0 m 77 ls []) := by
                      intro n9
                      induction n9 with
                      | zero => intro j v4 hj hv4 hm9; exact absurd hm9 (Nat.not_lt_zero _)
                      | succ n9 ih_lp77 =>
                        intro j v4 hj hv4 hm9 H locs hP hD hS ls hl
                        refine lv_iload_n hx hb dX5_clear_77 rfl (lv_at hl 0 rfl) ?_
                        refine lv_iconst (v := 3) hx hb dX5_clear_78 (by decide) ?_
                        refine lv_icmp_ge (tgt := 95) hx hb dX5_clear_79 (by decide) (fun cj => ?_) (fun cj => ?_)
                        · have cj : (3 : Int32) ≤ (nI j) := cj
                          have hjn : j = 3 := Nat.le_antisymm hj (ge_N (a := 3) (Nat.le_of_ble_eq_true rfl) (Nat.lt_of_le_of_lt hj (Nat.le_of_ble_eq_true rfl)) cj)
                          rw [hjn] at hv4
                          refine lv_aload_n hx hb dX5_clear_95 rfl (lv_at hl 1 rfl) ?_
                          refine lv_iconst (v := 1) hx hb dX5_clear_96 (by decide) ?_
                          refine topI (y := nI 1) rfl ?_
                          refine va_put (D := D) (ci := 5) (v := .int (nI 1)) (ty := .int) (C := RX5) (T := TX5) (N := 22) hx hb hts (fun _ h => List.mem_cons_of_mem _ (List.mem_append_right _ h)) tyX5 tyX5_ok nmX5 hown hK hP hD hS 0 rfl rfl 13 (by decide) (hts _ (List.mem_of_getElem? (i := 6) rfl)) (fun _ h9 => h9) rfl (by decide +kernel) rfl rfl (Nat.le_of_ble_eq_true rfl) dX5_clear_97 (fun H locs hP hD hS => ?_)
                          rw [rfW_nd] at hP hD
                          have hP : va_P D vwCl (rfW cI b (rs_nd v4 1)) H := hP
                          have hD : va_D A (rfW cI b (rs_nd v4 1)) := hD
                          refine lv_aload_n hx hb dX5_clear_100 rfl (lv_at hl 1 rfl) ?_
                          refine lv_iconst (v := 0) hx hb dX5_clear_101 (by decide) ?_
                          refine va_put (D := D) (ci := 5) (v := .int 0) (ty := .int) (C := RX5) (T := TX5) (N := 22) hx hb hts (fun _ h => List.mem_cons_of_mem _ (List.mem_append_right _ h)) tyX5 tyX5_ok nmX5 hown hK hP hD hS 0 rfl rfl 14 (by decide) (hts _ (List.mem_of_getElem? (i := 7) rfl)) (fun _ h9 => h9) rfl (by decide +kernel) rfl rfl (Nat.le_of_ble_eq_true rfl) dX5_clear_102 (fun H locs hP hD hS => ?_)
                          rw [rfW_ob] at hP hD
                          have hP : va_P D vwCl (rfW cI b (rs_ob (rs_nd v4 1) 0)) H := hP
                          have hD : va_D A (rfW cI b (rs_ob (rs_nd v4 1) 0)) := hD
                          refine lv_aload_n hx hb dX5_clear_105 rfl (lv_at hl 1 rfl) ?_
                          refine lv_lconst (v := 0) hx hb dX5_clear_106 (by decide) ?_
                          refine va_put (D := D) (ci := 5) (v := .long 0) (ty := .long) (C := RX5) (T := TX5) (N := 22) hx hb hts (fun _ h => List.mem_cons_of_mem _ (List.mem_append_right _ h)) tyX5 tyX5_ok nmX5 hown hK hP hD hS 0 rfl rfl 15 (by decide) (hts _ (List.mem_of_getElem? (i := 8) rfl)) (fun _ h9 => h9) rfl (by decide +kernel) rfl rfl (Nat.le_of_ble_eq_true rfl) dX5_clear_107 (fun H locs hP hD hS => ?_)
                          rw [rfW_er] at hP hD
                          have hP : va_P D vwCl (rfW cI b (rs_er (rs_ob (rs_nd v4 1) 0) 0)) H := hP
                          have hD : va_D A (rfW cI b (rs_er (rs_ob (rs_nd v4 1) 0) 0)) := hD
                          have hw9 : (rfW cI b (rs_er (rs_ob (rs_nd v4 1) 0) 0)) = (rfW cI b (r_clr u)) := by rw [hv4, hv3, hv2, hv1]; rfl
                          rw [hw9] at hP hD
                          exact W.vret hx hb hr (fun t ht hW => ⟨⟨(), rfl, trivial, by rw [ht]; exact hP, hD⟩, hS.F ht⟩) hS.2.2 dX5_clear_110
                        · have cj : ¬ (3 : Int32) ≤ (nI j) := cj
                          have hjn : j < 3 := nge_N (a := 3) (Nat.le_of_ble_eq_true rfl) (Nat.lt_of_le_of_lt hj (Nat.le_of_ble_eq_true rfl)) cj
                          refine lv_aload_n hx hb dX5_clear_82 rfl (lv_at hl 1 rfl) ?_
                          refine va_get (D := D) (ci := 5) (v := .ref (b 10)) (C := RX5) (T := TX5) (N := 22) hx hb hts (fun _ h => List.mem_cons_of_mem _ (List.mem_append_right _ h)) hown hK hP 0 rfl rfl 12 (by decide) (hts _ (List.mem_of_getElem? (i := 5) rfl)) (fun _ h9 => h9) rfl dX5_clear_83 ?_
                          refine lv_iload_n hx hb dX5_clear_86 rfl (lv_at hl 0 rfl) ?_
                          refine lv_iconst (v := 0) hx hb dX5_clear_87 (by decide) ?_
                          refine istN hx hb hK hP hD hS 10 0 rfl rfl j (hjn) ((Nat.le_of_ble_eq_true rfl)) dX5_clear_88 (fun H locs hP hD hS => ?_)
                          rw [rfW_hi] at hP hD
                          have hP : va_P D vwCl (rfW cI b (rs_hi v4 (upd (r_hi v4) j 0))) H := hP
                          have hD : va_D A (rfW cI b (rs_hi v4 (upd (r_hi v4) j 0))) := hD
                          refine lv_iinc (v := nI (j + 1)) (lv' := [(1, .int (nI (j + 1))), (0, .ref (b 0))]) hx hb dX5_clear_89 hl (k := 0) rfl (nI_1 _) (by decide) rfl (fun ls hl => ?_)
                          refine lv_goto (tgt := 77) hx hb dX5_clear_92 (by decide) ?_
                          exact ih_lp77 (j + 1) (rs_hi v4 (upd (r_hi v4) j 0)) (hjn) (by rw [hv4]; exact clr4_s v3 j) (loopm hm9 hjn) _ _ hP hD hS ls (lv_sub hl [0, 1] rfl)
                    exact lp77 _ 0 v3 (Nat.zero_le _) (clr4_0 v3) (Nat.lt_succ_self _) _ _ hP hD hS ls (lv_sub hl [0, 1] rfl)
                  · have cj : ¬ (6 : Int32) ≤ (nI j) := cj
                    have hjn : j < 6 := nge_N (a := 6) (Nat.le_of_ble_eq_true rfl) (Nat.lt_of_le_of_lt hj (Nat.le_of_ble_eq_true rfl)) cj
                    refine lv_aload_n hx hb dX5_clear_62 rfl (lv_at hl 1 rfl) ?_
                    refine va_get (D := D) (ci := 5) (v := .ref (b 9)) (C := RX5) (T := TX5) (N := 22) hx hb hts (fun _ h => List.mem_cons_of_mem _ (List.mem_append_right _ h)) hown hK hP 0 rfl rfl 11 (by decide) (hts _ (List.mem_of_getElem? (i := 4) rfl)) (fun _ h9 => h9) rfl dX5_clear_63 ?_
                    refine lv_iload_n hx hb dX5_clear_66 rfl (lv_at hl 0 rfl) ?_
                    refine lv_iconst (v := 0) hx hb dX5_clear_67 (by decide) ?_
                    refine istN hx hb hK hP hD hS 9 0 rfl rfl j (hjn) ((Nat.le_of_ble_eq_true rfl)) dX5_clear_68 (fun H locs hP hD hS => ?_)
                    rw [rfW_cl] at hP hD
                    have hP : va_P D vwCl (rfW cI b (rs_cl v3 (upd (r_cl v3) j 0))) H := hP
                    have hD : va_D A (rfW cI b (rs_cl v3 (upd (r_cl v3) j 0))) := hD
                    refine lv_iinc (v := nI (j + 1)) (lv' := [(1, .int (nI (j + 1))), (0, .ref (b 0))]) hx hb dX5_clear_69 hl (k := 0) rfl (nI_1 _) (by decide) rfl (fun ls hl => ?_)
                    refine lv_goto (tgt := 56) hx hb dX5_clear_72 (by decide) ?_
                    exact ih_lp56 (j + 1) (rs_cl v3 (upd (r_cl v3) j 0)) (hjn) (by rw [hv3]; exact clr3_s v2 j) (loopm hm9 hjn) _ _ hP hD hS ls (lv_sub hl [0, 1] rfl)
              exact lp56 _ 0 v2 (Nat.zero_le _) (clr3_0 v2) (Nat.lt_succ_self _) _ _ hP hD hS ls (lv_sub hl [0, 1] rfl)
            · have cj : ¬ (48 : Int32) ≤ (nI j) := cj
              have hjn : j < 48 := nge_N (a := 48) (Nat.le_of_ble_eq_true rfl) (Nat.lt_of_le_of_lt hj (Nat.le_of_ble_eq_true rfl)) cj
              refine lv_aload_n hx hb dX5_clear_39 rfl (lv_at hl 1 rfl) ?_
              refine va_get (D := D) (ci := 5) (v := .ref (b 8)) (C := RX5) (T := TX5) (N := 22) hx hb hts (fun _ h => List.mem_cons_of_mem _ (List.mem_append_right _ h)) hown hK hP 0 rfl rfl 10 (by decide) (hts _ (List.mem_of_getElem? (i := 3) rfl)) (fun _ h9 => h9) rfl dX5_clear_40 ?_
              refine lv_iload_n hx hb dX5_clear_43 rfl (lv_at hl 0 rfl) ?_
              refine lv_sipush (v := 256) hx hb dX5_clear_44 (by decide) ?_
              refine istN hx hb hK hP hD hS 8 0 rfl rfl j (hjn) ((Nat.le_of_ble_eq_true rfl)) dX5_clear_47 (fun H locs hP hD hS => ?_)
              rw [rfW_we] at hP hD
              have hP : va_P D vwCl (rfW cI b (rs_we v2 (upd (r_we v2) j 256))) H := hP
              have hD : va_D A (rfW cI b (rs_we v2 (upd (r_we v2) j 256))) := hD
              refine lv_iinc (v := nI (j + 1)) (lv' := [(1, .int (nI (j + 1))), (0, .ref (b 0))]) hx hb dX5_clear_48 hl (k := 0) rfl (nI_1 _) (by decide) rfl (fun ls hl => ?_)
              refine lv_goto (tgt := 33) hx hb dX5_clear_51 (by decide) ?_
              exact ih_lp33 (j + 1) (rs_we v2 (upd (r_we v2) j 256)) (hjn) (by rw [hv2]; exact clr2_s v1 j) (loopm hm9 hjn) _ _ hP hD hS ls (lv_sub hl [0, 1] rfl)
        exact lp33 _ 0 v1 (Nat.zero_le _) (clr2_0 v1) (Nat.lt_succ_self _) _ _ hP hD hS ls (lv_sub hl [0, 1] rfl)
      · have cj : ¬ (3072 : Int32) ≤ (nI j) := cj
        have hjn : j < 3072 := nge_N (a := 3072) (Nat.le_of_ble_eq_true rfl) (Nat.lt_of_le_of_lt hj (Nat.le_of_ble_eq_true rfl)) cj
        refine lv_aload_n hx hb dX5_clear_9 rfl (lv_at hl 1 rfl) ?_
        refine va_get (D := D) (ci := 5) (v := .ref (b 5)) (C := RX5) (T := TX5) (N := 22) hx hb hts (fun _ h => List.mem_cons_of_mem _ (List.mem_append_right _ h)) hown hK hP 0 rfl rfl 7 (by decide) (hts _ (List.mem_of_getElem? (i := 1) rfl)) (fun _ h9 => h9) rfl dX5_clear_10 ?_
        refine lv_iload_n hx hb dX5_clear_13 rfl (lv_at hl 0 rfl) ?_
        refine lv_sipush (v := 2048) hx hb dX5_clear_14 (by decide) ?_
        refine istN hx hb hK hP hD hS 5 0 rfl rfl j (hjn) ((Nat.le_of_ble_eq_true rfl)) dX5_clear_17 (fun H locs hP hD hS => ?_)
        rw [rfW_co] at hP hD
        have hP : va_P D vwCl (rfW cI b (rs_co v1 (upd (r_co v1) j 2048))) H := hP
        have hD : va_D A (rfW cI b (rs_co v1 (upd (r_co v1) j 2048))) := hD
        refine lv_aload_n hx hb dX5_clear_18 rfl (lv_at hl 1 rfl) ?_
        refine va_get (D := D) (ci := 5) (v := .ref (b 7)) (C := RX5) (T := TX5) (N := 22) hx hb hts (fun _ h => List.mem_cons_of_mem _ (List.mem_append_right _ h)) hown hK hP 0 rfl rfl 9 (by decide) (hts _ (List.mem_of_getElem? (i := 2) rfl)) (fun _ h9 => h9) rfl dX5_clear_19 ?_
        refine lv_iload_n hx hb dX5_clear_22 rfl (lv_at hl 0 rfl) ?_
        refine lv_iconst (v := 0) hx hb dX5_clear_23 (by decide) ?_
        refine istN hx hb hK hP hD hS 7 0 rfl rfl j (hjn) ((Nat.le_of_ble_eq_true rfl)) dX5_clear_24 (fun H locs hP hD hS => ?_)
        rw [rfW_ln] at hP hD
        have hP : va_P D vwCl (rfW cI b (rs_ln (rs_co v1 (upd (r_co v1) j 2048)) (upd (r_ln v1) j 0))) H := hP
        have hD : va_D A (rfW cI b (rs_ln (rs_co v1 (upd (r_co v1) j 2048)) (upd (r_ln v1) j 0))) := hD
        refine lv_iinc (v := nI (j + 1)) (lv' := [(1, .int (nI (j + 1))), (0, .ref (b 0))]) hx hb dX5_clear_25 hl (k := 0) rfl (nI_1 _) (by decide) rfl (fun ls hl => ?_)
        refine lv_goto (tgt := 2) hx hb dX5_clear_28 (by decide) ?_
        exact ih_lp2 (j + 1) (rs_ln (rs_co v1 (upd (r_co v1) j 2048)) (upd (r_ln v1) j 0)) (hjn) (by rw [hv1]; exact clr1_s u j) (loopm hm9 hjn) _ _ hP hD hS ls (lv_sub hl [0, 1] rfl)
  exact lp2 _ 0 u (Nat.zero_le _) (clr1_0 u) (Nat.lt_succ_self _) _ _ hP hD hS ls (lv_sub hl [0, 1] rfl)

set_option maxHeartbeats 4000000 in
set_option maxRecDepth 100000 in
theorem c_X5_context (l : Launch) (D : va_G) (cI cL cM : ClassId) (A : Nat → Prop) (b : Nat → Nat) (u : RS) (j : Nat) (hj : j < 6) (hod : r_od u j ≤ 3) : mI l yX5_context wsX5_context ({ frames := 0, cells := 0, slots := 0, locals := 0 }) D (tB cI cL cM) A [.ref (b 0), .int (nI j)] (rfW cI b u) (r_ctx u j) (rfW cI b u) := by
  refine Met.ofW (cc := cX5_context) (maxL := 4) (ret := (some .int)) (by decide) rfl ?_
  intro p e s m args below meth c s₁ B hml hv
  obtain ⟨rfl, hP, hE, hD, hA⟩ := hv
  have hK := hE.1
  have hx := B.exec
  have hb := B.bytes
  have hr := B.returns
  have hts := atoms_spec (ws := wsX5_context) B.pre
  have hown : s.vm.findClass RX5 = some m.cls := findClass_of_methodNamed B.named
  have hlocks := B.notSynchronized
  have hS : va_S A s.heap s.heap [] := va_S.rf
  have hl := lv_entry ([.ref (b 0), .int (nI j)]) (n := 4) (Nat.le_of_ble_eq_true rfl)
  rw [lg_entry_eq]
  generalize (lg_sl ([.ref (b 0), .int (nI j)]) ++ List.replicate (4 - (lg_sl ([.ref (b 0), .int (nI j)])).length) Slot.unset).toArray = ls at hl ⊢
  have hl : lv_has ls 4 [(0, .ref (b 0)), (1, .int (nI j))] := hl
  refine lv_iconst (v := 0) hx hb dX5_context_0 (by decide) ?_
  refine lv_istore_n (lv' := [(2, .int 0), (0, .ref (b 0)), (1, .int (nI j))]) hx hb dX5_context_1 rfl hl (by decide) rfl (fun ls hl => ?_)
  refine lv_iconst (v := 0) hx hb dX5_context_2 (by decide) ?_
  refine lv_istore_n (lv' := [(3, .int 0), (2, .int 0), (0, .ref (b 0)), (1, .int (nI j))]) hx hb dX5_context_3 rfl hl (by decide) rfl (fun ls hl => ?_)
  refine lv_iload_n hx hb dX5_context_4 rfl (lv_at hl 0 rfl) ?_
  refine lv_aload_n hx hb dX5_context_5 rfl (lv_at hl 2 rfl) ?_
  refine va_get (D := D) (ci := 5) (v := .ref (b 1)) (C := RX5) (T := TX5) (N := 22) hx hb hts (fun _ h => List.mem_cons_of_mem _ (List.mem_append_right _ h)) hown hK hP 0 rfl rfl 2 (by decide) (hts _ (List.mem_of_getElem? (i := 1) rfl)) (fun _ h9 => h9) rfl dX5_context_6 ?_
  refine lv_iload_n hx hb dX5_context_9 rfl (lv_at hl 3 rfl) ?_
  refine ildN hx hb hK hP 1 0 rfl rfl j (hj) ((Nat.le_of_ble_eq_true rfl)) dX5_context_10 ?_
  refine lv_icmp_ge (tgt := 35) hx hb dX5_context_11 (by decide) (fun c_1 => ?_) (fun c_1 => ?_)
  · have c_1 : ((r_od u) j) ≤ (0 : Int32) := c_1
    refine lv_iload_n hx hb dX5_context_35 rfl (lv_at hl 1 rfl) ?_
    exact W.iret (v := 0) hx hb hr (fun t ht hW => ⟨⟨0, (), rfl, by (try unfold r_ctx); (try unfold ctxOf); (try rw [if_pos c_1]); try rfl, by rw [ht]; exact hP, hD⟩, hS.F ht⟩) hS.2.2 dX5_context_36
  · have c_1 : ¬ ((r_od u) j) ≤ (0 : Int32) := c_1
    refine lv_sipush (v := 257) hx hb dX5_context_14 (by decide) ?_
    refine lv_iload_n hx hb dX5_context_17 rfl (lv_at hl 1 rfl) ?_
    refine lv_imul hx hb dX5_context_18 ?_
    refine topI (y := 0) (by decide) ?_
    refine lv_iconst (v := 1) hx hb dX5_context_19 (by decide) ?_
    refine lv_iadd hx hb dX5_context_20 ?_
    refine topI (y := 1) (by decide) ?_
    refine lv_aload_n hx hb dX5_context_21 rfl (lv_at hl 2 rfl) ?_
    refine va_get (D := D) (ci := 5) (v := .ref (b 10)) (C := RX5) (T := TX5) (N := 22) hx hb hts (fun _ h => List.mem_cons_of_mem _ (List.mem_append_right _ h)) hown hK hP 0 rfl rfl 12 (by decide) (hts _ (List.mem_of_getElem? (i := 2) rfl)) (fun _ h9 => h9) rfl dX5_context_22 ?_
    refine lv_iload_n hx hb dX5_context_25 rfl (lv_at hl 0 rfl) ?_
    refine ildN hx hb hK hP 10 0 rfl rfl 0 (by decide) ((Nat.le_of_ble_eq_true rfl)) dX5_context_26 ?_
    refine lv_iadd hx hb dX5_context_27 ?_
    refine lv_istore_n (lv' := [(2, .int (1 + ((r_hi u) 0))), (3, .int 0), (0, .ref (b 0)), (1, .int (nI j))]) hx hb dX5_context_28 rfl hl (by decide) rfl (fun ls hl => ?_)
    refine lv_iinc (v := 1) (lv' := [(3, .int 1), (2, .int (1 + ((r_hi u) 0))), (0, .ref (b 0)), (1, .int (nI j))]) hx hb dX5_context_29 hl (k := 1) rfl (by decide) (by decide) rfl (fun ls hl => ?_)
    refine lv_goto (tgt := 4) hx hb dX5_context_32 (by decide) ?_
    refine lv_iload_n hx hb dX5_context_4 rfl (lv_at hl 0 rfl) ?_
    refine lv_aload_n hx hb dX5_context_5 rfl (lv_at hl 2 rfl) ?_
    refine va_get (D := D) (ci := 5) (v := .ref (b 1)) (C := RX5) (T := TX5) (N := 22) hx hb hts (fun _ h => List.mem_cons_of_mem _ (List.mem_append_right _ h)) hown hK hP 0 rfl rfl 2 (by decide) (hts _ (List.mem_of_getElem? (i := 1) rfl)) (fun _ h9 => h9) rfl dX5_context_6 ?_
    refine lv_iload_n hx hb dX5_context_9 rfl (lv_at hl 3 rfl) ?_
    refine ildN hx hb hK hP 1 0 rfl rfl j (hj) ((Nat.le_of_ble_eq_true rfl)) dX5_context_10 ?_
    refine lv_icmp_ge (tgt := 35) hx hb dX5_context_11 (by decide) (fun c_2 => ?_) (fun c_2 => ?_)
    · have c_2 : ((r_od u) j) ≤ (1 : Int32) := c_2
      refine lv_iload_n hx hb dX5_context_35 rfl (lv_at hl 1 rfl) ?_
      exact W.iret (v := 1 + ((r_hi u) 0)) hx hb hr (fun t ht hW => ⟨⟨(1 + ((r_hi u) 0)), (), rfl, by (try unfold r_ctx); (try unfold ctxOf); (try rw [if_neg c_1]); (try rw [if_pos c_2]); try rfl, by rw [ht]; exact hP, hD⟩, hS.F ht⟩) hS.2.2 dX5_context_36
    · have c_2 : ¬ ((r_od u) j) ≤ (1 : Int32) := c_2
      refine lv_sipush (v := 257) hx hb dX5_context_14 (by decide) ?_
      refine lv_iload_n hx hb dX5_context_17 rfl (lv_at hl 1 rfl) ?_
      refine lv_imul hx hb dX5_context_18 ?_
      refine lv_iconst (v := 1) hx hb dX5_context_19 (by decide) ?_
      refine lv_iadd hx hb dX5_context_20 ?_
      refine lv_aload_n hx hb dX5_context_21 rfl (lv_at hl 2 rfl) ?_
      refine va_get (D := D) (ci := 5) (v := .ref (b 10)) (C := RX5) (T := TX5) (N := 22) hx hb hts (fun _ h => List.mem_cons_of_mem _ (List.mem_append_right _ h)) hown hK hP 0 rfl rfl 12 (by decide) (hts _ (List.mem_of_getElem? (i := 2) rfl)) (fun _ h9 => h9) rfl dX5_context_22 ?_
      refine lv_iload_n hx hb dX5_context_25 rfl (lv_at hl 0 rfl) ?_
      refine ildN hx hb hK hP 10 0 rfl rfl 1 (by decide) ((Nat.le_of_ble_eq_true rfl)) dX5_context_26 ?_
      refine lv_iadd hx hb dX5_context_27 ?_
      refine lv_istore_n (lv' := [(2, .int (((257 * (1 + ((r_hi u) 0))) + 1) + ((r_hi u) 1))), (3, .int 1), (0, .ref (b 0)), (1, .int (nI j))]) hx hb dX5_context_28 rfl hl (by decide) rfl (fun ls hl => ?_)
      refine lv_iinc (v := 2) (lv' := [(3, .int 2), (2, .int (((257 * (1 + ((r_hi u) 0))) + 1) + ((r_hi u) 1))), (0, .ref (b 0)), (1, .int (nI j))]) hx hb dX5_context_29 hl (k := 1) rfl (by decide) (by decide) rfl (fun ls hl => ?_)
      refine lv_goto (tgt := 4) hx hb dX5_context_32 (by decide) ?_
      refine lv_iload_n hx hb dX5_context_4 rfl (lv_at hl 0 rfl) ?_
      refine lv_aload_n hx hb dX5_context_5 rfl (lv_at hl 2 rfl) ?_
      refine va_get (D := D) (ci := 5) (v := .ref (b 1)) (C := RX5) (T := TX5) (N := 22) hx hb hts (fun _ h => List.mem_cons_of_mem _ (List.mem_append_right _ h)) hown hK hP 0 rfl rfl 2 (by decide) (hts _ (List.mem_of_getElem? (i := 1) rfl)) (fun _ h9 => h9) rfl dX5_context_6 ?_
      refine lv_iload_n hx hb dX5_context_9 rfl (lv_at hl 3 rfl) ?_
      refine ildN hx hb hK hP 1 0 rfl rfl j (hj) ((Nat.le_of_ble_eq_true rfl)) dX5_context_10 ?_
      refine lv_icmp_ge (tgt := 35) hx hb dX5_context_11 (by decide) (fun c_3 => ?_) (fun c_3 => ?_)
      · have c_3 : ((r_od u) j) ≤ (2 : Int32) := c_3
        refine lv_iload_n hx hb dX5_context_35 rfl (lv_at hl 1 rfl) ?_
        exact W.iret (v := ((257 * (1 + ((r_hi u) 0))) + 1) + ((r_hi u) 1)) hx hb hr (fun t ht hW => ⟨⟨(((257 * (1 + ((r_hi u) 0))) + 1) + ((r_hi u) 1)), (), rfl, by (try unfold r_ctx); (try unfold ctxOf); (try rw [if_neg c_1]); (try rw [if_neg c_2]); (try rw [if_pos c_3]); try rfl, by rw [ht]; exact hP, hD⟩, hS.F ht⟩) hS.2.2 dX5_context_36
      · have c_3 : ¬ ((r_od u) j) ≤ (2 : Int32) := c_3
        refine lv_sipush (v := 257) hx hb dX5_context_14 (by decide) ?_
        refine lv_iload_n hx hb dX5_context_17 rfl (lv_at hl 1 rfl) ?_
        refine lv_imul hx hb dX5_context_18 ?_
        refine lv_iconst (v := 1) hx hb dX5_context_19 (by decide) ?_
        refine lv_iadd hx hb dX5_context_20 ?_
        refine lv_aload_n hx hb dX5_context_21 rfl (lv_at hl 2 rfl) ?_
        refine va_get (D := D) (ci := 5) (v := .ref (b 10)) (C := RX5) (T := TX5) (N := 22) hx hb hts (fun _ h => List.mem_cons_of_mem _ (List.mem_append_right _ h)) hown hK hP 0 rfl rfl 12 (by decide) (hts _ (List.mem_of_getElem? (i := 2) rfl)) (fun _ h9 => h9) rfl dX5_context_22 ?_
        refine lv_iload_n hx hb dX5_context_25 rfl (lv_at hl 0 rfl) ?_
        refine ildN hx hb hK hP 10 0 rfl rfl 2 (by decide) ((Nat.le_of_ble_eq_true rfl)) dX5_context_26 ?_
        refine lv_iadd hx hb dX5_context_27 ?_
        refine lv_istore_n (lv' := [(2, .int (((257 * (((257 * (1 + ((r_hi u) 0))) + 1) + ((r_hi u) 1))) + 1) + ((r_hi u) 2))), (3, .int 2), (0, .ref (b 0)), (1, .int (nI j))]) hx hb dX5_context_28 rfl hl (by decide) rfl (fun ls hl => ?_)
        refine lv_iinc (v := 3) (lv' := [(3, .int 3), (2, .int (((257 * (((257 * (1 + ((r_hi u) 0))) + 1) + ((r_hi u) 1))) + 1) + ((r_hi u) 2))), (0, .ref (b 0)), (1, .int (nI j))]) hx hb dX5_context_29 hl (k := 1) rfl (by decide) (by decide) rfl (fun ls hl => ?_)
        refine lv_goto (tgt := 4) hx hb dX5_context_32 (by decide) ?_
        refine lv_iload_n hx hb dX5_context_4 rfl (lv_at hl 0 rfl) ?_
        refine lv_aload_n hx hb dX5_context_5 rfl (lv_at hl 2 rfl) ?_
        refine va_get (D := D) (ci := 5) (v := .ref (b 1)) (C := RX5) (T := TX5) (N := 22) hx hb hts (fun _ h => List.mem_cons_of_mem _ (List.mem_append_right _ h)) hown hK hP 0 rfl rfl 2 (by decide) (hts _ (List.mem_of_getElem? (i := 1) rfl)) (fun _ h9 => h9) rfl dX5_context_6 ?_
        refine lv_iload_n hx hb dX5_context_9 rfl (lv_at hl 3 rfl) ?_
        refine ildN hx hb hK hP 1 0 rfl rfl j (hj) ((Nat.le_of_ble_eq_true rfl)) dX5_context_10 ?_
        refine lv_icmp_ge (tgt := 35) hx hb dX5_context_11 (by decide) (fun c_4 => ?_) (fun c_4 => absurd (hod) c_4)
        refine lv_iload_n hx hb dX5_context_35 rfl (lv_at hl 1 rfl) ?_
        exact W.iret (v := ((257 * (((257 * (1 + ((r_hi u) 0))) + 1) + ((r_hi u) 1))) + 1) + ((r_hi u) 2)) hx hb hr (fun t ht hW => ⟨⟨(((257 * (((257 * (1 + ((r_hi u) 0))) + 1) + ((r_hi u) 1))) + 1) + ((r_hi u) 2)), (), rfl, by (try unfold r_ctx); (try unfold ctxOf); (try rw [if_neg c_1]); (try rw [if_neg c_2]); (try rw [if_neg c_3]); try rfl, by rw [ht]; exact hP, hD⟩, hS.F ht⟩) hS.2.2 dX5_context_36

set_option maxHeartbeats 4000000 in
set_option maxRecDepth 100000 in
theorem c_X5_indexOf (l : Launch) (D : va_G) (cI cL cM : ClassId) (A : Nat → Prop) (b : Nat → Nat) (u : RS) (j : Nat) (hj : j < 6) (hod : r_od u j ≤ 3) (hlo : ¬ ((1 : Int32) <<< (r_lo u j &&& 31) = 0)) : mI l yX5_indexOf wsX5_indexOf ({ frames := 1, cells := 0, slots := 0, locals := 23 }) D (tB cI cL cM) A [.ref (b 0), .int (nI j)] (rfW cI b u) (r_ix u j) (rfW cI b u) := by
  refine Met.ofW (cc := cX5_indexOf) (maxL := 2) (ret := (some .int)) (by decide) rfl ?_
  intro p e s m args below meth c s₁ B hml hv
  obtain ⟨rfl, hP, hE, hD, hA⟩ := hv
  have hK := hE.1
  have hx := B.exec
  have hb := B.bytes
  have hr := B.returns
  have hts := atoms_spec (ws := wsX5_indexOf) B.pre
  have hown : s.vm.findClass RX5 = some m.cls := findClass_of_methodNamed B.named
  have hlocks := B.notSynchronized
  have hS : va_S A s.heap s.heap [] := va_S.rf
  have hl := lv_entry ([.ref (b 0), .int (nI j)]) (n := 2) (Nat.le_of_ble_eq_true rfl)
  rw [lg_entry_eq]
  generalize (lg_sl ([.ref (b 0), .int (nI j)]) ++ List.replicate (2 - (lg_sl ([.ref (b 0), .int (nI j)])).length) Slot.unset).toArray = ls at hl ⊢
  have hl : lv_has ls 2 [(0, .ref (b 0)), (1, .int (nI j))] := hl
  refine lv_bipush (v := 73) hx hb dX5_indexOf_0 (by decide) ?_
  refine lv_aload_n hx hb dX5_indexOf_2 rfl (lv_at hl 0 rfl) ?_
  refine lv_iload_n hx hb dX5_indexOf_3 rfl (lv_at hl 1 rfl) ?_
  refine kIa (rVa (As := [.int (nI j)]) (rest := [.int 73]) ⟨hx, hb, hml, hown, hts⟩ (c_X5_context l D cI cL cM _ b u j hj hod) (cwV 1 hts gX5_indexOf_X5_context rfl rfl rfl (by decide +kernel) ⟨(Nat.le_of_ble_eq_true rfl), (Nat.le_of_ble_eq_true rfl)⟩) hE hP hD hS hA 0 rfl rfl rfl hl.1 rfl (Nat.le_of_ble_eq_true rfl) dX5_indexOf_4 ⟨(Nat.le_of_ble_eq_true rfl), (Nat.le_of_ble_eq_true rfl)⟩) hS (fun H locs hP hD hS => ?_)
  have hP : va_P D vwCl (rfW cI b u) H := hP
  have hD : va_D A (rfW cI b u) := hD
  refine lv_imul hx hb dX5_indexOf_7 ?_
  refine lv_aload_n hx hb dX5_indexOf_8 rfl (lv_at hl 0 rfl) ?_
  refine va_get (D := D) (ci := 5) (v := .int (nI (r_nd u))) (C := RX5) (T := TX5) (N := 22) hx hb hts (fun _ h => List.mem_cons_of_mem _ (List.mem_append_right _ h)) hown hK hP 0 rfl rfl 13 (by decide) (hts _ (List.mem_of_getElem? (i := 1) rfl)) (fun _ h9 => h9) rfl dX5_indexOf_9 ?_
  refine lv_iadd hx hb dX5_indexOf_12 ?_
  refine lv_iconst (v := 1) hx hb dX5_indexOf_13 (by decide) ?_
  refine lv_aload_n hx hb dX5_indexOf_14 rfl (lv_at hl 0 rfl) ?_
  refine va_get (D := D) (ci := 5) (v := .ref (b 3)) (C := RX5) (T := TX5) (N := 22) hx hb hts (fun _ h => List.mem_cons_of_mem _ (List.mem_append_right _ h)) hown hK hP 0 rfl rfl 4 (by decide) (hts _ (List.mem_of_getElem? (i := 2) rfl)) (fun _ h9 => h9) rfl dX5_indexOf_15 ?_
  refine lv_iload_n hx hb dX5_indexOf_18 rfl (lv_at hl 1 rfl) ?_
  refine ildN hx hb hK hP 3 0 rfl rfl j (hj) ((Nat.le_of_ble_eq_true rfl)) dX5_indexOf_19 ?_
  refine lv_ishl hx hb dX5_indexOf_20 ?_
  refine lv_irem hx hb dX5_indexOf_21 (hlo) ?_
  exact W.iret (v := ((73 * (r_ctx u j)) + (nI (r_nd u))) - ((73 * (r_ctx u j)) + (nI (r_nd u))) / ((1 : Int32) <<< (((r_lo u) j) &&& 31)) * ((1 : Int32) <<< (((r_lo u) j) &&& 31))) hx hb hr (fun t ht hW => ⟨⟨(((73 * (r_ctx u j)) + (nI (r_nd u))) - ((73 * (r_ctx u j)) + (nI (r_nd u))) / ((1 : Int32) <<< (((r_lo u) j) &&& 31)) * ((1 : Int32) <<< (((r_lo u) j) &&& 31))), (), rfl, by rfl, by rw [ht]; exact hP, hD⟩, hS.F ht⟩) hS.2.2 dX5_indexOf_22

set_option maxHeartbeats 4000000 in
set_option maxRecDepth 100000 in
theorem c_X5_predictionOf (l : Launch) (D : va_G) (cI cL cM : ClassId) (A : Nat → Prop) (b : Nat → Nat) (u : RS) (j : Nat) (hj : j < 6) (hod : r_od u j ≤ 3) (hlo : ¬ ((1 : Int32) <<< (r_lo u j &&& 31) = 0)) (hix : vp_in (r_ix u j) 512) : mI l yX5_predictionOf wsX5_predictionOf ({ frames := 2, cells := 0, slots := 0, locals := 44 }) D (tB cI cL cM) A [.ref (b 0), .int (nI j)] (rfW cI b u) (r_g u j) (rfW cI b u) := by
  refine Met.ofW (cc := cX5_predictionOf) (maxL := 2) (ret := (some .int)) (by decide) rfl ?_
  intro p e s m args below meth c s₁ B hml hv
  obtain ⟨rfl, hP, hE, hD, hA⟩ := hv
  have hK := hE.1
  have hx := B.exec
  have hb := B.bytes
  have hr := B.returns
  have hts := atoms_spec (ws := wsX5_predictionOf) B.pre
  have hown : s.vm.findClass RX5 = some m.cls := findClass_of_methodNamed B.named
  have hlocks := B.notSynchronized
  have hS : va_S A s.heap s.heap [] := va_S.rf
  have hl := lv_entry ([.ref (b 0), .int (nI j)]) (n := 2) (Nat.le_of_ble_eq_true rfl)
  rw [lg_entry_eq]
  generalize (lg_sl ([.ref (b 0), .int (nI j)]) ++ List.replicate (2 - (lg_sl ([.ref (b 0), .int (nI j)])).length) Slot.unset).toArray = ls at hl ⊢
  have hl : lv_has ls 2 [(0, .ref (b 0)), (1, .int (nI j))] := hl
  refine lv_aload_n hx hb dX5_predictionOf_0 rfl (lv_at hl 0 rfl) ?_
  refine va_get (D := D) (ci := 5) (v := .ref (b 5)) (C := RX5) (T := TX5) (N := 22) hx hb hts (fun _ h => List.mem_cons_of_mem _ (List.mem_append_right _ h)) hown hK hP 0 rfl rfl 7 (by decide) (hts _ (List.mem_of_getElem? (i := 1) rfl)) (fun _ h9 => h9) rfl dX5_predictionOf_1 ?_
  refine lv_sipush (v := 512) hx hb dX5_predictionOf_4 (by decide) ?_
  refine lv_iload_n hx hb dX5_predictionOf_7 rfl (lv_at hl 1 rfl) ?_
  refine lv_imul hx hb dX5_predictionOf_8 ?_
  refine lv_aload_n hx hb dX5_predictionOf_9 rfl (lv_at hl 0 rfl) ?_
  refine lv_iload_n hx hb dX5_predictionOf_10 rfl (lv_at hl 1 rfl) ?_
  refine kIa (rVa (As := [.int (nI j)]) (rest := [.int (512 * (nI j)), .ref (b 5)]) ⟨hx, hb, hml, hown, hts⟩ (c_X5_indexOf l D cI cL cM _ b u j hj hod hlo) (cwV 1 hts gX5_predictionOf_X5_indexOf rfl rfl rfl (by decide +kernel) ⟨(Nat.le_of_ble_eq_true rfl), (Nat.le_of_ble_eq_true rfl)⟩) hE hP hD hS hA 0 rfl rfl rfl hl.1 rfl (Nat.le_of_ble_eq_true rfl) dX5_predictionOf_11 ⟨(Nat.le_of_ble_eq_true rfl), (Nat.le_of_ble_eq_true rfl)⟩) hS (fun H locs hP hD hS => ?_)
  have hP : va_P D vwCl (rfW cI b u) H := hP
  have hD : va_D A (rfW cI b u) := hD
  refine lv_iadd hx hb dX5_predictionOf_14 ?_
  refine va_iald hx hb hK hP 5 0 rfl rfl (ixA hj hix) dX5_predictionOf_15 ?_
  exact W.iret (v := (r_co u) ((512 * (nI j)) + (r_ix u j)).toNatClampNeg) hx hb hr (fun t ht hW => ⟨⟨((r_co u) ((512 * (nI j)) + (r_ix u j)).toNatClampNeg), (), rfl, by rw [ixN hj hix]; rfl, by rw [ht]; exact hP, hD⟩, hS.F ht⟩) hS.2.2 dX5_predictionOf_16

set_option maxHeartbeats 4000000 in
set_option maxRecDepth 100000 in
theorem c_X5_phase (l : Launch) (D : va_G) (cI cL cM : ClassId) (A : Nat → Prop) (b : Nat → Nat) (u : RS) (hnd : r_nd u < 256) : mI l yX5_phase wsX5_phase ({ frames := 0, cells := 0, slots := 0, locals := 0 }) D (tB cI cL cM) A [.ref (b 0)] (rfW cI b u) (nI (phN (r_nd u))) (rfW cI b u) := by
  refine Met.ofW (cc := cX5_phase) (maxL := 2) (ret := (some .int)) (by decide) rfl ?_
  intro p e s m args below meth c s₁ B hml hv
  obtain ⟨rfl, hP, hE, hD, hA⟩ := hv
  have hK := hE.1
  have hx := B.exec
  have hb := B.bytes
  have hr := B.returns
  have hts := atoms_spec (ws := wsX5_phase) B.pre
  have hown : s.vm.findClass RX5 = some m.cls := findClass_of_methodNamed B.named
  have hlocks := B.notSynchronized
  have hS : va_S A s.heap s.heap [] := va_S.rf
  have hl := lv_entry ([.ref (b 0)]) (n := 2) (Nat.le_of_ble_eq_true rfl)
  rw [lg_entry_eq]
  generalize (lg_sl ([.ref (b 0)]) ++ List.replicate (2 - (lg_sl ([.ref (b 0)])).length) Slot.unset).toArray = ls at hl ⊢
  have hl : lv_has ls 2 [(0, .ref (b 0))] := hl
  refine lv_iconst (v := 0) hx hb dX5_phase_0 (by decide) ?_
  refine lv_istore_n (lv' := [(1, .int 0), (0, .ref (b 0))]) hx hb dX5_phase_1 rfl hl (by decide) rfl (fun ls hl => ?_)
  refine lv_aload_n hx hb dX5_phase_2 rfl (lv_at hl 1 rfl) ?_
  refine va_get (D := D) (ci := 5) (v := .int (nI (r_nd u))) (C := RX5) (T := TX5) (N := 22) hx hb hts (fun _ h => List.mem_cons_of_mem _ (List.mem_append_right _ h)) hown hK hP 0 rfl rfl 13 (by decide) (hts _ (List.mem_of_getElem? (i := 1) rfl)) (fun _ h9 => h9) rfl dX5_phase_3 ?_
  refine lv_iload_n hx hb dX5_phase_6 rfl (lv_at hl 0 rfl) ?_
  refine lv_ishr hx hb dX5_phase_7 ?_
  refine topI (y := nI (r_nd u / 1)) (pk_shrN (by omega) _ 0 (by decide)) ?_
  refine lv_iconst (v := 1) hx hb dX5_phase_8 (by decide) ?_
  refine lv_icmp_le (tgt := 18) hx hb dX5_phase_9 (by decide) (fun cp => ?_) (fun cp => ?_)
  · have cp : (nI (r_nd u / 1)) ≤ (1 : Int32) := cp
    have c9 := ge_N (b := 1) (by omega) (by omega) cp
    refine lv_iload_n hx hb dX5_phase_18 rfl (lv_at hl 0 rfl) ?_
    exact W.iret (v := 0) hx hb hr (fun t ht hW => ⟨⟨0, (), rfl, by (rw [show phN (r_nd u) = 0 from by unfold phN; (repeat' split) <;> omega]; rfl), by rw [ht]; exact hP, hD⟩, hS.F ht⟩) hS.2.2 dX5_phase_19
  · have cp : ¬ (nI (r_nd u / 1)) ≤ (1 : Int32) := cp
    have c9 := nge_N (b := 1) (by omega) (by omega) cp
    refine lv_iinc (v := 1) (lv' := [(1, .int 1), (0, .ref (b 0))]) hx hb dX5_phase_12 hl (k := 0) rfl (by decide) (by decide) rfl (fun ls hl => ?_)
    refine lv_goto (tgt := 2) hx hb dX5_phase_15 (by decide) ?_
    refine lv_aload_n hx hb dX5_phase_2 rfl (lv_at hl 1 rfl) ?_
    refine va_get (D := D) (ci := 5) (v := .int (nI (r_nd u))) (C := RX5) (T := TX5) (N := 22) hx hb hts (fun _ h => List.mem_cons_of_mem _ (List.mem_append_right _ h)) hown hK hP 0 rfl rfl 13 (by decide) (hts _ (List.mem_of_getElem? (i := 1) rfl)) (fun _ h9 => h9) rfl dX5_phase_3 ?_
    refine lv_iload_n hx hb dX5_phase_6 rfl (lv_at hl 0 rfl) ?_
    refine lv_ishr hx hb dX5_phase_7 ?_
    refine topI (y := nI (r_nd u / 2)) (pk_shrN (by omega) _ 1 (by decide)) ?_
    refine lv_iconst (v := 1) hx hb dX5_phase_8 (by decide) ?_
    refine lv_icmp_le (tgt := 18) hx hb dX5_phase_9 (by decide) (fun cp => ?_) (fun cp => ?_)
    · have cp : (nI (r_nd u / 2)) ≤ (1 : Int32) := cp
      have c9 := ge_N (b := 1) (by omega) (by omega) cp
      refine lv_iload_n hx hb dX5_phase_18 rfl (lv_at hl 0 rfl) ?_
      exact W.iret (v := 1) hx hb hr (fun t ht hW => ⟨⟨1, (), rfl, by (rw [show phN (r_nd u) = 1 from by unfold phN; (repeat' split) <;> omega]; rfl), by rw [ht]; exact hP, hD⟩, hS.F ht⟩) hS.2.2 dX5_phase_19
    · have cp : ¬ (nI (r_nd u / 2)) ≤ (1 : Int32) := cp
      have c9 := nge_N (b := 1) (by omega) (by omega) cp
      refine lv_iinc (v := 2) (lv' := [(1, .int 2), (0, .ref (b 0))]) hx hb dX5_phase_12 hl (k := 0) rfl (by decide) (by decide) rfl (fun ls hl => ?_)
      refine lv_goto (tgt := 2) hx hb dX5_phase_15 (by decide) ?_
      refine lv_aload_n hx hb dX5_phase_2 rfl (lv_at hl 1 rfl) ?_
      refine va_get (D := D) (ci := 5) (v := .int (nI (r_nd u))) (C := RX5) (T := TX5) (N := 22) hx hb hts (fun _ h => List.mem_cons_of_mem _ (List.mem_append_right _ h)) hown hK hP 0 rfl rfl 13 (by decide) (hts _ (List.mem_of_getElem? (i := 1) rfl)) (fun _ h9 => h9) rfl dX5_phase_3 ?_
      refine lv_iload_n hx hb dX5_phase_6 rfl (lv_at hl 0 rfl) ?_
      refine lv_ishr hx hb dX5_phase_7 ?_
      refine topI (y := nI (r_nd u / 4)) (pk_shrN (by omega) _ 2 (by decide)) ?_
      refine lv_iconst (v := 1) hx hb dX5_phase_8 (by decide) ?_
      refine lv_icmp_le (tgt := 18) hx hb dX5_phase_9 (by decide) (fun cp => ?_) (fun cp => ?_)
      · have cp : (nI (r_nd u / 4)) ≤ (1 : Int32) := cp
        have c9 := ge_N (b := 1) (by omega) (by omega) cp
        refine lv_iload_n hx hb dX5_phase_18 rfl (lv_at hl 0 rfl) ?_
        exact W.iret (v := 2) hx hb hr (fun t ht hW => ⟨⟨2, (), rfl, by (rw [show phN (r_nd u) = 2 from by unfold phN; (repeat' split) <;> omega]; rfl), by rw [ht]; exact hP, hD⟩, hS.F ht⟩) hS.2.2 dX5_phase_19
      · have cp : ¬ (nI (r_nd u / 4)) ≤ (1 : Int32) := cp
        have c9 := nge_N (b := 1) (by omega) (by omega) cp
        refine lv_iinc (v := 3) (lv' := [(1, .int 3), (0, .ref (b 0))]) hx hb dX5_phase_12 hl (k := 0) rfl (by decide) (by decide) rfl (fun ls hl => ?_)
        refine lv_goto (tgt := 2) hx hb dX5_phase_15 (by decide) ?_
        refine lv_aload_n hx hb dX5_phase_2 rfl (lv_at hl 1 rfl) ?_
        refine va_get (D := D) (ci := 5) (v := .int (nI (r_nd u))) (C := RX5) (T := TX5) (N := 22) hx hb hts (fun _ h => List.mem_cons_of_mem _ (List.mem_append_right _ h)) hown hK hP 0 rfl rfl 13 (by decide) (hts _ (List.mem_of_getElem? (i := 1) rfl)) (fun _ h9 => h9) rfl dX5_phase_3 ?_
        refine lv_iload_n hx hb dX5_phase_6 rfl (lv_at hl 0 rfl) ?_
        refine lv_ishr hx hb dX5_phase_7 ?_
        refine topI (y := nI (r_nd u / 8)) (pk_shrN (by omega) _ 3 (by decide)) ?_
        refine lv_iconst (v := 1) hx hb dX5_phase_8 (by decide) ?_
        refine lv_icmp_le (tgt := 18) hx hb dX5_phase_9 (by decide) (fun cp => ?_) (fun cp => ?_)
        · have cp : (nI (r_nd u / 8)) ≤ (1 : Int32) := cp
          have c9 := ge_N (b := 1) (by omega) (by omega) cp
          refine lv_iload_n hx hb dX5_phase_18 rfl (lv_at hl 0 rfl) ?_
          exact W.iret (v := 3) hx hb hr (fun t ht hW => ⟨⟨3, (), rfl, by (rw [show phN (r_nd u) = 3 from by unfold phN; (repeat' split) <;> omega]; rfl), by rw [ht]; exact hP, hD⟩, hS.F ht⟩) hS.2.2 dX5_phase_19
        · have cp : ¬ (nI (r_nd u / 8)) ≤ (1 : Int32) := cp
          have c9 := nge_N (b := 1) (by omega) (by omega) cp
          refine lv_iinc (v := 4) (lv' := [(1, .int 4), (0, .ref (b 0))]) hx hb dX5_phase_12 hl (k := 0) rfl (by decide) (by decide) rfl (fun ls hl => ?_)
          refine lv_goto (tgt := 2) hx hb dX5_phase_15 (by decide) ?_
          refine lv_aload_n hx hb dX5_phase_2 rfl (lv_at hl 1 rfl) ?_
          refine va_get (D := D) (ci := 5) (v := .int (nI (r_nd u))) (C := RX5) (T := TX5) (N := 22) hx hb hts (fun _ h => List.mem_cons_of_mem _ (List.mem_append_right _ h)) hown hK hP 0 rfl rfl 13 (by decide) (hts _ (List.mem_of_getElem? (i := 1) rfl)) (fun _ h9 => h9) rfl dX5_phase_3 ?_
          refine lv_iload_n hx hb dX5_phase_6 rfl (lv_at hl 0 rfl) ?_
          refine lv_ishr hx hb dX5_phase_7 ?_
          refine topI (y := nI (r_nd u / 16)) (pk_shrN (by omega) _ 4 (by decide)) ?_
          refine lv_iconst (v := 1) hx hb dX5_phase_8 (by decide) ?_
          refine lv_icmp_le (tgt := 18) hx hb dX5_phase_9 (by decide) (fun cp => ?_) (fun cp => ?_)
          · have cp : (nI (r_nd u / 16)) ≤ (1 : Int32) := cp
            have c9 := ge_N (b := 1) (by omega) (by omega) cp
            refine lv_iload_n hx hb dX5_phase_18 rfl (lv_at hl 0 rfl) ?_
            exact W.iret (v := 4) hx hb hr (fun t ht hW => ⟨⟨4, (), rfl, by (rw [show phN (r_nd u) = 4 from by unfold phN; (repeat' split) <;> omega]; rfl), by rw [ht]; exact hP, hD⟩, hS.F ht⟩) hS.2.2 dX5_phase_19
          · have cp : ¬ (nI (r_nd u / 16)) ≤ (1 : Int32) := cp
            have c9 := nge_N (b := 1) (by omega) (by omega) cp
            refine lv_iinc (v := 5) (lv' := [(1, .int 5), (0, .ref (b 0))]) hx hb dX5_phase_12 hl (k := 0) rfl (by decide) (by decide) rfl (fun ls hl => ?_)
            refine lv_goto (tgt := 2) hx hb dX5_phase_15 (by decide) ?_
            refine lv_aload_n hx hb dX5_phase_2 rfl (lv_at hl 1 rfl) ?_
            refine va_get (D := D) (ci := 5) (v := .int (nI (r_nd u))) (C := RX5) (T := TX5) (N := 22) hx hb hts (fun _ h => List.mem_cons_of_mem _ (List.mem_append_right _ h)) hown hK hP 0 rfl rfl 13 (by decide) (hts _ (List.mem_of_getElem? (i := 1) rfl)) (fun _ h9 => h9) rfl dX5_phase_3 ?_
            refine lv_iload_n hx hb dX5_phase_6 rfl (lv_at hl 0 rfl) ?_
            refine lv_ishr hx hb dX5_phase_7 ?_
            refine topI (y := nI (r_nd u / 32)) (pk_shrN (by omega) _ 5 (by decide)) ?_
            refine lv_iconst (v := 1) hx hb dX5_phase_8 (by decide) ?_
            refine lv_icmp_le (tgt := 18) hx hb dX5_phase_9 (by decide) (fun cp => ?_) (fun cp => ?_)
            · have cp : (nI (r_nd u / 32)) ≤ (1 : Int32) := cp
              have c9 := ge_N (b := 1) (by omega) (by omega) cp
              refine lv_iload_n hx hb dX5_phase_18 rfl (lv_at hl 0 rfl) ?_
              exact W.iret (v := 5) hx hb hr (fun t ht hW => ⟨⟨5, (), rfl, by (rw [show phN (r_nd u) = 5 from by unfold phN; (repeat' split) <;> omega]; rfl), by rw [ht]; exact hP, hD⟩, hS.F ht⟩) hS.2.2 dX5_phase_19
            · have cp : ¬ (nI (r_nd u / 32)) ≤ (1 : Int32) := cp
              have c9 := nge_N (b := 1) (by omega) (by omega) cp
              refine lv_iinc (v := 6) (lv' := [(1, .int 6), (0, .ref (b 0))]) hx hb dX5_phase_12 hl (k := 0) rfl (by decide) (by decide) rfl (fun ls hl => ?_)
              refine lv_goto (tgt := 2) hx hb dX5_phase_15 (by decide) ?_
              refine lv_aload_n hx hb dX5_phase_2 rfl (lv_at hl 1 rfl) ?_
              refine va_get (D := D) (ci := 5) (v := .int (nI (r_nd u))) (C := RX5) (T := TX5) (N := 22) hx hb hts (fun _ h => List.mem_cons_of_mem _ (List.mem_append_right _ h)) hown hK hP 0 rfl rfl 13 (by decide) (hts _ (List.mem_of_getElem? (i := 1) rfl)) (fun _ h9 => h9) rfl dX5_phase_3 ?_
              refine lv_iload_n hx hb dX5_phase_6 rfl (lv_at hl 0 rfl) ?_
              refine lv_ishr hx hb dX5_phase_7 ?_
              refine topI (y := nI (r_nd u / 64)) (pk_shrN (by omega) _ 6 (by decide)) ?_
              refine lv_iconst (v := 1) hx hb dX5_phase_8 (by decide) ?_
              refine lv_icmp_le (tgt := 18) hx hb dX5_phase_9 (by decide) (fun cp => ?_) (fun cp => ?_)
              · have cp : (nI (r_nd u / 64)) ≤ (1 : Int32) := cp
                have c9 := ge_N (b := 1) (by omega) (by omega) cp
                refine lv_iload_n hx hb dX5_phase_18 rfl (lv_at hl 0 rfl) ?_
                exact W.iret (v := 6) hx hb hr (fun t ht hW => ⟨⟨6, (), rfl, by (rw [show phN (r_nd u) = 6 from by unfold phN; (repeat' split) <;> omega]; rfl), by rw [ht]; exact hP, hD⟩, hS.F ht⟩) hS.2.2 dX5_phase_19
              · have cp : ¬ (nI (r_nd u / 64)) ≤ (1 : Int32) := cp
                have c9 := nge_N (b := 1) (by omega) (by omega) cp
                refine lv_iinc (v := 7) (lv' := [(1, .int 7), (0, .ref (b 0))]) hx hb dX5_phase_12 hl (k := 0) rfl (by decide) (by decide) rfl (fun ls hl => ?_)
                refine lv_goto (tgt := 2) hx hb dX5_phase_15 (by decide) ?_
                refine lv_aload_n hx hb dX5_phase_2 rfl (lv_at hl 1 rfl) ?_
                refine va_get (D := D) (ci := 5) (v := .int (nI (r_nd u))) (C := RX5) (T := TX5) (N := 22) hx hb hts (fun _ h => List.mem_cons_of_mem _ (List.mem_append_right _ h)) hown hK hP 0 rfl rfl 13 (by decide) (hts _ (List.mem_of_getElem? (i := 1) rfl)) (fun _ h9 => h9) rfl dX5_phase_3 ?_
                refine lv_iload_n hx hb dX5_phase_6 rfl (lv_at hl 0 rfl) ?_
                refine lv_ishr hx hb dX5_phase_7 ?_
                refine topI (y := nI (r_nd u / 128)) (pk_shrN (by omega) _ 7 (by decide)) ?_
                refine lv_iconst (v := 1) hx hb dX5_phase_8 (by decide) ?_
                refine lv_icmp_le (tgt := 18) hx hb dX5_phase_9 (by decide) (fun cp => ?_) (fun cp => absurd ((nI_leI (b := 1) (by omega) (by omega)).mpr (by omega)) cp)
                refine lv_iload_n hx hb dX5_phase_18 rfl (lv_at hl 0 rfl) ?_
                exact W.iret (v := 7) hx hb hr (fun t ht hW => ⟨⟨7, (), rfl, by (rw [show phN (r_nd u) = 7 from by unfold phN; (repeat' split) <;> omega]; rfl), by rw [ht]; exact hP, hD⟩, hS.F ht⟩) hS.2.2 dX5_phase_19

set_option maxHeartbeats 4000000 in
set_option maxRecDepth 100000 in
theorem c_X5_mix (l : Launch) (D : va_G) (cI cL cM : ClassId) (A : Nat → Prop) (b : Nat → Nat) (u : RS) (hs : RSf u) (hT : ¬ r_n u = 0 → ¬ sumTL (r_w u) (r_n u) = 0) : mI l yX5_mix wsX5_mix ({ frames := 3, cells := 0, slots := 0, locals := 65 }) D (tB cI cL cM) A [.ref (b 0)] (rfW cI b u) (r_mx u) (rfW cI b u) := by
  refine Met.ofW (cc := cX5_mix) (maxL := 7) (ret := (some .int)) (by decide) rfl ?_
  intro p e s m args below meth c s₁ B hml hv
  obtain ⟨rfl, hP, hE, hD, hA⟩ := hv
  have hK := hE.1
  have hx := B.exec
  have hb := B.bytes
  have hr := B.returns
  have hts := atoms_spec (ws := wsX5_mix) B.pre
  have hown : s.vm.findClass RX5 = some m.cls := findClass_of_methodNamed B.named
  have hlocks := B.notSynchronized
  have hS : va_S A s.heap s.heap [] := va_S.rf
  have hl := lv_entry ([.ref (b 0)]) (n := 7) (Nat.le_of_ble_eq_true rfl)
  rw [lg_entry_eq]
  generalize (lg_sl ([.ref (b 0)]) ++ List.replicate (7 - (lg_sl ([.ref (b 0)])).length) Slot.unset).toArray = ls at hl ⊢
  have hl : lv_has ls 7 [(0, .ref (b 0))] := hl
  obtain ⟨hn6, hnd, hnd0, hsj⟩ := id hs
  have hp8 := phN_lt (r_nd u)
  refine lv_aload_n hx hb dX5_mix_0 rfl (lv_at hl 0 rfl) ?_
  refine va_get (D := D) (ci := 5) (v := .int (nI (r_n u))) (C := RX5) (T := TX5) (N := 22) hx hb hts (fun _ h => List.mem_cons_of_mem _ (List.mem_append_right _ h)) hown hK hP 0 rfl rfl 1 (by decide) (hts _ (List.mem_of_getElem? (i := 1) rfl)) (fun _ h9 => h9) rfl dX5_mix_1 ?_
  refine lv_if_ne (tgt := 11) hx hb dX5_mix_4 (by decide) (fun cn => ?_) (fun cn => ?_)
  · have cn : ¬ (nI (r_n u)) = (0 : Int32) := cn
    have hn0 : ¬ r_n u = 0 := fun h9 => cn (by rw [h9]; rfl)
    refine lv_lconst (v := 0) hx hb dX5_mix_11 (by decide) ?_
    refine lv_lstore_n (lv' := [(1, .long 0), (0, .ref (b 0))]) hx hb dX5_mix_12 rfl hl (by decide) rfl (fun ls hl => ?_)
    refine lv_lconst (v := 0) hx hb dX5_mix_13 (by decide) ?_
    refine lv_lstore_n (lv' := [(3, .long 0), (1, .long 0), (0, .ref (b 0))]) hx hb dX5_mix_14 rfl hl (by decide) rfl (fun ls hl => ?_)
    refine lv_iconst (v := 0) hx hb dX5_mix_15 (by decide) ?_
    refine lv_istore (lv' := [(5, .int 0), (3, .long 0), (1, .long 0), (0, .ref (b 0))]) hx hb dX5_mix_16 hl (by decide) rfl (fun ls hl => ?_)
    have lp18 : ∀ (n9 : Nat) (j : Nat) (hj0 : j ≤ r_n u), r_n u - j < n9 → ∀ (H : Heap) (locs : List Loc), va_P D vwCl (rfW cI b u) H → va_D A (rfW cI b u) → va_S A s.heap H locs → ∀ (ls : Array Slot), lv_has ls 7 [(5, .int (nI j)), (3, .long (sumTL (r_w u) j)), (1, .long (sumPL (r_w u) (r_g u) j)), (0, .ref (b 0))] → W p l e (headSpec wsX5_mix ({ frames := 3, cells := 0, slots := 0, locals := 65 })).room s m (([.ref (b 0)] : List Value).toArray) below meth c H locs 0 0 (MQ below (va_Qi (fun x (_ : Unit) => x = (r_mx u)) (fun _ t => hq D A (rfW cI b u) t) A) (([.ref (b 0)] : List Value).toArray) s 0 0 A) (F0 m 18 ls []) := by
      intro n9
      induction n9 with
      | zero => intro j hj0 hm9; exact absurd hm9 (Nat.not_lt_zero _)
      | succ n9 ih_lp18 =>
        intro j hj0 hm9 H locs hP hD hS ls hl
        refine lv_iload hx hb dX5_mix_18 (lv_at hl 0 rfl) ?_
        refine lv_aload_n hx hb dX5_mix_20 rfl (lv_at hl 3 rfl) ?_
        refine va_get (D := D) (ci := 5) (v := .int (nI (r_n u))) (C := RX5) (T := TX5) (N := 22) hx hb hts (fun _ h => List.mem_cons_of_mem _ (List.mem_append_right _ h)) hown hK hP 0 rfl rfl 1 (by decide) (hts _ (List.mem_of_getElem? (i := 1) rfl)) (fun _ h9 => h9) rfl dX5_mix_21 ?_
        refine lv_icmp_ge (tgt := 70) hx hb dX5_mix_24 (by decide) (fun cj => ?_) (fun cj => ?_)
        · have cj : (nI (r_n u)) ≤ (nI j) := cj
          have hjn : j = r_n u := by have h8 := ge_N (by omega) (by omega) cj; omega
          rw [hjn] at hl
          refine lv_lconst (v := 1) hx hb dX5_mix_70 (by decide) ?_
          refine lv_ldc2 hx hb hown (hts _ (List.mem_of_getElem? (i := 3) rfl)) dX5_mix_71 ?_
          refine lv_lload_n hx hb dX5_mix_74 rfl (lv_at hl 2 rfl) ?_
          refine lv_lload_n hx hb dX5_mix_75 rfl (lv_at hl 1 rfl) ?_
          refine lv_ldiv hx hb dX5_mix_76 (hT hn0) ?_
          refine va_mmin_long hx hb (hml.trans hl.1.symm) hown (hts _ (List.mem_of_getElem? (i := 4) rfl)) (hts _ (List.mem_of_getElem? (i := 5) rfl)) (hts _ (List.mem_of_getElem? (i := 6) rfl)) (hts _ (List.mem_of_getElem? (i := 7) rfl)) (Nat.le_of_ble_eq_true rfl) (Nat.le_of_ble_eq_true rfl) (Nat.le_of_ble_eq_true rfl) (Nat.le_of_ble_eq_true rfl) dX5_mix_77 ?_
          refine va_mmax_long hx hb (hml.trans hl.1.symm) hown (hts _ (List.mem_of_getElem? (i := 8) rfl)) (hts _ (List.mem_of_getElem? (i := 9) rfl)) (hts _ (List.mem_of_getElem? (i := 6) rfl)) (hts _ (List.mem_of_getElem? (i := 10) rfl)) (Nat.le_of_ble_eq_true rfl) (Nat.le_of_ble_eq_true rfl) (Nat.le_of_ble_eq_true rfl) (Nat.le_of_ble_eq_true rfl) dX5_mix_80 ?_
          refine lv_l2i hx hb dX5_mix_83 rfl ?_
          exact W.iret (v := (if (if ((sumPL (r_w u) (r_g u) (r_n u)) / (sumTL (r_w u) (r_n u))) < (4095 : Int64) then ((sumPL (r_w u) (r_g u) (r_n u)) / (sumTL (r_w u) (r_n u))) else (4095 : Int64)) < (1 : Int64) then (1 : Int64) else (if ((sumPL (r_w u) (r_g u) (r_n u)) / (sumTL (r_w u) (r_n u))) < (4095 : Int64) then ((sumPL (r_w u) (r_g u) (r_n u)) / (sumTL (r_w u) (r_n u))) else (4095 : Int64))).toInt32) hx hb hr (fun t ht hW => ⟨⟨((if (if ((sumPL (r_w u) (r_g u) (r_n u)) / (sumTL (r_w u) (r_n u))) < (4095 : Int64) then ((sumPL (r_w u) (r_g u) (r_n u)) / (sumTL (r_w u) (r_n u))) else (4095 : Int64)) < (1 : Int64) then (1 : Int64) else (if ((sumPL (r_w u) (r_g u) (r_n u)) / (sumTL (r_w u) (r_n u))) < (4095 : Int64) then ((sumPL (r_w u) (r_g u) (r_n u)) / (sumTL (r_w u) (r_n u))) else (4095 : Int64))).toInt32), (), rfl, by (unfold r_mx; rw [if_neg hn0]; rfl), by rw [ht]; exact hP, hD⟩, hS.F ht⟩) hS.2.2 dX5_mix_84
        · have cj : ¬ (nI (r_n u)) ≤ (nI j) := cj
          have hjn : j < r_n u := nge_N (by omega) (by omega) cj
          have hj : j < 6 := by omega
          obtain ⟨hod, hlo, hix⟩ := hsj j hjn
          refine lv_aload_n hx hb dX5_mix_27 rfl (lv_at hl 3 rfl) ?_
          refine va_get (D := D) (ci := 5) (v := .ref (b 8)) (C := RX5) (T := TX5) (N := 22) hx hb hts (fun _ h => List.mem_cons_of_mem _ (List.mem_append_right _ h)) hown hK hP 0 rfl rfl 10 (by decide) (hts _ (List.mem_of_getElem? (i := 2) rfl)) (fun _ h9 => h9) rfl dX5_mix_28 ?_
          refine lv_bipush (v := 8) hx hb dX5_mix_31 (by decide) ?_
          refine lv_iload hx hb dX5_mix_33 (lv_at hl 0 rfl) ?_
          refine lv_imul hx hb dX5_mix_35 ?_
          refine lv_aload_n hx hb dX5_mix_36 rfl (lv_at hl 3 rfl) ?_
          refine kIa (rVa (As := []) (rest := [.int (8 * (nI j)), .ref (b 8)]) ⟨hx, hb, hml, hown, hts⟩ (c_X5_phase l D cI cL cM _ b u  hnd) (cwV 0 hts gX5_mix_X5_phase rfl rfl rfl (by decide +kernel) ⟨(Nat.le_of_ble_eq_true rfl), (Nat.le_of_ble_eq_true rfl)⟩) hE hP hD hS hA 0 rfl rfl rfl hl.1 rfl (Nat.le_of_ble_eq_true rfl) dX5_mix_37 ⟨(Nat.le_of_ble_eq_true rfl), (Nat.le_of_ble_eq_true rfl)⟩) hS (fun H locs hP hD hS => ?_)
          have hP : va_P D vwCl (rfW cI b u) H := hP
          have hD : va_D A (rfW cI b u) := hD
          refine lv_iadd hx hb dX5_mix_40 ?_
          refine topI (y := nI (8 * j + phN (r_nd u))) (wixN _ _) ?_
          refine ildN hx hb hK hP 8 0 rfl rfl (8 * j + phN (r_nd u)) (by omega) ((Nat.le_of_ble_eq_true rfl)) dX5_mix_41 ?_
          refine lv_istore (lv' := [(6, .int ((r_we u) (8 * j + phN (r_nd u)))), (5, .int (nI j)), (3, .long (sumTL (r_w u) j)), (1, .long (sumPL (r_w u) (r_g u) j)), (0, .ref (b 0))]) hx hb dX5_mix_42 hl (by decide) rfl (fun ls hl => ?_)
          refine lv_lload_n hx hb dX5_mix_44 rfl (lv_at hl 3 rfl) ?_
          refine lv_iload hx hb dX5_mix_45 (lv_at hl 0 rfl) ?_
          refine lv_i2l hx hb dX5_mix_47 rfl ?_
          refine lv_aload_n hx hb dX5_mix_48 rfl (lv_at hl 4 rfl) ?_
          refine lv_iload hx hb dX5_mix_49 (lv_at hl 1 rfl) ?_
          refine kIa (rVa (As := [.int (nI j)]) (rest := [.long (((r_we u) (8 * j + phN (r_nd u))).toInt64), .long (sumPL (r_w u) (r_g u) j)]) ⟨hx, hb, hml, hown, hts⟩ (c_X5_predictionOf l D cI cL cM _ b u j hj hod hlo hix) (cwV 1 hts gX5_mix_X5_predictionOf rfl rfl rfl (by decide +kernel) ⟨(Nat.le_of_ble_eq_true rfl), (Nat.le_of_ble_eq_true rfl)⟩) hE hP hD hS hA 0 rfl rfl rfl hl.1 rfl (Nat.le_of_ble_eq_true rfl) dX5_mix_51 ⟨(Nat.le_of_ble_eq_true rfl), (Nat.le_of_ble_eq_true rfl)⟩) hS (fun H locs hP hD hS => ?_)
          have hP : va_P D vwCl (rfW cI b u) H := hP
          have hD : va_D A (rfW cI b u) := hD
          refine lv_i2l hx hb dX5_mix_54 rfl ?_
          refine lv_lmul hx hb dX5_mix_55 ?_
          refine lv_ladd hx hb dX5_mix_56 ?_
          refine lv_lstore_n (lv' := [(1, .long ((sumPL (r_w u) (r_g u) j) + ((((r_we u) (8 * j + phN (r_nd u))).toInt64) * ((r_g u j).toInt64)))), (6, .int ((r_we u) (8 * j + phN (r_nd u)))), (5, .int (nI j)), (3, .long (sumTL (r_w u) j)), (0, .ref (b 0))]) hx hb dX5_mix_57 rfl hl (by decide) rfl (fun ls hl => ?_)
          refine lv_lload_n hx hb dX5_mix_58 rfl (lv_at hl 3 rfl) ?_
          refine lv_iload hx hb dX5_mix_59 (lv_at hl 1 rfl) ?_
          refine lv_i2l hx hb dX5_mix_61 rfl ?_
          refine lv_ladd hx hb dX5_mix_62 ?_
          refine lv_lstore_n (lv' := [(3, .long ((sumTL (r_w u) j) + (((r_we u) (8 * j + phN (r_nd u))).toInt64))), (1, .long ((sumPL (r_w u) (r_g u) j) + ((((r_we u) (8 * j + phN (r_nd u))).toInt64) * ((r_g u j).toInt64)))), (6, .int ((r_we u) (8 * j + phN (r_nd u)))), (5, .int (nI j)), (0, .ref (b 0))]) hx hb dX5_mix_63 rfl hl (by decide) rfl (fun ls hl => ?_)
          refine lv_iinc (v := nI (j + 1)) (lv' := [(5, .int (nI (j + 1))), (3, .long ((sumTL (r_w u) j) + (((r_we u) (8 * j + phN (r_nd u))).toInt64))), (1, .long ((sumPL (r_w u) (r_g u) j) + ((((r_we u) (8 * j + phN (r_nd u))).toInt64) * ((r_g u j).toInt64)))), (6, .int ((r_we u) (8 * j + phN (r_nd u)))), (0, .ref (b 0))]) hx hb dX5_mix_64 hl (k := 3) rfl (nI_1 _) (by decide) rfl (fun ls hl => ?_)
          refine lv_goto (tgt := 18) hx hb dX5_mix_67 (by decide) ?_
          exact ih_lp18 (j + 1) (by omega) (by omega) _ _ hP hD hS ls (lv_sub hl [0, 1, 2, 4] rfl)
    exact lp18 _ 0 (Nat.zero_le _) (Nat.lt_succ_self _) _ _ hP hD hS ls (lv_sub hl [0, 1, 2, 3] rfl)
  · have cn : (nI (r_n u)) = (0 : Int32) := cn
    have hn0 : r_n u = 0 := (nI_eq (b := 0) (by omega) (by omega)).mp cn
    refine lv_sipush (v := 2048) hx hb dX5_mix_7 (by decide) ?_
    exact W.iret (v := 2048) hx hb hr (fun t ht hW => ⟨⟨2048, (), rfl, by (unfold r_mx; rw [if_pos hn0]), by rw [ht]; exact hP, hD⟩, hS.F ht⟩) hS.2.2 dX5_mix_10
