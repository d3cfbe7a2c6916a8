/-! ===== the reference encodes ===== -/
abbrev PvT : Type := Nat × (Nat → Int32) × (Nat → Int32) × (Nat → Int32) × (Nat → Int32) × (Nat → Int32) × (Nat → Int32) × (Nat → Int32) × (Nat → Int32) × (Nat → Int32) × Nat
/-- what the predictor is made of -/
def pv (u : RS) : PvT := (r_n u, r_od u, r_ra u, r_lo u, r_co u, r_lc u, r_ln u, r_we u, r_cl u, r_hi u, r_nd u)
theorem pv_th (u : RS) (x : Int32) : pv (rs_th u x) = pv u := rfl
theorem pv_sz (u : RS) (x : Nat) : pv (rs_sz u x) = pv u := rfl
theorem pv_tx (u : RS) (x : Nat → Int32) : pv (rs_tx u x) = pv u := rfl
theorem pv_ob (u : RS) (x : Int32) : pv (rs_ob u x) = pv u := rfl
theorem pv_er (u : RS) (x : Int64) : pv (rs_er u x) = pv u := rfl
theorem pv_cs (u : RS) (x : Nat) : pv (rs_cs u x) = pv u := rfl
theorem pv_cd (u : RS) (x : Nat → Int32) : pv (rs_cd u x) = pv u := rfl
theorem pv_mk (u : RS) (x : Nat) : pv (rs_mk u x) = pv u := rfl
theorem pv_ou (u : RS) (x : Nat → Int32) : pv (rs_ou u x) = pv u := rfl
theorem pv_lw (u : RS) (x : Int64) : pv (rs_lw u x) = pv u := rfl
theorem pv_hg (u : RS) (x : Int64) : pv (rs_hg u x) = pv u := rfl
/-- an invariant of the predictor: what the walks need of it -/
def InvP (I : RS → Prop) : Prop := (∀ v, I v → RSf v ∧ RT v) ∧ (∀ v v', pv v = pv v' → I v' → I v) ∧ ∀ v z, I v → I (r_lrn z v)
def tpS (x : Int64) : Int32 := (x >>> ((24 : Int32).toInt64 &&& 63)).toInt32
def r_ps (v : RS) : RS := r_shf (r_put (tpS (r_lw v)) v)
def r_psn : Nat → RS → RS
  | 0, v => v
  | n + 1, v => r_ps (r_psn n v)
def r_wh : Nat → RS → RS
  | 0, v => v
  | n + 1, v => if r_sam v = 0 then v else r_wh n (r_ps v)
theorem r_wh_stop {v : RS} (h : r_sam v = 0) (n : Nat) : r_wh n v = v := by cases n with
  | zero => rfl
  | succ n => exact if_pos h
theorem r_wh_go {v : RS} (h : ¬ r_sam v = 0) {n : Nat} (hn : 1 ≤ n) : r_wh (n - 1) (r_ps v) = r_wh n v := by
  obtain ⟨j, rfl⟩ : ∃ j, n = j + 1 := ⟨n - 1, by omega⟩
  exact (if_neg h).symm
theorem r_psn_s {x : RS} {q : RS} {n : Nat} (hn : 1 ≤ n) (h4 : n ≤ 4) (h : x = r_psn (4 - n) q) : r_ps x = r_psn (4 - (n - 1)) q := by
  rw [show 4 - (n - 1) = (4 - n) + 1 from by omega, h]
  rfl
def zb (w : Int32) (k : Nat) : Int32 := if (w >>> (nI k &&& 31)) &&& 1 = 1 then 1 else 0
def r_bit (z : Int32) (v : RS) : RS := r_lrn z (r_wh 4 (r_prt z v))
def r_byt (w : Int32) : Nat → RS → RS
  | 0, v => v
  | k + 1, v => r_byt w k (r_bit (zb w k) v)
theorem r_byt_s {w : Int32} {k : Nat} {v v' : RS} (hk : 1 ≤ k) (h : r_bit (zb w (k - 1)) v = v') : r_byt w (k - 1) v' = r_byt w k v := by
  obtain ⟨j, rfl⟩ : ∃ j, k = j + 1 := ⟨k - 1, by omega⟩
  rw [← h]
  rfl
def r_enl (e : RS) : Nat → RS
  | 0 => e
  | k + 1 => r_byt (r_tx e k) 8 (r_enl e k)
def r_e1 (u : RS) : RS := rs_hg (rs_lw (rs_cs (r_clr (rs_th u 0)) 0) 0) 4294967295
def r_tl (k : Int32) (v : RS) : RS := r_put (((r_lw v >>> (k.toInt64 &&& 63)) &&& 255).toInt32) v
def r_enc (u : RS) : RS := r_tl 0 (r_tl 8 (r_tl 16 (r_tl 24 (r_enl (r_e1 u) (r_sz (r_e1 u))))))
theorem r_put_cs (v : Int32) (u : RS) : r_cs (r_put v u) = r_cs u + 1 := rfl
theorem r_put_sz (v : Int32) (u : RS) : r_sz (r_put v u) = r_sz u := rfl
theorem r_put_tx (v : Int32) (u : RS) : r_tx (r_put v u) = r_tx u := rfl
theorem r_put_pv (v : Int32) (u : RS) : pv (r_put v u) = pv u := rfl
theorem r_shf_cs (u : RS) : r_cs (r_shf u) = r_cs u := by unfold r_shf; simp only [r_cs_hg, r_cs_lw]
theorem r_shf_sz (u : RS) : r_sz (r_shf u) = r_sz u := by unfold r_shf; simp only [r_sz_hg, r_sz_lw]
theorem r_shf_tx (u : RS) : r_tx (r_shf u) = r_tx u := by unfold r_shf; simp only [r_tx_hg, r_tx_lw]
theorem r_shf_pv (u : RS) : pv (r_shf u) = pv u := by unfold r_shf; simp only [pv_hg, pv_lw]
theorem r_ps_cs (u : RS) : r_cs (r_ps u) = r_cs u + 1 := by unfold r_ps; rw [r_shf_cs, r_put_cs]
theorem r_ps_sz (u : RS) : r_sz (r_ps u) = r_sz u := by unfold r_ps; rw [r_shf_sz, r_put_sz]
theorem r_ps_tx (u : RS) : r_tx (r_ps u) = r_tx u := by unfold r_ps; rw [r_shf_tx, r_put_tx]
theorem r_ps_pv (u : RS) : pv (r_ps u) = pv u := by unfold r_ps; rw [r_shf_pv, r_put_pv]
/-- the text, the code and its size -/
def ctz (u : RS) : Nat × Nat × (Nat → Int32) := (r_cs u, r_sz u, r_tx u)
theorem r_prt_ct (z : Int32) (u : RS) : ctz (r_prt z u) = ctz u := by unfold r_prt ctz; split <;> simp only [r_cs_lw, r_sz_lw, r_tx_lw, r_cs_hg, r_sz_hg, r_tx_hg]
theorem r_prt_pv (z : Int32) (u : RS) : pv (r_prt z u) = pv u := by unfold r_prt; split <;> simp only [pv_lw, pv_hg]
theorem r_aw1_ct (z q : Int32) (j : Nat) (u : RS) : ctz (r_aw1 z q j u) = ctz u := by unfold r_aw1 ctz; split <;> (try split) <;> simp only [r_cs_we, r_sz_we, r_tx_we]
theorem r_awl_ct (z q : Int32) (u : RS) : ∀ j, ctz (r_awl z q j u) = ctz u
  | 0 => rfl
  | j + 1 => (r_aw1_ct z q j _).trans (r_awl_ct z q u j)
theorem r_acB_ct (z : Int32) (j : Nat) (u : RS) : ctz (r_acB z j u) = ctz u := by unfold r_acB ctz; simp only [r_cs_ln, r_sz_ln, r_tx_ln, r_cs_lc, r_sz_lc, r_tx_lc, r_cs_co, r_sz_co, r_tx_co]
theorem cl_ct (u : RS) (f : Nat → Int32) : ctz (rs_cl u f) = ctz u := rfl
theorem r_ac1_ct (z : Int32) (j : Nat) (u : RS) : ctz (r_ac1 z j u) = ctz u := by
  unfold r_ac1
  split
  · exact r_acB_ct z j u
  · split
    · split
      · exact r_acB_ct z j u
      · rw [cl_ct]; exact r_acB_ct z j u
    · rw [cl_ct]; exact r_acB_ct z j u
theorem r_acl_ct (z : Int32) (u : RS) : ∀ j, ctz (r_acl z j u) = ctz u
  | 0 => rfl
  | j + 1 => (r_ac1_ct z j _).trans (r_acl_ct z u j)
theorem r_fin_ct (z : Int32) (u : RS) : ctz (r_fin z u) = ctz u := by unfold r_fin ctz; split <;> simp only [r_cs_ob, r_sz_ob, r_tx_ob, r_cs_nd, r_sz_nd, r_tx_nd, r_cs_hi, r_sz_hi, r_tx_hi]
theorem er_ct (u : RS) (x : Int64) : ctz (rs_er u x) = ctz u := rfl
theorem r_lrn_ct (z : Int32) (u : RS) : ctz (r_lrn z u) = ctz u := by
  unfold r_lrn
  rw [r_fin_ct, r_acl_ct, r_awl_ct]
  unfold r_l1
  rw [er_ct]
theorem r_clr_sz (u : RS) : r_sz (r_clr u) = r_sz u := by
  unfold r_clr clr4 clr3 clr2 clr1
  simp only [r_sz_er, r_sz_ob, r_sz_nd, r_sz_hi, r_sz_cl, r_sz_we, r_sz_ln, r_sz_co]
theorem r_e1_sz (u : RS) : r_sz (r_e1 u) = r_sz u := by unfold r_e1; rw [r_sz_hg, r_sz_lw, r_sz_cs, r_clr_sz, r_sz_th]
theorem r_e1_cs (u : RS) : r_cs (r_e1 u) = 0 := by unfold r_e1; rw [r_cs_hg, r_cs_lw, r_cs_cs]
theorem r_e1_pv (u : RS) : pv (r_e1 u) = pv (r_clr (rs_th u 0)) := by unfold r_e1; rw [pv_hg, pv_lw, pv_cs]
theorem ctz_cs {u v : RS} (h : ctz u = ctz v) : r_cs u = r_cs v := congrArg (fun q : Nat × Nat × (Nat → Int32) => q.1) h
theorem ctz_sz {u v : RS} (h : ctz u = ctz v) : r_sz u = r_sz v := congrArg (fun q : Nat × Nat × (Nat → Int32) => q.2.1) h
theorem ctz_tx {u v : RS} (h : ctz u = ctz v) : r_tx u = r_tx v := congrArg (fun q : Nat × Nat × (Nat → Int32) => q.2.2) h

set_option maxHeartbeats 4000000 in
set_option maxRecDepth 100000 in
theorem c_X5_encode (l : Launch) (D : va_G) (cI cL cM : ClassId) (A : Nat → Prop) (b : Nat → Nat) (u : RS) (I : RS → Prop) (hI : InvP I) (H4 : ∀ v, r_sam (r_psn 4 v) = 0) (hI0 : I (r_clr (rs_th u 0))) (hz9 : r_sz u ≤ 80) : mI l yX5_encode wsX5_encode ({ frames := 6, cells := 0, slots := 0, locals := 134 }) D (tB cI cL cM) A [.ref (b 0)] (rfW cI b u) (nI (r_cs (r_enc u))) (rfW cI b (r_enc u)) := by
  refine Met.ofW (cc := cX5_encode) (maxL := 4) (ret := (some .int)) (by decide) rfl ?_
  intro p e s m args below meth c s₁ B hml hv
  obtain ⟨rfl, hP, hE, hD, hA⟩ := hv
  have hK := hE.1
  have hx := B.exec
  have hb := B.bytes
  have hr := B.returns
  have hts := atoms_spec (ws := wsX5_encode) B.pre
  have hown : s.vm.findClass RX5 = some m.cls := findClass_of_methodNamed B.named
  have hlocks := B.notSynchronized
  have hS : va_S A s.heap s.heap [] := va_S.rf
  have hl := lv_entry ([.ref (b 0)]) (n := 4) (Nat.le_of_ble_eq_true rfl)
  rw [lg_entry_eq]
  generalize (lg_sl ([.ref (b 0)]) ++ List.replicate (4 - (lg_sl ([.ref (b 0)])).length) Slot.unset).toArray = ls at hl ⊢
  have hl : lv_has ls 4 [(0, .ref (b 0))] := hl
  refine lv_aload_n hx hb dX5_encode_0 rfl (lv_at hl 0 rfl) ?_
  refine lv_iconst (v := 0) hx hb dX5_encode_1 (by decide) ?_
  refine va_put (D := D) (ci := 5) (v := .int 0) (ty := .int) (C := RX5) (T := TX5) (N := 22) hx hb hts (fun _ h => List.mem_cons_of_mem _ (List.mem_append_right _ h)) tyX5 tyX5_ok nmX5 hown hK hP hD hS 0 rfl rfl 0 (by decide) (hts _ (List.mem_of_getElem? (i := 1) rfl)) (fun _ h9 => h9) rfl (by decide +kernel) rfl rfl (Nat.le_of_ble_eq_true rfl) dX5_encode_2 (fun H locs hP hD hS => ?_)
  rw [rfW_th] at hP hD
  have hP : va_P D vwCl (rfW cI b (rs_th u 0)) H := hP
  have hD : va_D A (rfW cI b (rs_th u 0)) := hD
  refine lv_aload_n hx hb dX5_encode_5 rfl (lv_at hl 0 rfl) ?_
  refine kVa (rVa (As := []) (rest := []) ⟨hx, hb, hml, hown, hts⟩ (c_X5_clear l D cI cL cM _ b (rs_th u 0)  ) (cwV 0 hts gX5_encode_X5_clear rfl rfl rfl (by decide +kernel) ⟨(Nat.le_of_ble_eq_true rfl), (Nat.le_of_ble_eq_true rfl)⟩) hE hP hD hS hA 0 rfl rfl rfl hl.1 rfl (Nat.le_of_ble_eq_true rfl) dX5_encode_6 ⟨(Nat.le_of_ble_eq_true rfl), (Nat.le_of_ble_eq_true rfl)⟩) hS (fun H locs hP hD hS => ?_)
  have hP : va_P D vwCl (rfW cI b (r_clr (rs_th u 0))) H := hP
  have hD : va_D A (rfW cI b (r_clr (rs_th u 0))) := hD
  refine lv_aload_n hx hb dX5_encode_9 rfl (lv_at hl 0 rfl) ?_
  refine lv_iconst (v := 0) hx hb dX5_encode_10 (by decide) ?_
  refine topI (y := nI 0) rfl ?_
  refine va_put (D := D) (ci := 5) (v := .int (nI 0)) (ty := .int) (C := RX5) (T := TX5) (N := 22) hx hb hts (fun _ h => List.mem_cons_of_mem _ (List.mem_append_right _ h)) tyX5 tyX5_ok nmX5 hown hK hP hD hS 0 rfl rfl 16 (by decide) (hts _ (List.mem_of_getElem? (i := 2) rfl)) (fun _ h9 => h9) rfl (by decide +kernel) rfl rfl (Nat.le_of_ble_eq_true rfl) dX5_encode_11 (fun H locs hP hD hS => ?_)
  rw [rfW_cs] at hP hD
  have hP : va_P D vwCl (rfW cI b (rs_cs (r_clr (rs_th u 0)) 0)) H := hP
  have hD : va_D A (rfW cI b (rs_cs (r_clr (rs_th u 0)) 0)) := hD
  refine lv_aload_n hx hb dX5_encode_14 rfl (lv_at hl 0 rfl) ?_
  refine lv_lconst (v := 0) hx hb dX5_encode_15 (by decide) ?_
  refine va_put (D := D) (ci := 5) (v := .long 0) (ty := .long) (C := RX5) (T := TX5) (N := 22) hx hb hts (fun _ h => List.mem_cons_of_mem _ (List.mem_append_right _ h)) tyX5 tyX5_ok nmX5 hown hK hP hD hS 0 rfl rfl 20 (by decide) (hts _ (List.mem_of_getElem? (i := 3) rfl)) (fun _ h9 => h9) rfl (by decide +kernel) rfl rfl (Nat.le_of_ble_eq_true rfl) dX5_encode_16 (fun H locs hP hD hS => ?_)
  rw [rfW_lw] at hP hD
  have hP : va_P D vwCl (rfW cI b (rs_lw (rs_cs (r_clr (rs_th u 0)) 0) 0)) H := hP
  have hD : va_D A (rfW cI b (rs_lw (rs_cs (r_clr (rs_th u 0)) 0) 0)) := hD
  refine lv_aload_n hx hb dX5_encode_19 rfl (lv_at hl 0 rfl) ?_
  refine lv_ldc2 hx hb hown (hts _ (List.mem_of_getElem? (i := 4) rfl)) dX5_encode_20 ?_
  refine va_put (D := D) (ci := 5) (v := .long 4294967295) (ty := .long) (C := RX5) (T := TX5) (N := 22) hx hb hts (fun _ h => List.mem_cons_of_mem _ (List.mem_append_right _ h)) tyX5 tyX5_ok nmX5 hown hK hP hD hS 0 rfl rfl 21 (by decide) (hts _ (List.mem_of_getElem? (i := 5) rfl)) (fun _ h9 => h9) rfl (by decide +kernel) rfl rfl (Nat.le_of_ble_eq_true rfl) dX5_encode_23 (fun H locs hP hD hS => ?_)
  rw [rfW_hg] at hP hD
  have hP : va_P D vwCl (rfW cI b (rs_hg (rs_lw (rs_cs (r_clr (rs_th u 0)) 0) 0) 4294967295)) H := hP
  have hD : va_D A (rfW cI b (rs_hg (rs_lw (rs_cs (r_clr (rs_th u 0)) 0) 0) 4294967295)) := hD
  obtain ⟨e1, he1⟩ : ∃ y9 : RS, y9 = (rs_hg (rs_lw (rs_cs (r_clr (rs_th u 0)) 0) 0) 4294967295) := ⟨_, rfl⟩
  rw [← he1] at hP hD
  have hE1 : e1 = r_e1 u := he1
  have hz1 : r_sz e1 ≤ 80 := by rw [hE1, r_e1_sz]; exact hz9
  have hc1 : r_cs e1 = 0 := by rw [hE1]; exact r_e1_cs u
  have hI1 : I e1 := hI.2.1 _ _ (by rw [hE1]; exact r_e1_pv u) hI0
  refine lv_iconst (v := 0) hx hb dX5_encode_26 (by decide) ?_
  refine lv_istore_n (lv' := [(1, .int 0), (0, .ref (b 0))]) hx hb dX5_encode_27 rfl hl (by decide) rfl (fun ls hl => ?_)
  have lpp : ∀ (n9 : Nat) (p9 : Nat) (v : RS) (hp9 : p9 ≤ r_sz e1) (hv : v = r_enl e1 p9) (hvI : I v) (hvz : r_sz v = r_sz e1) (hvt : r_tx v = r_tx e1) (hvc : r_cs v ≤ 32 * p9), r_sz e1 - p9 < n9 → ∀ (H : Heap) (locs : List Loc), va_P D vwCl (rfW cI b v) H → va_D A (rfW cI b v) → va_S A s.heap H locs → ∀ (ls : Array Slot), lv_has ls 4 [(1, .int (nI p9)), (0, .ref (b 0))] → W p l e (headSpec wsX5_encode ({ frames := 6, cells := 0, slots := 0, locals := 134 })).room s m (([.ref (b 0)] : List Value).toArray) below meth c H locs 0 0 (MQ below (va_Qi (fun x (_ : Unit) => x = (nI (r_cs (r_enc u)))) (fun _ t => hq D A (rfW cI b (r_enc u)) t) A) (([.ref (b 0)] : List Value).toArray) s 0 0 A) (F0 m 28 ls []) := by
    intro n9
    induction n9 with
    | zero => intro p9 v hp9 hv hvI hvz hvt hvc hm9; exact absurd hm9 (Nat.not_lt_zero _)
    | succ n9 ih_lpp =>
      intro p9 v hp9 hv hvI hvz hvt hvc hm9 H locs hP hD hS ls hl
      refine lv_iload_n hx hb dX5_encode_28 rfl (lv_at hl 0 rfl) ?_
      refine lv_aload_n hx hb dX5_encode_29 rfl (lv_at hl 1 rfl) ?_
      refine va_get (D := D) (ci := 5) (v := .int (nI (r_sz v))) (C := RX5) (T := TX5) (N := 22) hx hb hts (fun _ h => List.mem_cons_of_mem _ (List.mem_append_right _ h)) hown hK hP 0 rfl rfl 5 (by decide) (hts _ (List.mem_of_getElem? (i := 6) rfl)) (fun _ h9 => h9) rfl dX5_encode_30 ?_
      refine lv_icmp_ge (tgt := 112) hx hb dX5_encode_33 (by decide) (fun cj => ?_) (fun cj => ?_)
      · replace cj : (nI (r_sz v)) ≤ (nI p9) := cj
        have hjn : p9 = r_sz e1 := by have h8 := ge_N (by omega) (by omega) cj; omega
        rw [hjn] at hv
        refine lv_bipush (v := 24) hx hb dX5_encode_112 (by decide) ?_
        refine lv_istore_n (lv' := [(1, .int 24), (0, .ref (b 0))]) hx hb dX5_encode_114 rfl hl (by decide) rfl (fun ls hl => ?_)
        refine lv_iload_n hx hb dX5_encode_115 rfl (lv_at hl 0 rfl) ?_
        refine lv_if_lt (tgt := 140) hx hb dX5_encode_116 (by decide) (fun c_1 => absurd c_1 (by decide)) (fun c_1 => ?_)
        refine lv_aload_n hx hb dX5_encode_119 rfl (lv_at hl 1 rfl) ?_
        refine lv_aload_n hx hb dX5_encode_120 rfl (lv_at hl 1 rfl) ?_
        refine va_get (D := D) (ci := 5) (v := .long (r_lw v)) (C := RX5) (T := TX5) (N := 22) hx hb hts (fun _ h => List.mem_cons_of_mem _ (List.mem_append_right _ h)) hown hK hP 0 rfl rfl 20 (by decide) (hts _ (List.mem_of_getElem? (i := 3) rfl)) (fun _ h9 => h9) rfl dX5_encode_121 ?_
        refine lv_iload_n hx hb dX5_encode_124 rfl (lv_at hl 0 rfl) ?_
        refine lv_lshr hx hb dX5_encode_125 rfl ?_
        refine lv_ldc2 hx hb hown (hts _ (List.mem_of_getElem? (i := 8) rfl)) dX5_encode_126 ?_
        refine lv_land hx hb dX5_encode_129 ?_
        refine lv_l2i hx hb dX5_encode_130 rfl ?_
        refine kVa (rVa (As := [.int ((((r_lw v) >>> ((24 : Int32).toInt64 &&& 63)) &&& 255).toInt32)]) (rest := []) ⟨hx, hb, hml, hown, hts⟩ (c_X5_put l D cI cL cM _ b v ((((r_lw v) >>> ((24 : Int32).toInt64 &&& 63)) &&& 255).toInt32) (by omega)) (cwV 1 hts gX5_encode_X5_put rfl rfl rfl (by decide +kernel) ⟨(Nat.le_of_ble_eq_true rfl), (Nat.le_of_ble_eq_true rfl)⟩) hE hP hD hS hA 0 rfl rfl rfl hl.1 rfl (Nat.le_of_ble_eq_true rfl) dX5_encode_131 ⟨(Nat.le_of_ble_eq_true rfl), (Nat.le_of_ble_eq_true rfl)⟩) hS (fun H locs hP hD hS => ?_)
        have hP : va_P D vwCl (rfW cI b (r_put ((((r_lw v) >>> ((24 : Int32).toInt64 &&& 63)) &&& 255).toInt32) v)) H := hP
        have hD : va_D A (rfW cI b (r_put ((((r_lw v) >>> ((24 : Int32).toInt64 &&& 63)) &&& 255).toInt32) v)) := hD
        obtain ⟨tl1, htl1⟩ : ∃ y9 : RS, y9 = (r_put ((((r_lw v) >>> ((24 : Int32).toInt64 &&& 63)) &&& 255).toInt32) v) := ⟨_, rfl⟩
        rw [← htl1] at hP hD
        have hc_tl1 : r_cs tl1 = r_cs v + 1 := by rw [htl1, r_put_cs]
        refine lv_iinc (v := 16) (lv' := [(1, .int 16), (0, .ref (b 0))]) hx hb dX5_encode_134 hl (k := 0) rfl (by decide) (by decide) rfl (fun ls hl => ?_)
        refine lv_goto (tgt := 115) hx hb dX5_encode_137 (by decide) ?_
        refine lv_iload_n hx hb dX5_encode_115 rfl (lv_at hl 0 rfl) ?_
        refine lv_if_lt (tgt := 140) hx hb dX5_encode_116 (by decide) (fun c_2 => absurd c_2 (by decide)) (fun c_2 => ?_)
        refine lv_aload_n hx hb dX5_encode_119 rfl (lv_at hl 1 rfl) ?_
        refine lv_aload_n hx hb dX5_encode_120 rfl (lv_at hl 1 rfl) ?_
        refine va_get (D := D) (ci := 5) (v := .long (r_lw tl1)) (C := RX5) (T := TX5) (N := 22) hx hb hts (fun _ h => List.mem_cons_of_mem _ (List.mem_append_right _ h)) hown hK hP 0 rfl rfl 20 (by decide) (hts _ (List.mem_of_getElem? (i := 3) rfl)) (fun _ h9 => h9) rfl dX5_encode_121 ?_
        refine lv_iload_n hx hb dX5_encode_124 rfl (lv_at hl 0 rfl) ?_
        refine lv_lshr hx hb dX5_encode_125 rfl ?_
        refine lv_ldc2 hx hb hown (hts _ (List.mem_of_getElem? (i := 8) rfl)) dX5_encode_126 ?_
        refine lv_land hx hb dX5_encode_129 ?_
        refine lv_l2i hx hb dX5_encode_130 rfl ?_
        refine kVa (rVa (As := [.int ((((r_lw tl1) >>> ((16 : Int32).toInt64 &&& 63)) &&& 255).toInt32)]) (rest := []) ⟨hx, hb, hml, hown, hts⟩ (c_X5_put l D cI cL cM _ b tl1 ((((r_lw tl1) >>> ((16 : Int32).toInt64 &&& 63)) &&& 255).toInt32) (by omega)) (cwV 1 hts gX5_encode_X5_put rfl rfl rfl (by decide +kernel) ⟨(Nat.le_of_ble_eq_true rfl), (Nat.le_of_ble_eq_true rfl)⟩) hE hP hD hS hA 0 rfl rfl rfl hl.1 rfl (Nat.le_of_ble_eq_true rfl) dX5_encode_131 ⟨(Nat.le_of_ble_eq_true rfl), (Nat.le_of_ble_eq_true rfl)⟩) hS (fun H locs hP hD hS => ?_)
        have hP : va_P D vwCl (rfW cI b (r_put ((((r_lw tl1) >>> ((16 : Int32).toInt64 &&& 63)) &&& 255).toInt32) tl1)) H := hP
        have hD : va_D A (rfW cI b (r_put ((((r_lw tl1) >>> ((16 : Int32).toInt64 &&& 63)) &&& 255).toInt32) tl1)) := hD
        obtain ⟨tl2, htl2⟩ : ∃ y9 : RS, y9 = (r_put ((((r_lw tl1) >>> ((16 : Int32).toInt64 &&& 63)) &&& 255).toInt32) tl1) := ⟨_, rfl⟩
        rw [← htl2] at hP hD
        have hc_tl2 : r_cs tl2 = r_cs tl1 + 1 := by rw [htl2, r_put_cs]
        refine lv_iinc (v := 8) (lv' := [(1, .int 8), (0, .ref (b 0))]) hx hb dX5_encode_134 hl (k := 0) rfl (by decide) (by decide) rfl (fun ls hl => ?_)
        refine lv_goto (tgt := 115) hx hb dX5_encode_137 (by decide) ?_
        refine lv_iload_n hx hb dX5_encode_115 rfl (lv_at hl 0 rfl) ?_
        refine lv_if_lt (tgt := 140) hx hb dX5_encode_116 (by decide) (fun c_3 => absurd c_3 (by decide)) (fun c_3 => ?_)
        refine lv_aload_n hx hb dX5_encode_119 rfl (lv_at hl 1 rfl) ?_
        refine lv_aload_n hx hb dX5_encode_120 rfl (lv_at hl 1 rfl) ?_
        refine va_get (D := D) (ci := 5) (v := .long (r_lw tl2)) (C := RX5) (T := TX5) (N := 22) hx hb hts (fun _ h => List.mem_cons_of_mem _ (List.mem_append_right _ h)) hown hK hP 0 rfl rfl 20 (by decide) (hts _ (List.mem_of_getElem? (i := 3) rfl)) (fun _ h9 => h9) rfl dX5_encode_121 ?_
        refine lv_iload_n hx hb dX5_encode_124 rfl (lv_at hl 0 rfl) ?_
        refine lv_lshr hx hb dX5_encode_125 rfl ?_
        refine lv_ldc2 hx hb hown (hts _ (List.mem_of_getElem? (i := 8) rfl)) dX5_encode_126 ?_
        refine lv_land hx hb dX5_encode_129 ?_
        refine lv_l2i hx hb dX5_encode_130 rfl ?_
        refine kVa (rVa (As := [.int ((((r_lw tl2) >>> ((8 : Int32).toInt64 &&& 63)) &&& 255).toInt32)]) (rest := []) ⟨hx, hb, hml, hown, hts⟩ (c_X5_put l D cI cL cM _ b tl2 ((((r_lw tl2) >>> ((8 : Int32).toInt64 &&& 63)) &&& 255).toInt32) (by omega)) (cwV 1 hts gX5_encode_X5_put rfl rfl rfl (by decide +kernel) ⟨(Nat.le_of_ble_eq_true rfl), (Nat.le_of_ble_eq_true rfl)⟩) hE hP hD hS hA 0 rfl rfl rfl hl.1 rfl (Nat.le_of_ble_eq_true rfl) dX5_encode_131 ⟨(Nat.le_of_ble_eq_true rfl), (Nat.le_of_ble_eq_true rfl)⟩) hS (fun H locs hP hD hS => ?_)
        have hP : va_P D vwCl (rfW cI b (r_put ((((r_lw tl2) >>> ((8 : Int32).toInt64 &&& 63)) &&& 255).toInt32) tl2)) H := hP
        have hD : va_D A (rfW cI b (r_put ((((r_lw tl2) >>> ((8 : Int32).toInt64 &&& 63)) &&& 255).toInt32) tl2)) := hD
        obtain ⟨tl3, htl3⟩ : ∃ y9 : RS, y9 = (r_put ((((r_lw tl2) >>> ((8 : Int32).toInt64 &&& 63)) &&& 255).toInt32) tl2) := ⟨_, rfl⟩
        rw [← htl3] at hP hD
        have hc_tl3 : r_cs tl3 = r_cs tl2 + 1 := by rw [htl3, r_put_cs]
        refine lv_iinc (v := 0) (lv' := [(1, .int 0), (0, .ref (b 0))]) hx hb dX5_encode_134 hl (k := 0) rfl (by decide) (by decide) rfl (fun ls hl => ?_)
        refine lv_goto (tgt := 115) hx hb dX5_encode_137 (by decide) ?_
        refine lv_iload_n hx hb dX5_encode_115 rfl (lv_at hl 0 rfl) ?_
        refine lv_if_lt (tgt := 140) hx hb dX5_encode_116 (by decide) (fun c_4 => absurd c_4 (by decide)) (fun c_4 => ?_)
        refine lv_aload_n hx hb dX5_encode_119 rfl (lv_at hl 1 rfl) ?_
        refine lv_aload_n hx hb dX5_encode_120 rfl (lv_at hl 1 rfl) ?_
        refine va_get (D := D) (ci := 5) (v := .long (r_lw tl3)) (C := RX5) (T := TX5) (N := 22) hx hb hts (fun _ h => List.mem_cons_of_mem _ (List.mem_append_right _ h)) hown hK hP 0 rfl rfl 20 (by decide) (hts _ (List.mem_of_getElem? (i := 3) rfl)) (fun _ h9 => h9) rfl dX5_encode_121 ?_
        refine lv_iload_n hx hb dX5_encode_124 rfl (lv_at hl 0 rfl) ?_
        refine lv_lshr hx hb dX5_encode_125 rfl ?_
        refine lv_ldc2 hx hb hown (hts _ (List.mem_of_getElem? (i := 8) rfl)) dX5_encode_126 ?_
        refine lv_land hx hb dX5_encode_129 ?_
        refine lv_l2i hx hb dX5_encode_130 rfl ?_
        refine kVa (rVa (As := [.int ((((r_lw tl3) >>> ((0 : Int32).toInt64 &&& 63)) &&& 255).toInt32)]) (rest := []) ⟨hx, hb, hml, hown, hts⟩ (c_X5_put l D cI cL cM _ b tl3 ((((r_lw tl3) >>> ((0 : Int32).toInt64 &&& 63)) &&& 255).toInt32) (by omega)) (cwV 1 hts gX5_encode_X5_put rfl rfl rfl (by decide +kernel) ⟨(Nat.le_of_ble_eq_true rfl), (Nat.le_of_ble_eq_true rfl)⟩) hE hP hD hS hA 0 rfl rfl rfl hl.1 rfl (Nat.le_of_ble_eq_true rfl) dX5_encode_131 ⟨(Nat.le_of_ble_eq_true rfl), (Nat.le_of_ble_eq_true rfl)⟩) hS (fun H locs hP hD hS => ?_)
        have hP : va_P D vwCl (rfW cI b (r_put ((((r_lw tl3) >>> ((0 : Int32).toInt64 &&& 63)) &&& 255).toInt32) tl3)) H := hP
        have hD : va_D A (rfW cI b (r_put ((((r_lw tl3) >>> ((0 : Int32).toInt64 &&& 63)) &&& 255).toInt32) tl3)) := hD
        obtain ⟨tl4, htl4⟩ : ∃ y9 : RS, y9 = (r_put ((((r_lw tl3) >>> ((0 : Int32).toInt64 &&& 63)) &&& 255).toInt32) tl3) := ⟨_, rfl⟩
        rw [← htl4] at hP hD
        have hc_tl4 : r_cs tl4 = r_cs tl3 + 1 := by rw [htl4, r_put_cs]
        refine lv_iinc (v := (-8)) (lv' := [(1, .int (-8)), (0, .ref (b 0))]) hx hb dX5_encode_134 hl (k := 0) rfl (by decide) (by decide) rfl (fun ls hl => ?_)
        refine lv_goto (tgt := 115) hx hb dX5_encode_137 (by decide) ?_
        refine lv_iload_n hx hb dX5_encode_115 rfl (lv_at hl 0 rfl) ?_
        refine lv_if_lt (tgt := 140) hx hb dX5_encode_116 (by decide) (fun c_5 => ?_) (fun c_5 => absurd (by decide) c_5)
        refine lv_aload_n hx hb dX5_encode_140 rfl (lv_at hl 1 rfl) ?_
        refine va_get (D := D) (ci := 5) (v := .int (nI (r_cs tl4))) (C := RX5) (T := TX5) (N := 22) hx hb hts (fun _ h => List.mem_cons_of_mem _ (List.mem_append_right _ h)) hown hK hP 0 rfl rfl 16 (by decide) (hts _ (List.mem_of_getElem? (i := 2) rfl)) (fun _ h9 => h9) rfl dX5_encode_141 ?_
        have hw9 : (rfW cI b tl4) = (rfW cI b (r_enc u)) := by (rw [htl4, htl3, htl2, htl1, hv, hE1]; rfl)
        rw [hw9] at hP hD
        exact W.iret (v := nI (r_cs tl4)) hx hb hr (fun t ht hW => ⟨⟨(nI (r_cs tl4)), (), rfl, by (rw [htl4, htl3, htl2, htl1, hv, hE1]; rfl), by rw [ht]; exact hP, hD⟩, hS.F ht⟩) hS.2.2 dX5_encode_144
      · replace cj : ¬ (nI (r_sz v)) ≤ (nI p9) := cj
        have hjn : p9 < r_sz e1 := by have h8 := nge_N (by omega) (by omega) cj; omega
        refine lv_bipush (v := 7) hx hb dX5_encode_36 (by decide) ?_
        refine lv_istore_n (lv' := [(2, .int 7), (1, .int (nI p9)), (0, .ref (b 0))]) hx hb dX5_encode_38 rfl hl (by decide) rfl (fun ls hl => ?_)
        have lpb : ∀ (n9 : Nat) (t9 : Nat) (y : RS) (ht9 : t9 ≤ 8) (hy : r_byt (r_tx e1 p9) t9 y = r_byt (r_tx e1 p9) 8 v) (hyI : I y) (hyz : r_sz y = r_sz e1) (hyt : r_tx y = r_tx e1) (hyc : r_cs y + 4 * t9 ≤ 32 * p9 + 32), t9 < n9 → ∀ (H : Heap) (locs : List Loc), va_P D vwCl (rfW cI b y) H → va_D A (rfW cI b y) → va_S A s.heap H locs → ∀ (ls : Array Slot), lv_has ls 4 [(2, .int (nI t9 - 1)), (1, .int (nI p9)), (0, .ref (b 0))] → W p l e (headSpec wsX5_encode ({ frames := 6, cells := 0, slots := 0, locals := 134 })).room s m (([.ref (b 0)] : List Value).toArray) below meth c H locs 0 0 (MQ below (va_Qi (fun x (_ : Unit) => x = (nI (r_cs (r_enc u)))) (fun _ t => hq D A (rfW cI b (r_enc u)) t) A) (([.ref (b 0)] : List Value).toArray) s 0 0 A) (F0 m 39 ls []) := by
          intro n9
          induction n9 with
          | zero => intro t9 y ht9 hy hyI hyz hyt hyc hm9; exact absurd hm9 (Nat.not_lt_zero _)
          | succ n9 ih_lpb =>
            intro t9 y ht9 hy hyI hyz hyt hyc hm9 H locs hP hD hS ls hl
            refine lv_iload_n hx hb dX5_encode_39 rfl (lv_at hl 0 rfl) ?_
            refine lv_if_lt (tgt := 106) hx hb dX5_encode_40 (by decide) (fun ct => ?_) (fun ct => ?_)
            · replace ct : (nI t9 - 1) < (0 : Int32) := ct
              have ht0 := m1neg (by omega) ct
              refine lv_iinc (v := nI (p9 + 1)) (lv' := [(1, .int (nI (p9 + 1))), (2, .int (nI t9 - 1)), (0, .ref (b 0))]) hx hb dX5_encode_106 hl (k := 1) rfl (nI_1 _) (by decide) rfl (fun ls hl => ?_)
              refine lv_goto (tgt := 28) hx hb dX5_encode_109 (by decide) ?_
              exact ih_lpp (p9 + 1) y (by omega) (by rw [ht0] at hy; exact hy.trans (by rw [hv]; rfl)) (hyI) (hyz) (hyt) (by omega) (by omega) _ _ hP hD hS ls (lv_sub hl [0, 2] rfl)
            · replace ct : ¬ (nI t9 - 1) < (0 : Int32) := ct
              have ht1 := m1pos (by omega) ct
              refine lv_aload_n hx hb dX5_encode_43 rfl (lv_at hl 2 rfl) ?_
              refine va_get (D := D) (ci := 5) (v := .ref (b 4)) (C := RX5) (T := TX5) (N := 22) hx hb hts (fun _ h => List.mem_cons_of_mem _ (List.mem_append_right _ h)) hown hK hP 0 rfl rfl 6 (by decide) (hts _ (List.mem_of_getElem? (i := 7) rfl)) (fun _ h9 => h9) rfl dX5_encode_44 ?_
              refine lv_iload_n hx hb dX5_encode_47 rfl (lv_at hl 1 rfl) ?_
              refine ildN hx hb hK hP 4 0 rfl rfl p9 (by omega) ((Nat.le_of_ble_eq_true rfl)) dX5_encode_48 ?_
              refine topI (y := r_tx e1 p9) (by rw [hyt]) ?_
              refine lv_iload_n hx hb dX5_encode_49 rfl (lv_at hl 0 rfl) ?_
              refine topI (y := nI (t9 - 1)) (m1eq ht1) ?_
              refine lv_ishr hx hb dX5_encode_50 ?_
              refine lv_iconst (v := 1) hx hb dX5_encode_51 (by decide) ?_
              refine lv_iand hx hb dX5_encode_52 ?_
              refine lv_iconst (v := 1) hx hb dX5_encode_53 (by decide) ?_
              refine lv_icmp_ne (tgt := 61) hx hb dX5_encode_54 (by decide) (fun cz => ?_) (fun cz => ?_)
              · replace cz : ¬ (((r_tx e1 p9) >>> ((nI (t9 - 1)) &&& 31)) &&& 1) = (1 : Int32) := cz
                refine lv_iconst (v := 0) hx hb dX5_encode_61 (by decide) ?_
                refine topI (y := (zb (r_tx e1 p9) (t9 - 1))) (by unfold zb; rw [if_neg cz]) ?_
                refine lv_istore_n (lv' := [(3, .int (zb (r_tx e1 p9) (t9 - 1))), (2, .int (nI t9 - 1)), (1, .int (nI p9)), (0, .ref (b 0))]) hx hb dX5_encode_62 rfl hl (by decide) rfl (fun ls hl => ?_)
                refine lv_aload_n hx hb dX5_encode_63 rfl (lv_at hl 3 rfl) ?_
                refine lv_iload_n hx hb dX5_encode_64 rfl (lv_at hl 0 rfl) ?_
                refine kVa (rVa (As := [.int (zb (r_tx e1 p9) (t9 - 1))]) (rest := []) ⟨hx, hb, hml, hown, hts⟩ (c_X5_part l D cI cL cM _ b y (zb (r_tx e1 p9) (t9 - 1)) (hI.1 _ hyI).1 (hI.1 _ hyI).2) (cwV 1 hts gX5_encode_X5_part rfl rfl rfl (by decide +kernel) ⟨(Nat.le_of_ble_eq_true rfl), (Nat.le_of_ble_eq_true rfl)⟩) hE hP hD hS hA 0 rfl rfl rfl hl.1 rfl (Nat.le_of_ble_eq_true rfl) dX5_encode_65 ⟨(Nat.le_of_ble_eq_true rfl), (Nat.le_of_ble_eq_true rfl)⟩) hS (fun H locs hP hD hS => ?_)
                have hP : va_P D vwCl (rfW cI b (r_prt (zb (r_tx e1 p9) (t9 - 1)) y)) H := hP
                have hD : va_D A (rfW cI b (r_prt (zb (r_tx e1 p9) (t9 - 1)) y)) := hD
                obtain ⟨q0, hq0⟩ : ∃ y9 : RS, y9 = (r_prt (zb (r_tx e1 p9) (t9 - 1)) y) := ⟨_, rfl⟩
                rw [← hq0] at hP hD
                have hqp : pv q0 = pv y := by rw [hq0]; exact r_prt_pv _ _
                have hqz : r_sz q0 = r_sz e1 := by rw [hq0, ctz_sz (r_prt_ct _ _)]; exact hyz
                have hqt : r_tx q0 = r_tx e1 := by rw [hq0, ctz_tx (r_prt_ct _ _)]; exact hyt
                have hqc : r_cs q0 = r_cs y := by rw [hq0, ctz_cs (r_prt_ct _ _)]
                have lpw : ∀ (n9 : Nat) (f9 : Nat) (x : RS) (hf9 : f9 ≤ 4) (hxw : r_wh f9 x = r_wh 4 q0) (hx4 : x = r_psn (4 - f9) q0) (hxp : pv x = pv q0) (hxz : r_sz x = r_sz q0) (hxt : r_tx x = r_tx q0) (hxc : r_cs x + f9 = r_cs q0 + 4), f9 < n9 → ∀ (H : Heap) (locs : List Loc), va_P D vwCl (rfW cI b x) H → va_D A (rfW cI b x) → va_S A s.heap H locs → ∀ (ls : Array Slot), lv_has ls 4 [(3, .int (zb (r_tx e1 p9) (t9 - 1))), (2, .int (nI t9 - 1)), (1, .int (nI p9)), (0, .ref (b 0))] → W p l e (headSpec wsX5_encode ({ frames := 6, cells := 0, slots := 0, locals := 134 })).room s m (([.ref (b 0)] : List Value).toArray) below meth c H locs 0 0 (MQ below (va_Qi (fun x (_ : Unit) => x = (nI (r_cs (r_enc u)))) (fun _ t => hq D A (rfW cI b (r_enc u)) t) A) (([.ref (b 0)] : List Value).toArray) s 0 0 A) (F0 m 68 ls []) := by
                  intro n9
                  induction n9 with
                  | zero => intro f9 x hf9 hxw hx4 hxp hxz hxt hxc hm9; exact absurd hm9 (Nat.not_lt_zero _)
                  | succ n9 ih_lpw =>
                    intro f9 x hf9 hxw hx4 hxp hxz hxt hxc hm9 H locs hP hD hS ls hl
                    refine lv_aload_n hx hb dX5_encode_68 rfl (lv_at hl 3 rfl) ?_
                    refine kIa (rVa (As := []) (rest := []) ⟨hx, hb, hml, hown, hts⟩ (c_X5_areSame l D cI cL cM _ b x  ) (cwV 0 hts gX5_encode_X5_areSame rfl rfl rfl (by decide +kernel) ⟨(Nat.le_of_ble_eq_true rfl), (Nat.le_of_ble_eq_true rfl)⟩) hE hP hD hS hA 0 rfl rfl rfl hl.1 rfl (Nat.le_of_ble_eq_true rfl) dX5_encode_69 ⟨(Nat.le_of_ble_eq_true rfl), (Nat.le_of_ble_eq_true rfl)⟩) hS (fun H locs hP hD hS => ?_)
                    have hP : va_P D vwCl (rfW cI b x) H := hP
                    have hD : va_D A (rfW cI b x) := hD
                    refine lv_if_eq (tgt := 94) hx hb dX5_encode_72 (by decide) (fun cw => ?_) (fun cw => ?_)
                    · replace cw : (r_sam x) = (0 : Int32) := cw
                      have hxI : I x := hI.2.1 _ _ (hxp.trans hqp) hyI
                      have hq0x : r_wh 4 (r_prt (zb (r_tx e1 p9) (t9 - 1)) y) = x := by rw [← hq0, ← hxw]; exact r_wh_stop cw f9
                      refine lv_aload_n hx hb dX5_encode_94 rfl (lv_at hl 3 rfl) ?_
                      refine lv_iload_n hx hb dX5_encode_95 rfl (lv_at hl 0 rfl) ?_
                      refine kIa (rVa (As := [.int (zb (r_tx e1 p9) (t9 - 1))]) (rest := []) ⟨hx, hb, hml, hown, hts⟩ (c_X5_learn l D cI cL cM _ b x (zb (r_tx e1 p9) (t9 - 1)) (hI.1 _ hxI).1 (hI.1 _ hxI).2) (cwV 1 hts gX5_encode_X5_learn rfl rfl rfl (by decide +kernel) ⟨(Nat.le_of_ble_eq_true rfl), (Nat.le_of_ble_eq_true rfl)⟩) hE hP hD hS hA 0 rfl rfl rfl hl.1 rfl (Nat.le_of_ble_eq_true rfl) dX5_encode_96 ⟨(Nat.le_of_ble_eq_true rfl), (Nat.le_of_ble_eq_true rfl)⟩) hS (fun H locs hP hD hS => ?_)
                      have hP : va_P D vwCl (rfW cI b (r_lrn (zb (r_tx e1 p9) (t9 - 1)) x)) H := hP
                      have hD : va_D A (rfW cI b (r_lrn (zb (r_tx e1 p9) (t9 - 1)) x)) := hD
                      refine lv_pop hx hb dX5_encode_99 rfl ?_
                      refine lv_iinc (v := nI (t9 - 1) - 1) (lv' := [(2, .int (nI (t9 - 1) - 1)), (3, .int (zb (r_tx e1 p9) (t9 - 1))), (1, .int (nI p9)), (0, .ref (b 0))]) hx hb dX5_encode_100 hl (k := 1) rfl (m1dec ht1) (by decide) rfl (fun ls hl => ?_)
                      refine lv_goto (tgt := 39) hx hb dX5_encode_103 (by decide) ?_
                      exact ih_lpb (t9 - 1) (r_lrn (zb (r_tx e1 p9) (t9 - 1)) x) (by omega) ((r_byt_s ht1 (by unfold r_bit; rw [hq0x])).trans hy) (hI.2.2 _ _ hxI) (by rw [ctz_sz (r_lrn_ct _ _)]; exact hxz.trans hqz) (by rw [ctz_tx (r_lrn_ct _ _)]; exact hxt.trans hqt) (by rw [ctz_cs (r_lrn_ct _ _)]; omega) (by omega) _ _ hP hD hS ls (lv_sub hl [0, 2, 3] rfl)
                    · replace cw : ¬ (r_sam x) = (0 : Int32) := cw
                      have hf1 : 1 ≤ f9 := by
                            rcases Nat.eq_zero_or_pos f9 with h8 | h8
                            · exact absurd (by rw [hx4, h8]; exact H4 _) cw
                            · exact h8
                      refine lv_aload_n hx hb dX5_encode_75 rfl (lv_at hl 3 rfl) ?_
                      refine lv_aload_n hx hb dX5_encode_76 rfl (lv_at hl 3 rfl) ?_
                      refine va_get (D := D) (ci := 5) (v := .long (r_lw x)) (C := RX5) (T := TX5) (N := 22) hx hb hts (fun _ h => List.mem_cons_of_mem _ (List.mem_append_right _ h)) hown hK hP 0 rfl rfl 20 (by decide) (hts _ (List.mem_of_getElem? (i := 3) rfl)) (fun _ h9 => h9) rfl dX5_encode_77 ?_
                      refine lv_bipush (v := 24) hx hb dX5_encode_80 (by decide) ?_
                      refine lv_lshr hx hb dX5_encode_82 rfl ?_
                      refine lv_l2i hx hb dX5_encode_83 rfl ?_
                      refine topI (y := tpS (r_lw x)) (rfl) ?_
                      refine kVa (rVa (As := [.int (tpS (r_lw x))]) (rest := []) ⟨hx, hb, hml, hown, hts⟩ (c_X5_put l D cI cL cM _ b x (tpS (r_lw x)) (by omega)) (cwV 1 hts gX5_encode_X5_put rfl rfl rfl (by decide +kernel) ⟨(Nat.le_of_ble_eq_true rfl), (Nat.le_of_ble_eq_true rfl)⟩) hE hP hD hS hA 0 rfl rfl rfl hl.1 rfl (Nat.le_of_ble_eq_true rfl) dX5_encode_84 ⟨(Nat.le_of_ble_eq_true rfl), (Nat.le_of_ble_eq_true rfl)⟩) hS (fun H locs hP hD hS => ?_)
                      have hP : va_P D vwCl (rfW cI b (r_put (tpS (r_lw x)) x)) H := hP
                      have hD : va_D A (rfW cI b (r_put (tpS (r_lw x)) x)) := hD
                      refine lv_aload_n hx hb dX5_encode_87 rfl (lv_at hl 3 rfl) ?_
                      refine kVa (rVa (As := []) (rest := []) ⟨hx, hb, hml, hown, hts⟩ (c_X5_shift l D cI cL cM _ b (r_put (tpS (r_lw x)) x)  ) (cwV 0 hts gX5_encode_X5_shift rfl rfl rfl (by decide +kernel) ⟨(Nat.le_of_ble_eq_true rfl), (Nat.le_of_ble_eq_true rfl)⟩) hE hP hD hS hA 0 rfl rfl rfl hl.1 rfl (Nat.le_of_ble_eq_true rfl) dX5_encode_88 ⟨(Nat.le_of_ble_eq_true rfl), (Nat.le_of_ble_eq_true rfl)⟩) hS (fun H locs hP hD hS => ?_)
                      have hP : va_P D vwCl (rfW cI b (r_shf (r_put (tpS (r_lw x)) x))) H := hP
                      have hD : va_D A (rfW cI b (r_shf (r_put (tpS (r_lw x)) x))) := hD
                      refine lv_goto (tgt := 68) hx hb dX5_encode_91 (by decide) ?_
                      exact ih_lpw (f9 - 1) (r_ps x) (by omega) ((r_wh_go cw hf1).trans hxw) (r_psn_s hf1 hf9 hx4) (by rw [r_ps_pv]; exact hxp) (by rw [r_ps_sz]; exact hxz) (by rw [r_ps_tx]; exact hxt) (by rw [r_ps_cs]; omega) (by omega) _ _ hP hD hS ls (lv_sub hl [0, 1, 2, 3] rfl)
                exact lpw _ 4 q0 (Nat.le_refl _) (rfl) (rfl) (rfl) (rfl) (rfl) (rfl) (Nat.lt_succ_self _) _ _ hP hD hS ls (lv_sub hl [0, 1, 2, 3] rfl)
              · replace cz : (((r_tx e1 p9) >>> ((nI (t9 - 1)) &&& 31)) &&& 1) = (1 : Int32) := cz
                refine lv_iconst (v := 1) hx hb dX5_encode_57 (by decide) ?_
                refine lv_goto (tgt := 62) hx hb dX5_encode_58 (by decide) ?_
                refine topI (y := (zb (r_tx e1 p9) (t9 - 1))) (by unfold zb; rw [if_pos cz]) ?_
                refine lv_istore_n (lv' := [(3, .int (zb (r_tx e1 p9) (t9 - 1))), (2, .int (nI t9 - 1)), (1, .int (nI p9)), (0, .ref (b 0))]) hx hb dX5_encode_62 rfl hl (by decide) rfl (fun ls hl => ?_)
                refine lv_aload_n hx hb dX5_encode_63 rfl (lv_at hl 3 rfl) ?_
                refine lv_iload_n hx hb dX5_encode_64 rfl (lv_at hl 0 rfl) ?_
                refine kVa (rVa (As := [.int (zb (r_tx e1 p9) (t9 - 1))]) (rest := []) ⟨hx, hb, hml, hown, hts⟩ (c_X5_part l D cI cL cM _ b y (zb (r_tx e1 p9) (t9 - 1)) (hI.1 _ hyI).1 (hI.1 _ hyI).2) (cwV 1 hts gX5_encode_X5_part rfl rfl rfl (by decide +kernel) ⟨(Nat.le_of_ble_eq_true rfl), (Nat.le_of_ble_eq_true rfl)⟩) hE hP hD hS hA 0 rfl rfl rfl hl.1 rfl (Nat.le_of_ble_eq_true rfl) dX5_encode_65 ⟨(Nat.le_of_ble_eq_true rfl), (Nat.le_of_ble_eq_true rfl)⟩) hS (fun H locs hP hD hS => ?_)
                have hP : va_P D vwCl (rfW cI b (r_prt (zb (r_tx e1 p9) (t9 - 1)) y)) H := hP
                have hD : va_D A (rfW cI b (r_prt (zb (r_tx e1 p9) (t9 - 1)) y)) := hD
                obtain ⟨q0, hq0⟩ : ∃ y9 : RS, y9 = (r_prt (zb (r_tx e1 p9) (t9 - 1)) y) := ⟨_, rfl⟩
                rw [← hq0] at hP hD
                have hqp : pv q0 = pv y := by rw [hq0]; exact r_prt_pv _ _
                have hqz : r_sz q0 = r_sz e1 := by rw [hq0, ctz_sz (r_prt_ct _ _)]; exact hyz
                have hqt : r_tx q0 = r_tx e1 := by rw [hq0, ctz_tx (r_prt_ct _ _)]; exact hyt
                have hqc : r_cs q0 = r_cs y := by rw [hq0, ctz_cs (r_prt_ct _ _)]
                have lpw : ∀ (n9 : Nat) (f9 : Nat) (x : RS) (hf9 : f9 ≤ 4) (hxw : r_wh f9 x = r_wh 4 q0) (hx4 : x = r_psn (4 - f9) q0) (hxp : pv x = pv q0) (hxz : r_sz x = r_sz q0) (hxt : r_tx x = r_tx q0) (hxc : r_cs x + f9 = r_cs q0 + 4), f9 < n9 → ∀ (H : Heap) (locs : List Loc), va_P D vwCl (rfW cI b x) H → va_D A (rfW cI b x) → va_S A s.heap H locs → ∀ (ls : Array Slot), lv_has ls 4 [(3, .int (zb (r_tx e1 p9) (t9 - 1))), (2, .int (nI t9 - 1)), (1, .int (nI p9)), (0, .ref (b 0))] → W p l e (headSpec wsX5_encode ({ frames := 6, cells := 0, slots := 0, locals := 134 })).room s m (([.ref (b 0)] : List Value).toArray) below meth c H locs 0 0 (MQ below (va_Qi (fun x (_ : Unit) => x = (nI (r_cs (r_enc u)))) (fun _ t => hq D A (rfW cI b (r_enc u)) t) A) (([.ref (b 0)] : List Value).toArray) s 0 0 A) (F0 m 68 ls []) := by
                  intro n9
                  induction n9 with
                  | zero => intro f9 x hf9 hxw hx4 hxp hxz hxt hxc hm9; exact absurd hm9 (Nat.not_lt_zero _)
                  | succ n9 ih_lpw =>
                    intro f9 x hf9 hxw hx4 hxp hxz hxt hxc hm9 H locs hP hD hS ls hl
                    refine lv_aload_n hx hb dX5_encode_68 rfl (lv_at hl 3 rfl) ?_
                    refine kIa (rVa (As := []) (rest := []) ⟨hx, hb, hml, hown, hts⟩ (c_X5_areSame l D cI cL cM _ b x  ) (cwV 0 hts gX5_encode_X5_areSame rfl rfl rfl (by decide +kernel) ⟨(Nat.le_of_ble_eq_true rfl), (Nat.le_of_ble_eq_true rfl)⟩) hE hP hD hS hA 0 rfl rfl rfl hl.1 rfl (Nat.le_of_ble_eq_true rfl) dX5_encode_69 ⟨(Nat.le_of_ble_eq_true rfl), (Nat.le_of_ble_eq_true rfl)⟩) hS (fun H locs hP hD hS => ?_)
                    have hP : va_P D vwCl (rfW cI b x) H := hP
                    have hD : va_D A (rfW cI b x) := hD
                    refine lv_if_eq (tgt := 94) hx hb dX5_encode_72 (by decide) (fun cw => ?_) (fun cw => ?_)
                    · replace cw : (r_sam x) = (0 : Int32) := cw
                      have hxI : I x := hI.2.1 _ _ (hxp.trans hqp) hyI
                      have hq0x : r_wh 4 (r_prt (zb (r_tx e1 p9) (t9 - 1)) y) = x := by rw [← hq0, ← hxw]; exact r_wh_stop cw f9
                      refine lv_aload_n hx hb dX5_encode_94 rfl (lv_at hl 3 rfl) ?_
                      refine lv_iload_n hx hb dX5_encode_95 rfl (lv_at hl 0 rfl) ?_
                      refine kIa (rVa (As := [.int (zb (r_tx e1 p9) (t9 - 1))]) (rest := []) ⟨hx, hb, hml, hown, hts⟩ (c_X5_learn l D cI cL cM _ b x (zb (r_tx e1 p9) (t9 - 1)) (hI.1 _ hxI).1 (hI.1 _ hxI).2) (cwV 1 hts gX5_encode_X5_learn rfl rfl rfl (by decide +kernel) ⟨(Nat.le_of_ble_eq_true rfl), (Nat.le_of_ble_eq_true rfl)⟩) hE hP hD hS hA 0 rfl rfl rfl hl.1 rfl (Nat.le_of_ble_eq_true rfl) dX5_encode_96 ⟨(Nat.le_of_ble_eq_true rfl), (Nat.le_of_ble_eq_true rfl)⟩) hS (fun H locs hP hD hS => ?_)
                      have hP : va_P D vwCl (rfW cI b (r_lrn (zb (r_tx e1 p9) (t9 - 1)) x)) H := hP
                      have hD : va_D A (rfW cI b (r_lrn (zb (r_tx e1 p9) (t9 - 1)) x)) := hD
                      refine lv_pop hx hb dX5_encode_99 rfl ?_
                      refine lv_iinc (v := nI (t9 - 1) - 1) (lv' := [(2, .int (nI (t9 - 1) - 1)), (3, .int (zb (r_tx e1 p9) (t9 - 1))), (1, .int (nI p9)), (0, .ref (b 0))]) hx hb dX5_encode_100 hl (k := 1) rfl (m1dec ht1) (by decide) rfl (fun ls hl => ?_)
                      refine lv_goto (tgt := 39) hx hb dX5_encode_103 (by decide) ?_
                      exact ih_lpb (t9 - 1) (r_lrn (zb (r_tx e1 p9) (t9 - 1)) x) (by omega) ((r_byt_s ht1 (by unfold r_bit; rw [hq0x])).trans hy) (hI.2.2 _ _ hxI) (by rw [ctz_sz (r_lrn_ct _ _)]; exact hxz.trans hqz) (by rw [ctz_tx (r_lrn_ct _ _)]; exact hxt.trans hqt) (by rw [ctz_cs (r_lrn_ct _ _)]; omega) (by omega) _ _ hP hD hS ls (lv_sub hl [0, 2, 3] rfl)
                    · replace cw : ¬ (r_sam x) = (0 : Int32) := cw
                      have hf1 : 1 ≤ f9 := by
                            rcases Nat.eq_zero_or_pos f9 with h8 | h8
                            · exact absurd (by rw [hx4, h8]; exact H4 _) cw
                            · exact h8
                      refine lv_aload_n hx hb dX5_encode_75 rfl (lv_at hl 3 rfl) ?_
                      refine lv_aload_n hx hb dX5_encode_76 rfl (lv_at hl 3 rfl) ?_
                      refine va_get (D := D) (ci := 5) (v := .long (r_lw x)) (C := RX5) (T := TX5) (N := 22) hx hb hts (fun _ h => List.mem_cons_of_mem _ (List.mem_append_right _ h)) hown hK hP 0 rfl rfl 20 (by decide) (hts _ (List.mem_of_getElem? (i := 3) rfl)) (fun _ h9 => h9) rfl dX5_encode_77 ?_
                      refine lv_bipush (v := 24) hx hb dX5_encode_80 (by decide) ?_
                      refine lv_lshr hx hb dX5_encode_82 rfl ?_
                      refine lv_l2i hx hb dX5_encode_83 rfl ?_
                      refine topI (y := tpS (r_lw x)) (rfl) ?_
                      refine kVa (rVa (As := [.int (tpS (r_lw x))]) (rest := []) ⟨hx, hb, hml, hown, hts⟩ (c_X5_put l D cI cL cM _ b x (tpS (r_lw x)) (by omega)) (cwV 1 hts gX5_encode_X5_put rfl rfl rfl (by decide +kernel) ⟨(Nat.le_of_ble_eq_true rfl), (Nat.le_of_ble_eq_true rfl)⟩) hE hP hD hS hA 0 rfl rfl rfl hl.1 rfl (Nat.le_of_ble_eq_true rfl) dX5_encode_84 ⟨(Nat.le_of_ble_eq_true rfl), (Nat.le_of_ble_eq_true rfl)⟩) hS (fun H locs hP hD hS => ?_)
                      have hP : va_P D vwCl (rfW cI b (r_put (tpS (r_lw x)) x)) H := hP
                      have hD : va_D A (rfW cI b (r_put (tpS (r_lw x)) x)) := hD
                      refine lv_aload_n hx hb dX5_encode_87 rfl (lv_at hl 3 rfl) ?_
                      refine kVa (rVa (As := []) (rest := []) ⟨hx, hb, hml, hown, hts⟩ (c_X5_shift l D cI cL cM _ b (r_put (tpS (r_lw x)) x)  ) (cwV 0 hts gX5_encode_X5_shift rfl rfl rfl (by decide +kernel) ⟨(Nat.le_of_ble_eq_true rfl), (Nat.le_of_ble_eq_true rfl)⟩) hE hP hD hS hA 0 rfl rfl rfl hl.1 rfl (Nat.le_of_ble_eq_true rfl) dX5_encode_88 ⟨(Nat.le_of_ble_eq_true rfl), (Nat.le_of_ble_eq_true rfl)⟩) hS (fun H locs hP hD hS => ?_)
                      have hP : va_P D vwCl (rfW cI b (r_shf (r_put (tpS (r_lw x)) x))) H := hP
                      have hD : va_D A (rfW cI b (r_shf (r_put (tpS (r_lw x)) x))) := hD
                      refine lv_goto (tgt := 68) hx hb dX5_encode_91 (by decide) ?_
                      exact ih_lpw (f9 - 1) (r_ps x) (by omega) ((r_wh_go cw hf1).trans hxw) (r_psn_s hf1 hf9 hx4) (by rw [r_ps_pv]; exact hxp) (by rw [r_ps_sz]; exact hxz) (by rw [r_ps_tx]; exact hxt) (by rw [r_ps_cs]; omega) (by omega) _ _ hP hD hS ls (lv_sub hl [0, 1, 2, 3] rfl)
                exact lpw _ 4 q0 (Nat.le_refl _) (rfl) (rfl) (rfl) (rfl) (rfl) (rfl) (Nat.lt_succ_self _) _ _ hP hD hS ls (lv_sub hl [0, 1, 2, 3] rfl)
        exact lpb _ 8 v (Nat.le_refl _) (rfl) (hvI) (hvz) (hvt) (by omega) (Nat.lt_succ_self _) _ _ hP hD hS ls (lv_sub hl [0, 1, 2] rfl)
  exact lpp _ 0 e1 (Nat.zero_le _) (rfl) (hI1) (rfl) (rfl) (by rw [hc1]; exact Nat.zero_le _) (Nat.lt_succ_self _) _ _ hP hD hS ls (lv_sub hl [0, 1] rfl)
