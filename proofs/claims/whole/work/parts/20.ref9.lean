/-! ===== the reference decodes ===== -/
theorem r_prt_mk (z : Int32) (u : RS) : r_mk (r_prt z u) = r_mk u := by unfold r_prt; split <;> simp only [r_mk_lw, r_mk_hg]
theorem r_aw1_mk (z q : Int32) (j : Nat) (u : RS) : r_mk (r_aw1 z q j u) = r_mk u := by unfold r_aw1; split <;> (try split) <;> simp only [r_mk_we]
theorem r_awl_mk (z q : Int32) (u : RS) : ∀ j, r_mk (r_awl z q j u) = r_mk u
  | 0 => rfl
  | j + 1 => (r_aw1_mk z q j _).trans (r_awl_mk z q u j)
theorem r_acB_mk (z : Int32) (j : Nat) (u : RS) : r_mk (r_acB z j u) = r_mk u := by unfold r_acB; rw [r_mk_ln, r_mk_lc, r_mk_co]
theorem r_ac1_mk (z : Int32) (j : Nat) (u : RS) : r_mk (r_ac1 z j u) = r_mk u := by
  unfold r_ac1
  split
  · exact r_acB_mk z j u
  · split
    · split
      · exact r_acB_mk z j u
      · rw [r_mk_cl]; exact r_acB_mk z j u
    · rw [r_mk_cl]; exact r_acB_mk z j u
theorem r_acl_mk (z : Int32) (u : RS) : ∀ j, r_mk (r_acl z j u) = r_mk u
  | 0 => rfl
  | j + 1 => (r_ac1_mk z j _).trans (r_acl_mk z u j)
theorem r_fin_mk (z : Int32) (u : RS) : r_mk (r_fin z u) = r_mk u := by
  unfold r_fin
  split
  · rw [r_mk_ob, r_mk_nd]
  · rw [r_mk_ob, r_mk_nd, r_mk_hi, r_mk_hi, r_mk_hi, r_mk_nd]
theorem r_lrn_mk (z : Int32) (u : RS) : r_mk (r_lrn z u) = r_mk u := by
  unfold r_lrn
  rw [r_fin_mk, r_acl_mk, r_awl_mk]
  unfold r_l1
  rw [r_mk_er]
theorem r_shf_mk9 (u : RS) : r_mk (r_shf u) = r_mk u := by unfold r_shf; rw [r_mk_hg, r_mk_lw]
theorem r_clr_mk9 (u : RS) : r_mk (r_clr u) = r_mk u := by
  unfold r_clr clr4 clr3 clr2 clr1
  rw [r_mk_er, r_mk_ob, r_mk_nd, r_mk_hi, r_mk_cl, r_mk_we, r_mk_ln, r_mk_co]
theorem r_prt_cs (z : Int32) (u : RS) : r_cs (r_prt z u) = r_cs u := by unfold r_prt; split <;> simp only [r_cs_lw, r_cs_hg]
theorem r_aw1_cs (z q : Int32) (j : Nat) (u : RS) : r_cs (r_aw1 z q j u) = r_cs u := by unfold r_aw1; split <;> (try split) <;> simp only [r_cs_we]
theorem r_awl_cs (z q : Int32) (u : RS) : ∀ j, r_cs (r_awl z q j u) = r_cs u
  | 0 => rfl
  | j + 1 => (r_aw1_cs z q j _).trans (r_awl_cs z q u j)
theorem r_acB_cs (z : Int32) (j : Nat) (u : RS) : r_cs (r_acB z j u) = r_cs u := by unfold r_acB; rw [r_cs_ln, r_cs_lc, r_cs_co]
theorem r_ac1_cs (z : Int32) (j : Nat) (u : RS) : r_cs (r_ac1 z j u) = r_cs u := by
  unfold r_ac1
  split
  · exact r_acB_cs z j u
  · split
    · split
      · exact r_acB_cs z j u
      · rw [r_cs_cl]; exact r_acB_cs z j u
    · rw [r_cs_cl]; exact r_acB_cs z j u
theorem r_acl_cs (z : Int32) (u : RS) : ∀ j, r_cs (r_acl z j u) = r_cs u
  | 0 => rfl
  | j + 1 => (r_ac1_cs z j _).trans (r_acl_cs z u j)
theorem r_fin_cs (z : Int32) (u : RS) : r_cs (r_fin z u) = r_cs u := by
  unfold r_fin
  split
  · rw [r_cs_ob, r_cs_nd]
  · rw [r_cs_ob, r_cs_nd, r_cs_hi, r_cs_hi, r_cs_hi, r_cs_nd]
theorem r_lrn_cs (z : Int32) (u : RS) : r_cs (r_lrn z u) = r_cs u := by
  unfold r_lrn
  rw [r_fin_cs, r_acl_cs, r_awl_cs]
  unfold r_l1
  rw [r_cs_er]
theorem r_shf_cs9 (u : RS) : r_cs (r_shf u) = r_cs u := by unfold r_shf; rw [r_cs_hg, r_cs_lw]
theorem r_clr_cs9 (u : RS) : r_cs (r_clr u) = r_cs u := by
  unfold r_clr clr4 clr3 clr2 clr1
  rw [r_cs_er, r_cs_ob, r_cs_nd, r_cs_hi, r_cs_cl, r_cs_we, r_cs_ln, r_cs_co]
theorem r_prt_sz (z : Int32) (u : RS) : r_sz (r_prt z u) = r_sz u := by unfold r_prt; split <;> simp only [r_sz_lw, r_sz_hg]
theorem r_aw1_sz (z q : Int32) (j : Nat) (u : RS) : r_sz (r_aw1 z q j u) = r_sz u := by unfold r_aw1; split <;> (try split) <;> simp only [r_sz_we]
theorem r_awl_sz (z q : Int32) (u : RS) : ∀ j, r_sz (r_awl z q j u) = r_sz u
  | 0 => rfl
  | j + 1 => (r_aw1_sz z q j _).trans (r_awl_sz z q u j)
theorem r_acB_sz (z : Int32) (j : Nat) (u : RS) : r_sz (r_acB z j u) = r_sz u := by unfold r_acB; rw [r_sz_ln, r_sz_lc, r_sz_co]
theorem r_ac1_sz (z : Int32) (j : Nat) (u : RS) : r_sz (r_ac1 z j u) = r_sz u := by
  unfold r_ac1
  split
  · exact r_acB_sz z j u
  · split
    · split
      · exact r_acB_sz z j u
      · rw [r_sz_cl]; exact r_acB_sz z j u
    · rw [r_sz_cl]; exact r_acB_sz z j u
theorem r_acl_sz (z : Int32) (u : RS) : ∀ j, r_sz (r_acl z j u) = r_sz u
  | 0 => rfl
  | j + 1 => (r_ac1_sz z j _).trans (r_acl_sz z u j)
theorem r_fin_sz (z : Int32) (u : RS) : r_sz (r_fin z u) = r_sz u := by
  unfold r_fin
  split
  · rw [r_sz_ob, r_sz_nd]
  · rw [r_sz_ob, r_sz_nd, r_sz_hi, r_sz_hi, r_sz_hi, r_sz_nd]
theorem r_lrn_sz (z : Int32) (u : RS) : r_sz (r_lrn z u) = r_sz u := by
  unfold r_lrn
  rw [r_fin_sz, r_acl_sz, r_awl_sz]
  unfold r_l1
  rw [r_sz_er]
theorem r_shf_sz9 (u : RS) : r_sz (r_shf u) = r_sz u := by unfold r_shf; rw [r_sz_hg, r_sz_lw]
theorem r_clr_sz9 (u : RS) : r_sz (r_clr u) = r_sz u := by
  unfold r_clr clr4 clr3 clr2 clr1
  rw [r_sz_er, r_sz_ob, r_sz_nd, r_sz_hi, r_sz_cl, r_sz_we, r_sz_ln, r_sz_co]
abbrev DT : Type := RS × Int64 × Nat
def r_ds (d : DT) : DT := (r_shf d.1, sh8 d.2.1 + (r_boc (r_shf d.1) d.2.2).toInt64, d.2.2 + 1)
def r_dw : Nat → DT → DT
  | 0, d => d
  | n + 1, d => if r_sam d.1 = 0 then d else r_dw n (r_ds d)
theorem r_dw_stop {d : DT} (h : r_sam d.1 = 0) (n : Nat) : r_dw n d = d := by cases n with
  | zero => rfl
  | succ n => exact if_pos h
theorem r_dw_go {d : DT} (h : ¬ r_sam d.1 = 0) {n : Nat} (hn : 1 ≤ n) : r_dw (n - 1) (r_ds d) = r_dw n d := by
  obtain ⟨j, rfl⟩ : ∃ j, n = j + 1 := ⟨n - 1, by omega⟩
  exact (if_neg h).symm
def r_shn : Nat → RS → RS
  | 0, v => v
  | n + 1, v => r_shf (r_shn n v)
theorem r_shn_s {x : RS} {q : RS} {n : Nat} (hn : 1 ≤ n) (h4 : n ≤ 4) (h : x = r_shn (4 - n) q) : r_shf x = r_shn (4 - (n - 1)) q := by
  rw [show 4 - (n - 1) = (4 - n) + 1 from by omega, h]
  rfl
def zd (x : Int64) (v : RS) : Int32 := if (0 : Int32) < lg_cmp x (r_mid v) then 0 else 1
def r_db (d : DT) : DT := (r_lrn (zd d.2.1 d.1) (r_dw 4 (r_prt (zd d.2.1 d.1) d.1, d.2)).1, (r_dw 4 (r_prt (zd d.2.1 d.1) d.1, d.2)).2)
def r_dvl (d : DT) (x : Int32) : Int32 := 2 * x + (if zd d.2.1 d.1 = 0 then 0 else 1)
def r_dby (d : DT) : Nat → DT × Int32
  | 0 => (d, 0)
  | k + 1 => (r_db (r_dby d k).1, r_dvl (r_dby d k).1 (r_dby d k).2)
def r_dpl (k : Nat) (s : DT × Int32) : DT := (rs_ou s.1.1 (upd (r_ou s.1.1) k s.2), s.1.2)
def r_dcl (d : DT) : Nat → DT
  | 0 => d
  | k + 1 => r_dpl k (r_dby (r_dcl d k) 8)
def r_d1 (u : RS) : RS := rs_hg (rs_lw (r_clr (rs_th u 0)) 0) 4294967295
def r_x0 (v : RS) : Int64 := 256 * (256 * (256 * (256 * 0 + (r_boc v 0).toInt64) + (r_boc v 1).toInt64) + (r_boc v 2).toInt64) + (r_boc v 3).toInt64
def r_dec (m : Nat) (u : RS) : RS := (r_dcl (rs_mk (r_d1 u) m, r_x0 (r_d1 u), 4) m).1
theorem r_d1_sz (u : RS) : r_sz (r_d1 u) = r_sz u := by unfold r_d1; rw [r_sz_hg, r_sz_lw, r_clr_sz9, r_sz_th]
theorem r_d1_cs (u : RS) : r_cs (r_d1 u) = r_cs u := by unfold r_d1; rw [r_cs_hg, r_cs_lw, r_clr_cs9, r_cs_th]
theorem r_d1_pv (u : RS) : pv (r_d1 u) = pv (r_clr (rs_th u 0)) := by unfold r_d1; rw [pv_hg, pv_lw]

set_option maxHeartbeats 4000000 in
set_option maxRecDepth 100000 in
theorem c_X5_decode (l : Launch) (D : va_G) (cI cL cM : ClassId) (A : Nat → Prop) (b : Nat → Nat) (u : RS) (q : Int32) (I : RS → Prop) (hI : InvP I) (H4 : ∀ v, r_sam (r_shn 4 v) = 0) (hI0 : I (r_clr (rs_th u 0))) (hz9 : r_sz u ≤ 80) (hc9 : r_cs u ≤ 3000) : mI l yX5_decode wsX5_decode ({ frames := 6, cells := 0, slots := 0, locals := 134 }) D (tB cI cL cM) A [.ref (b 0), .int q] (rfW cI b u) (if isI q 0 80 = 0 then 0 else dfR (r_dec q.toNatClampNeg u) (min (r_sz (r_dec q.toNatClampNeg u)) (r_mk (r_dec q.toNatClampNeg u)))) (rfW cI b (if isI q 0 80 = 0 then (rs_th (rs_th u 0) 1) else r_dec q.toNatClampNeg u)) := by
  refine Met.ofW (cc := cX5_decode) (maxL := 9) (ret := (some .int)) (by decide) rfl ?_
  intro p e s m args below meth c s₁ B hml hv
  obtain ⟨rfl, hP, hE, hD, hA⟩ := hv
  have hK := hE.1
  have hx := B.exec
  have hb := B.bytes
  have hr := B.returns
  have hts := atoms_spec (ws := wsX5_decode) B.pre
  have hown : s.vm.findClass RX5 = some m.cls := findClass_of_methodNamed B.named
  have hlocks := B.notSynchronized
  have hS : va_S A s.heap s.heap [] := va_S.rf
  have hl := lv_entry ([.ref (b 0), .int q]) (n := 9) (Nat.le_of_ble_eq_true rfl)
  rw [lg_entry_eq]
  generalize (lg_sl ([.ref (b 0), .int q]) ++ List.replicate (9 - (lg_sl ([.ref (b 0), .int q])).length) Slot.unset).toArray = ls at hl ⊢
  have hl : lv_has ls 9 [(0, .ref (b 0)), (1, .int q)] := hl
  refine lv_aload_n hx hb dX5_decode_0 rfl (lv_at hl 0 rfl) ?_
  refine lv_iconst (v := 0) hx hb dX5_decode_1 (by decide) ?_
  refine va_put (D := D) (ci := 5) (v := .int 0) (ty := .int) (C := RX5) (T := TX5) (N := 22) hx hb hts (fun _ h => List.mem_cons_of_mem _ (List.mem_append_right _ h)) tyX5 tyX5_ok nmX5 hown hK hP hD hS 0 rfl rfl 0 (by decide) (hts _ (List.mem_of_getElem? (i := 1) rfl)) (fun _ h9 => h9) rfl (by decide +kernel) rfl rfl (Nat.le_of_ble_eq_true rfl) dX5_decode_2 (fun H locs hP hD hS => ?_)
  rw [rfW_th] at hP hD
  have hP : va_P D vwCl (rfW cI b (rs_th u 0)) H := hP
  have hD : va_D A (rfW cI b (rs_th u 0)) := hD
  refine lv_iload_n hx hb dX5_decode_5 rfl (lv_at hl 1 rfl) ?_
  refine lv_iconst (v := 0) hx hb dX5_decode_6 (by decide) ?_
  refine lv_bipush (v := 80) hx hb dX5_decode_7 (by decide) ?_
  refine kI (rS (As := [.int q, .int 0, .int 80]) (rest := []) ⟨hx, hb, hml, hown, hts⟩ (c_X5_isIn l D cI cL cM _ q 0 80 ) (va_cwS 3 hts gX5_decode_X5_isIn rfl rfl rfl (by decide +kernel) ⟨(Nat.le_of_ble_eq_true rfl), (Nat.le_of_ble_eq_true rfl)⟩) hE hP hD [] rfl rfl rfl hl.1 rfl (Nat.le_of_ble_eq_true rfl) dX5_decode_9 ⟨(Nat.le_of_ble_eq_true rfl), (Nat.le_of_ble_eq_true rfl)⟩) hP hD hS hA (is := []) rfl rfl (fun H locs hP hD hS => ?_)
  rw [putW_nil] at hP hD
  have hP : va_P D vwCl (rfW cI b (rs_th u 0)) H := hP
  have hD : va_D A (rfW cI b (rs_th u 0)) := hD
  refine lv_if_ne (tgt := 21) hx hb dX5_decode_12 (by decide) (fun cm => ?_) (fun cm => ?_)
  · replace cm : ¬ (isI q 0 80) = (0 : Int32) := cm
    obtain ⟨m9, hm8, hqe⟩ := isI1 (n := 80) (Nat.le_of_ble_eq_true rfl) cm
    have hcl : q.toNatClampNeg = m9 := clN hqe (Nat.lt_succ_of_le hm8) (Nat.le_of_ble_eq_true rfl)
    refine lv_aload_n hx hb dX5_decode_21 rfl (lv_at hl 0 rfl) ?_
    refine kVa (rVa (As := []) (rest := []) ⟨hx, hb, hml, hown, hts⟩ (c_X5_clear l D cI cL cM _ b (rs_th u 0)  ) (cwV 0 hts gX5_decode_X5_clear rfl rfl rfl (by decide +kernel) ⟨(Nat.le_of_ble_eq_true rfl), (Nat.le_of_ble_eq_true rfl)⟩) hE hP hD hS hA 0 rfl rfl rfl hl.1 rfl (Nat.le_of_ble_eq_true rfl) dX5_decode_22 ⟨(Nat.le_of_ble_eq_true rfl), (Nat.le_of_ble_eq_true rfl)⟩) hS (fun H locs hP hD hS => ?_)
    have hP : va_P D vwCl (rfW cI b (r_clr (rs_th u 0))) H := hP
    have hD : va_D A (rfW cI b (r_clr (rs_th u 0))) := hD
    refine lv_aload_n hx hb dX5_decode_25 rfl (lv_at hl 0 rfl) ?_
    refine lv_lconst (v := 0) hx hb dX5_decode_26 (by decide) ?_
    refine va_put (D := D) (ci := 5) (v := .long 0) (ty := .long) (C := RX5) (T := TX5) (N := 22) hx hb hts (fun _ h => List.mem_cons_of_mem _ (List.mem_append_right _ h)) tyX5 tyX5_ok nmX5 hown hK hP hD hS 0 rfl rfl 20 (by decide) (hts _ (List.mem_of_getElem? (i := 2) rfl)) (fun _ h9 => h9) rfl (by decide +kernel) rfl rfl (Nat.le_of_ble_eq_true rfl) dX5_decode_27 (fun H locs hP hD hS => ?_)
    rw [rfW_lw] at hP hD
    have hP : va_P D vwCl (rfW cI b (rs_lw (r_clr (rs_th u 0)) 0)) H := hP
    have hD : va_D A (rfW cI b (rs_lw (r_clr (rs_th u 0)) 0)) := hD
    refine lv_aload_n hx hb dX5_decode_30 rfl (lv_at hl 0 rfl) ?_
    refine lv_ldc2 hx hb hown (hts _ (List.mem_of_getElem? (i := 3) rfl)) dX5_decode_31 ?_
    refine va_put (D := D) (ci := 5) (v := .long 4294967295) (ty := .long) (C := RX5) (T := TX5) (N := 22) hx hb hts (fun _ h => List.mem_cons_of_mem _ (List.mem_append_right _ h)) tyX5 tyX5_ok nmX5 hown hK hP hD hS 0 rfl rfl 21 (by decide) (hts _ (List.mem_of_getElem? (i := 4) rfl)) (fun _ h9 => h9) rfl (by decide +kernel) rfl rfl (Nat.le_of_ble_eq_true rfl) dX5_decode_34 (fun H locs hP hD hS => ?_)
    rw [rfW_hg] at hP hD
    have hP : va_P D vwCl (rfW cI b (rs_hg (rs_lw (r_clr (rs_th u 0)) 0) 4294967295)) H := hP
    have hD : va_D A (rfW cI b (rs_hg (rs_lw (r_clr (rs_th u 0)) 0) 4294967295)) := hD
    obtain ⟨e1, he1⟩ : ∃ y9 : RS, y9 = (rs_hg (rs_lw (r_clr (rs_th u 0)) 0) 4294967295) := ⟨_, rfl⟩
    rw [← he1] at hP hD
    have hE1 : e1 = r_d1 u := he1
    have hb9 : r_cs e1 ≤ 3000 := by rw [hE1, r_d1_cs]; exact hc9
    have hI1 : I e1 := hI.2.1 _ _ (by rw [hE1]; exact r_d1_pv u) hI0
    refine lv_lconst (v := 0) hx hb dX5_decode_37 (by decide) ?_
    refine lv_lstore_n (lv' := [(2, .long 0), (0, .ref (b 0)), (1, .int q)]) hx hb dX5_decode_38 rfl hl (by decide) rfl (fun ls hl => ?_)
    refine lv_iconst (v := 0) hx hb dX5_decode_39 (by decide) ?_
    refine lv_istore (lv' := [(4, .int 0), (2, .long 0), (0, .ref (b 0)), (1, .int q)]) hx hb dX5_decode_40 hl (by decide) rfl (fun ls hl => ?_)
    refine lv_iload hx hb dX5_decode_42 (lv_at hl 0 rfl) ?_
    refine lv_iconst (v := 4) hx hb dX5_decode_44 (by decide) ?_
    refine lv_icmp_ge (tgt := 68) hx hb dX5_decode_45 (by decide) (fun c_1 => absurd c_1 (by decide)) (fun c_1 => ?_)
    refine lv_ldc2 hx hb hown (hts _ (List.mem_of_getElem? (i := 5) rfl)) dX5_decode_48 ?_
    refine lv_lload_n hx hb dX5_decode_51 rfl (lv_at hl 1 rfl) ?_
    refine lv_lmul hx hb dX5_decode_52 ?_
    refine lv_aload_n hx hb dX5_decode_53 rfl (lv_at hl 2 rfl) ?_
    refine lv_iload hx hb dX5_decode_54 (lv_at hl 0 rfl) ?_
    refine kIa (rVa (As := [.int 0]) (rest := [.long (256 * 0)]) ⟨hx, hb, hml, hown, hts⟩ (c_X5_byteOfCode l D cI cL cM _ b e1 0 hb9 (Nat.le_of_ble_eq_true rfl)) (cwV 1 hts gX5_decode_X5_byteOfCode rfl rfl rfl (by decide +kernel) ⟨(Nat.le_of_ble_eq_true rfl), (Nat.le_of_ble_eq_true rfl)⟩) hE hP hD hS hA 0 rfl rfl rfl hl.1 rfl (Nat.le_of_ble_eq_true rfl) dX5_decode_56 ⟨(Nat.le_of_ble_eq_true rfl), (Nat.le_of_ble_eq_true rfl)⟩) hS (fun H locs hP hD hS => ?_)
    have hP : va_P D vwCl (rfW cI b e1) H := hP
    have hD : va_D A (rfW cI b e1) := hD
    refine lv_i2l hx hb dX5_decode_59 rfl ?_
    refine lv_ladd hx hb dX5_decode_60 ?_
    refine lv_lstore_n (lv' := [(2, .long ((256 * 0) + ((r_boc e1 0).toInt64))), (4, .int 0), (0, .ref (b 0)), (1, .int q)]) hx hb dX5_decode_61 rfl hl (by decide) rfl (fun ls hl => ?_)
    refine lv_iinc (v := 1) (lv' := [(4, .int 1), (2, .long ((256 * 0) + ((r_boc e1 0).toInt64))), (0, .ref (b 0)), (1, .int q)]) hx hb dX5_decode_62 hl (k := 1) rfl (by decide) (by decide) rfl (fun ls hl => ?_)
    refine lv_goto (tgt := 42) hx hb dX5_decode_65 (by decide) ?_
    refine lv_iload hx hb dX5_decode_42 (lv_at hl 0 rfl) ?_
    refine lv_iconst (v := 4) hx hb dX5_decode_44 (by decide) ?_
    refine lv_icmp_ge (tgt := 68) hx hb dX5_decode_45 (by decide) (fun c_2 => absurd c_2 (by decide)) (fun c_2 => ?_)
    refine lv_ldc2 hx hb hown (hts _ (List.mem_of_getElem? (i := 5) rfl)) dX5_decode_48 ?_
    refine lv_lload_n hx hb dX5_decode_51 rfl (lv_at hl 1 rfl) ?_
    refine lv_lmul hx hb dX5_decode_52 ?_
    refine lv_aload_n hx hb dX5_decode_53 rfl (lv_at hl 2 rfl) ?_
    refine lv_iload hx hb dX5_decode_54 (lv_at hl 0 rfl) ?_
    refine kIa (rVa (As := [.int 1]) (rest := [.long (256 * ((256 * 0) + ((r_boc e1 0).toInt64)))]) ⟨hx, hb, hml, hown, hts⟩ (c_X5_byteOfCode l D cI cL cM _ b e1 1 hb9 (Nat.le_of_ble_eq_true rfl)) (cwV 1 hts gX5_decode_X5_byteOfCode rfl rfl rfl (by decide +kernel) ⟨(Nat.le_of_ble_eq_true rfl), (Nat.le_of_ble_eq_true rfl)⟩) hE hP hD hS hA 0 rfl rfl rfl hl.1 rfl (Nat.le_of_ble_eq_true rfl) dX5_decode_56 ⟨(Nat.le_of_ble_eq_true rfl), (Nat.le_of_ble_eq_true rfl)⟩) hS (fun H locs hP hD hS => ?_)
    have hP : va_P D vwCl (rfW cI b e1) H := hP
    have hD : va_D A (rfW cI b e1) := hD
    refine lv_i2l hx hb dX5_decode_59 rfl ?_
    refine lv_ladd hx hb dX5_decode_60 ?_
    refine lv_lstore_n (lv' := [(2, .long ((256 * ((256 * 0) + ((r_boc e1 0).toInt64))) + ((r_boc e1 1).toInt64))), (4, .int 1), (0, .ref (b 0)), (1, .int q)]) hx hb dX5_decode_61 rfl hl (by decide) rfl (fun ls hl => ?_)
    refine lv_iinc (v := 2) (lv' := [(4, .int 2), (2, .long ((256 * ((256 * 0) + ((r_boc e1 0).toInt64))) + ((r_boc e1 1).toInt64))), (0, .ref (b 0)), (1, .int q)]) hx hb dX5_decode_62 hl (k := 1) rfl (by decide) (by decide) rfl (fun ls hl => ?_)
    refine lv_goto (tgt := 42) hx hb dX5_decode_65 (by decide) ?_
    refine lv_iload hx hb dX5_decode_42 (lv_at hl 0 rfl) ?_
    refine lv_iconst (v := 4) hx hb dX5_decode_44 (by decide) ?_
    refine lv_icmp_ge (tgt := 68) hx hb dX5_decode_45 (by decide) (fun c_3 => absurd c_3 (by decide)) (fun c_3 => ?_)
    refine lv_ldc2 hx hb hown (hts _ (List.mem_of_getElem? (i := 5) rfl)) dX5_decode_48 ?_
    refine lv_lload_n hx hb dX5_decode_51 rfl (lv_at hl 1 rfl) ?_
    refine lv_lmul hx hb dX5_decode_52 ?_
    refine lv_aload_n hx hb dX5_decode_53 rfl (lv_at hl 2 rfl) ?_
    refine lv_iload hx hb dX5_decode_54 (lv_at hl 0 rfl) ?_
    refine kIa (rVa (As := [.int 2]) (rest := [.long (256 * ((256 * ((256 * 0) + ((r_boc e1 0).toInt64))) + ((r_boc e1 1).toInt64)))]) ⟨hx, hb, hml, hown, hts⟩ (c_X5_byteOfCode l D cI cL cM _ b e1 2 hb9 (Nat.le_of_ble_eq_true rfl)) (cwV 1 hts gX5_decode_X5_byteOfCode rfl rfl rfl (by decide +kernel) ⟨(Nat.le_of_ble_eq_true rfl), (Nat.le_of_ble_eq_true rfl)⟩) hE hP hD hS hA 0 rfl rfl rfl hl.1 rfl (Nat.le_of_ble_eq_true rfl) dX5_decode_56 ⟨(Nat.le_of_ble_eq_true rfl), (Nat.le_of_ble_eq_true rfl)⟩) hS (fun H locs hP hD hS => ?_)
    have hP : va_P D vwCl (rfW cI b e1) H := hP
    have hD : va_D A (rfW cI b e1) := hD
    refine lv_i2l hx hb dX5_decode_59 rfl ?_
    refine lv_ladd hx hb dX5_decode_60 ?_
    refine lv_lstore_n (lv' := [(2, .long ((256 * ((256 * ((256 * 0) + ((r_boc e1 0).toInt64))) + ((r_boc e1 1).toInt64))) + ((r_boc e1 2).toInt64))), (4, .int 2), (0, .ref (b 0)), (1, .int q)]) hx hb dX5_decode_61 rfl hl (by decide) rfl (fun ls hl => ?_)
    refine lv_iinc (v := 3) (lv' := [(4, .int 3), (2, .long ((256 * ((256 * ((256 * 0) + ((r_boc e1 0).toInt64))) + ((r_boc e1 1).toInt64))) + ((r_boc e1 2).toInt64))), (0, .ref (b 0)), (1, .int q)]) hx hb dX5_decode_62 hl (k := 1) rfl (by decide) (by decide) rfl (fun ls hl => ?_)
    refine lv_goto (tgt := 42) hx hb dX5_decode_65 (by decide) ?_
    refine lv_iload hx hb dX5_decode_42 (lv_at hl 0 rfl) ?_
    refine lv_iconst (v := 4) hx hb dX5_decode_44 (by decide) ?_
    refine lv_icmp_ge (tgt := 68) hx hb dX5_decode_45 (by decide) (fun c_4 => absurd c_4 (by decide)) (fun c_4 => ?_)
    refine lv_ldc2 hx hb hown (hts _ (List.mem_of_getElem? (i := 5) rfl)) dX5_decode_48 ?_
    refine lv_lload_n hx hb dX5_decode_51 rfl (lv_at hl 1 rfl) ?_
    refine lv_lmul hx hb dX5_decode_52 ?_
    refine lv_aload_n hx hb dX5_decode_53 rfl (lv_at hl 2 rfl) ?_
    refine lv_iload hx hb dX5_decode_54 (lv_at hl 0 rfl) ?_
    refine kIa (rVa (As := [.int 3]) (rest := [.long (256 * ((256 * ((256 * ((256 * 0) + ((r_boc e1 0).toInt64))) + ((r_boc e1 1).toInt64))) + ((r_boc e1 2).toInt64)))]) ⟨hx, hb, hml, hown, hts⟩ (c_X5_byteOfCode l D cI cL cM _ b e1 3 hb9 (Nat.le_of_ble_eq_true rfl)) (cwV 1 hts gX5_decode_X5_byteOfCode rfl rfl rfl (by decide +kernel) ⟨(Nat.le_of_ble_eq_true rfl), (Nat.le_of_ble_eq_true rfl)⟩) hE hP hD hS hA 0 rfl rfl rfl hl.1 rfl (Nat.le_of_ble_eq_true rfl) dX5_decode_56 ⟨(Nat.le_of_ble_eq_true rfl), (Nat.le_of_ble_eq_true rfl)⟩) hS (fun H locs hP hD hS => ?_)
    have hP : va_P D vwCl (rfW cI b e1) H := hP
    have hD : va_D A (rfW cI b e1) := hD
    refine lv_i2l hx hb dX5_decode_59 rfl ?_
    refine lv_ladd hx hb dX5_decode_60 ?_
    refine lv_lstore_n (lv' := [(2, .long ((256 * ((256 * ((256 * ((256 * 0) + ((r_boc e1 0).toInt64))) + ((r_boc e1 1).toInt64))) + ((r_boc e1 2).toInt64))) + ((r_boc e1 3).toInt64))), (4, .int 3), (0, .ref (b 0)), (1, .int q)]) hx hb dX5_decode_61 rfl hl (by decide) rfl (fun ls hl => ?_)
    refine lv_iinc (v := 4) (lv' := [(4, .int 4), (2, .long ((256 * ((256 * ((256 * ((256 * 0) + ((r_boc e1 0).toInt64))) + ((r_boc e1 1).toInt64))) + ((r_boc e1 2).toInt64))) + ((r_boc e1 3).toInt64))), (0, .ref (b 0)), (1, .int q)]) hx hb dX5_decode_62 hl (k := 1) rfl (by decide) (by decide) rfl (fun ls hl => ?_)
    refine lv_goto (tgt := 42) hx hb dX5_decode_65 (by decide) ?_
    refine lv_iload hx hb dX5_decode_42 (lv_at hl 0 rfl) ?_
    refine lv_iconst (v := 4) hx hb dX5_decode_44 (by decide) ?_
    refine lv_icmp_ge (tgt := 68) hx hb dX5_decode_45 (by decide) (fun c_5 => ?_) (fun c_5 => absurd (by decide) c_5)
    refine lv_aload_n hx hb dX5_decode_68 rfl (lv_at hl 2 rfl) ?_
    refine lv_iload_n hx hb dX5_decode_69 rfl (lv_at hl 3 rfl) ?_
    refine topI (y := nI m9) (hqe) ?_
    refine va_put (D := D) (ci := 5) (v := .int (nI m9)) (ty := .int) (C := RX5) (T := TX5) (N := 22) hx hb hts (fun _ h => List.mem_cons_of_mem _ (List.mem_append_right _ h)) tyX5 tyX5_ok nmX5 hown hK hP hD hS 0 rfl rfl 18 (by decide) (hts _ (List.mem_of_getElem? (i := 6) rfl)) (fun _ h9 => h9) rfl (by decide +kernel) rfl rfl (Nat.le_of_ble_eq_true rfl) dX5_decode_70 (fun H locs hP hD hS => ?_)
    rw [rfW_mk] at hP hD
    have hP : va_P D vwCl (rfW cI b (rs_mk e1 m9)) H := hP
    have hD : va_D A (rfW cI b (rs_mk e1 m9)) := hD
    obtain ⟨e2, he2⟩ : ∃ y9 : RS, y9 = (rs_mk e1 m9) := ⟨_, rfl⟩
    rw [← he2] at hP hD
    have hI2 : I e2 := hI.2.1 _ _ (by rw [he2]; exact pv_mk _ _) hI1
    have hz2 : r_sz e2 ≤ 80 := by rw [he2, r_sz_mk, hE1, r_d1_sz]; exact hz9
    have hm2 : r_mk e2 = m9 := by rw [he2, r_mk_mk]
    have hb2 : r_cs e2 ≤ 3000 := by rw [he2, r_cs_mk]; exact hb9
    refine lv_iconst (v := 0) hx hb dX5_decode_73 (by decide) ?_
    refine lv_istore (lv' := [(5, .int 0), (4, .int 4), (2, .long ((256 * ((256 * ((256 * ((256 * 0) + ((r_boc e1 0).toInt64))) + ((r_boc e1 1).toInt64))) + ((r_boc e1 2).toInt64))) + ((r_boc e1 3).toInt64))), (0, .ref (b 0)), (1, .int q)]) hx hb dX5_decode_74 hl (by decide) rfl (fun ls hl => ?_)
    have lpp : ∀ (n9 : Nat) (p9 : Nat) (v : RS) (xx : Int64) (nx : Nat) (hp9 : p9 ≤ m9) (hv : r_dcl (e2, r_x0 e1, 4) p9 = (v, xx, nx)) (hvI : I v) (hvz : r_sz v = r_sz e2) (hvm : r_mk v = r_mk e2) (hvc : r_cs v = r_cs e2) (hvn : nx ≤ 4 + 32 * p9), m9 - p9 < n9 → ∀ (H : Heap) (locs : List Loc), va_P D vwCl (rfW cI b v) H → va_D A (rfW cI b v) → va_S A s.heap H locs → ∀ (ls : Array Slot), lv_has ls 9 [(5, .int (nI p9)), (4, .int (nI nx)), (2, .long xx), (1, .int q), (0, .ref (b 0))] → W p l e (headSpec wsX5_decode ({ frames := 6, cells := 0, slots := 0, locals := 134 })).room s m (([.ref (b 0), .int q] : List Value).toArray) below meth c H locs 0 0 (MQ below (va_Qi (fun x (_ : Unit) => x = (if isI q 0 80 = 0 then 0 else dfR (r_dec q.toNatClampNeg u) (min (r_sz (r_dec q.toNatClampNeg u)) (r_mk (r_dec q.toNatClampNeg u))))) (fun _ t => hq D A (rfW cI b (if isI q 0 80 = 0 then (rs_th (rs_th u 0) 1) else r_dec q.toNatClampNeg u)) t) A) (([.ref (b 0), .int q] : List Value).toArray) s 0 0 A) (F0 m 76 ls []) := by
      intro n9
      induction n9 with
      | zero => intro p9 v xx nx hp9 hv hvI hvz hvm hvc hvn hm9; exact absurd hm9 (Nat.not_lt_zero _)
      | succ n9 ih_lpp =>
        intro p9 v xx nx hp9 hv hvI hvz hvm hvc hvn hm9 H locs hP hD hS ls hl
        refine lv_iload hx hb dX5_decode_76 (lv_at hl 0 rfl) ?_
        refine lv_iload_n hx hb dX5_decode_78 rfl (lv_at hl 3 rfl) ?_
        refine topI (y := nI m9) (hqe) ?_
        refine lv_icmp_ge (tgt := 196) hx hb dX5_decode_79 (by decide) (fun cj => ?_) (fun cj => ?_)
        · replace cj : (nI m9) ≤ (nI p9) := cj
          have hjn : p9 = m9 := by have h8 := ge_N (by omega) (by omega) cj; omega
          have hfin : r_dec m9 u = v := by unfold r_dec; rw [← hE1, ← he2, ← hjn, hv]
          refine lv_aload_n hx hb dX5_decode_196 rfl (lv_at hl 4 rfl) ?_
          refine kIa (rVa (As := []) (rest := []) ⟨hx, hb, hml, hown, hts⟩ (c_X5_differences l D cI cL cM _ b v  (by rw [hvz]; exact hz2) (by rw [hvm, hm2]; exact hm8)) (cwV 0 hts gX5_decode_X5_differences rfl rfl rfl (by decide +kernel) ⟨(Nat.le_of_ble_eq_true rfl), (Nat.le_of_ble_eq_true rfl)⟩) hE hP hD hS hA 0 rfl rfl rfl hl.1 rfl (Nat.le_of_ble_eq_true rfl) dX5_decode_197 ⟨(Nat.le_of_ble_eq_true rfl), (Nat.le_of_ble_eq_true rfl)⟩) hS (fun H locs hP hD hS => ?_)
          have hP : va_P D vwCl (rfW cI b v) H := hP
          have hD : va_D A (rfW cI b v) := hD
          have hw9 : (rfW cI b v) = (rfW cI b (if isI q 0 80 = 0 then (rs_th (rs_th u 0) 1) else r_dec q.toNatClampNeg u)) := by first | (rw [if_pos cm]; try rfl) | (rw [if_neg cm, hcl, hfin])
          rw [hw9] at hP hD
          exact W.iret (v := (dfR v (min (r_sz v) (r_mk v)))) hx hb hr (fun t ht hW => ⟨⟨(dfR v (min (r_sz v) (r_mk v))), (), rfl, by (first | (rw [if_pos cm]) | (rw [if_neg cm, hcl, hfin])), by rw [ht]; exact hP, hD⟩, hS.F ht⟩) hS.2.2 dX5_decode_200
        · replace cj : ¬ (nI m9) ≤ (nI p9) := cj
          have hjn : p9 < m9 := nge_N (by omega) (by omega) cj
          refine lv_iconst (v := 0) hx hb dX5_decode_82 (by decide) ?_
          refine lv_istore (lv' := [(6, .int 0), (5, .int (nI p9)), (4, .int (nI nx)), (2, .long xx), (1, .int q), (0, .ref (b 0))]) hx hb dX5_decode_83 hl (by decide) rfl (fun ls hl => ?_)
          refine lv_iconst (v := 0) hx hb dX5_decode_85 (by decide) ?_
          refine lv_istore (lv' := [(7, .int 0), (6, .int 0), (5, .int (nI p9)), (4, .int (nI nx)), (2, .long xx), (1, .int q), (0, .ref (b 0))]) hx hb dX5_decode_86 hl (by decide) rfl (fun ls hl => ?_)
          have lpb : ∀ (n9 : Nat) (k9 : Nat) (y : RS) (x1 : Int64) (n1 : Nat) (vl : Int32) (hk9 : k9 ≤ 8) (hy : r_dby (v, xx, nx) k9 = ((y, x1, n1), vl)) (hyI : I y) (hyz : r_sz y = r_sz e2) (hym : r_mk y = r_mk e2) (hyc : r_cs y = r_cs e2) (hyn : n1 ≤ 4 + 32 * p9 + 4 * k9), 8 - k9 < n9 → ∀ (H : Heap) (locs : List Loc), va_P D vwCl (rfW cI b y) H → va_D A (rfW cI b y) → va_S A s.heap H locs → ∀ (ls : Array Slot), lv_has ls 9 [(7, .int (nI k9)), (6, .int vl), (5, .int (nI p9)), (4, .int (nI n1)), (2, .long x1), (1, .int q), (0, .ref (b 0))] → W p l e (headSpec wsX5_decode ({ frames := 6, cells := 0, slots := 0, locals := 134 })).room s m (([.ref (b 0), .int q] : List Value).toArray) below meth c H locs 0 0 (MQ below (va_Qi (fun x (_ : Unit) => x = (if isI q 0 80 = 0 then 0 else dfR (r_dec q.toNatClampNeg u) (min (r_sz (r_dec q.toNatClampNeg u)) (r_mk (r_dec q.toNatClampNeg u))))) (fun _ t => hq D A (rfW cI b (if isI q 0 80 = 0 then (rs_th (rs_th u 0) 1) else r_dec q.toNatClampNeg u)) t) A) (([.ref (b 0), .int q] : List Value).toArray) s 0 0 A) (F0 m 88 ls []) := by
            intro n9
            induction n9 with
            | zero => intro k9 y x1 n1 vl hk9 hy hyI hyz hym hyc hyn hm9; exact absurd hm9 (Nat.not_lt_zero _)
            | succ n9 ih_lpb =>
              intro k9 y x1 n1 vl hk9 hy hyI hyz hym hyc hyn hm9 H locs hP hD hS ls hl
              refine lv_iload hx hb dX5_decode_88 (lv_at hl 0 rfl) ?_
              refine lv_bipush (v := 8) hx hb dX5_decode_90 (by decide) ?_
              refine lv_icmp_ge (tgt := 181) hx hb dX5_decode_92 (by decide) (fun ck => ?_) (fun ck => ?_)
              · replace ck : (8 : Int32) ≤ (nI k9) := ck
                have hk8 : k9 = 8 := by have h8 := ge_N (a := 8) (by omega) (by omega) ck; omega
                refine lv_aload_n hx hb dX5_decode_181 rfl (lv_at hl 6 rfl) ?_
                refine va_get (D := D) (ci := 5) (v := .ref (b 12)) (C := RX5) (T := TX5) (N := 22) hx hb hts (fun _ h => List.mem_cons_of_mem _ (List.mem_append_right _ h)) hown hK hP 0 rfl rfl 19 (by decide) (hts _ (List.mem_of_getElem? (i := 7) rfl)) (fun _ h9 => h9) rfl dX5_decode_182 ?_
                refine lv_iload hx hb dX5_decode_185 (lv_at hl 2 rfl) ?_
                refine lv_iload hx hb dX5_decode_187 (lv_at hl 1 rfl) ?_
                refine istN hx hb hK hP hD hS 12 0 rfl rfl p9 (by omega) ((Nat.le_of_ble_eq_true rfl)) dX5_decode_189 (fun H locs hP hD hS => ?_)
                rw [rfW_ou] at hP hD
                have hP : va_P D vwCl (rfW cI b (rs_ou y (upd (r_ou y) p9 vl))) H := hP
                have hD : va_D A (rfW cI b (rs_ou y (upd (r_ou y) p9 vl))) := hD
                refine lv_iinc (v := nI (p9 + 1)) (lv' := [(5, .int (nI (p9 + 1))), (7, .int (nI k9)), (6, .int vl), (4, .int (nI n1)), (2, .long x1), (1, .int q), (0, .ref (b 0))]) hx hb dX5_decode_190 hl (k := 2) rfl (nI_1 _) (by decide) rfl (fun ls hl => ?_)
                refine lv_goto (tgt := 76) hx hb dX5_decode_193 (by decide) ?_
                exact ih_lpp (p9 + 1) (rs_ou y (upd (r_ou y) p9 vl)) x1 n1 (by omega) (by show r_dpl p9 (r_dby (r_dcl (e2, r_x0 e1, 4) p9) 8) = _; rw [hv, ← hk8, hy]; rfl) (hI.2.1 _ _ (pv_ou _ _) hyI) (by rw [r_sz_ou]; exact hyz) (by rw [r_mk_ou]; exact hym) (by rw [r_cs_ou]; exact hyc) (by omega) (by omega) _ _ hP hD hS ls (lv_sub hl [0, 3, 4, 5, 6] rfl)
              · replace ck : ¬ (8 : Int32) ≤ (nI k9) := ck
                have hk8 : k9 < 8 := nge_N (a := 8) (by omega) (by omega) ck
                refine lv_lload_n hx hb dX5_decode_95 rfl (lv_at hl 4 rfl) ?_
                refine lv_aload_n hx hb dX5_decode_96 rfl (lv_at hl 6 rfl) ?_
                refine kLa (rVa (As := []) (rest := [.long x1]) ⟨hx, hb, hml, hown, hts⟩ (c_X5_middle l D cI cL cM _ b y  (hI.1 _ hyI).1 (hI.1 _ hyI).2) (cwV 0 hts gX5_decode_X5_middle rfl rfl rfl (by decide +kernel) ⟨(Nat.le_of_ble_eq_true rfl), (Nat.le_of_ble_eq_true rfl)⟩) hE hP hD hS hA 0 rfl rfl rfl hl.1 rfl (Nat.le_of_ble_eq_true rfl) dX5_decode_97 ⟨(Nat.le_of_ble_eq_true rfl), (Nat.le_of_ble_eq_true rfl)⟩) hS (fun H locs hP hD hS => ?_)
                have hP : va_P D vwCl (rfW cI b y) H := hP
                have hD : va_D A (rfW cI b y) := hD
                refine W.lcmp hx hb dX5_decode_100 ?_
                refine lv_if_gt (tgt := 108) hx hb dX5_decode_101 (by decide) (fun cz => ?_) (fun cz => ?_)
                · replace cz : (0 : Int32) < (lg_cmp x1 (r_mid y)) := cz
                  refine lv_iconst (v := 0) hx hb dX5_decode_108 (by decide) ?_
                  refine topI (y := (zd x1 y)) (by unfold zd; rw [if_pos cz]) ?_
                  refine lv_istore (lv' := [(8, .int (zd x1 y)), (7, .int (nI k9)), (6, .int vl), (5, .int (nI p9)), (4, .int (nI n1)), (2, .long x1), (1, .int q), (0, .ref (b 0))]) hx hb dX5_decode_109 hl (by decide) rfl (fun ls hl => ?_)
                  refine lv_aload_n hx hb dX5_decode_111 rfl (lv_at hl 7 rfl) ?_
                  refine lv_iload hx hb dX5_decode_112 (lv_at hl 0 rfl) ?_
                  refine kVa (rVa (As := [.int (zd x1 y)]) (rest := []) ⟨hx, hb, hml, hown, hts⟩ (c_X5_part l D cI cL cM _ b y (zd x1 y) (hI.1 _ hyI).1 (hI.1 _ hyI).2) (cwV 1 hts gX5_decode_X5_part rfl rfl rfl (by decide +kernel) ⟨(Nat.le_of_ble_eq_true rfl), (Nat.le_of_ble_eq_true rfl)⟩) hE hP hD hS hA 0 rfl rfl rfl hl.1 rfl (Nat.le_of_ble_eq_true rfl) dX5_decode_114 ⟨(Nat.le_of_ble_eq_true rfl), (Nat.le_of_ble_eq_true rfl)⟩) hS (fun H locs hP hD hS => ?_)
                  have hP : va_P D vwCl (rfW cI b (r_prt (zd x1 y) y)) H := hP
                  have hD : va_D A (rfW cI b (r_prt (zd x1 y) y)) := hD
                  obtain ⟨q0, hq0⟩ : ∃ y9 : RS, y9 = (r_prt (zd x1 y) y) := ⟨_, rfl⟩
                  rw [← hq0] at hP hD
                  have hqp : pv q0 = pv y := by rw [hq0]; exact r_prt_pv _ _
                  have hqz : r_sz q0 = r_sz e2 := by rw [hq0, r_prt_sz]; exact hyz
                  have hqm : r_mk q0 = r_mk e2 := by rw [hq0, r_prt_mk]; exact hym
                  have hqc : r_cs q0 = r_cs e2 := by rw [hq0, r_prt_cs]; exact hyc
                  have lpw : ∀ (n9 : Nat) (f9 : Nat) (x : RS) (x2 : Int64) (n2 : Nat) (hf9 : f9 ≤ 4) (hxw : r_dw f9 (x, x2, n2) = r_dw 4 (q0, x1, n1)) (hx4 : x = r_shn (4 - f9) q0) (hxp : pv x = pv q0) (hxz : r_sz x = r_sz q0) (hxm : r_mk x = r_mk q0) (hxc : r_cs x = r_cs q0) (hxn : n2 + f9 ≤ n1 + 4), f9 < n9 → ∀ (H : Heap) (locs : List Loc), va_P D vwCl (rfW cI b x) H → va_D A (rfW cI b x) → va_S A s.heap H locs → ∀ (ls : Array Slot), lv_has ls 9 [(8, .int (zd x1 y)), (7, .int (nI k9)), (6, .int vl), (5, .int (nI p9)), (4, .int (nI n2)), (2, .long x2), (1, .int q), (0, .ref (b 0))] → W p l e (headSpec wsX5_decode ({ frames := 6, cells := 0, slots := 0, locals := 134 })).room s m (([.ref (b 0), .int q] : List Value).toArray) below meth c H locs 0 0 (MQ below (va_Qi (fun x (_ : Unit) => x = (if isI q 0 80 = 0 then 0 else dfR (r_dec q.toNatClampNeg u) (min (r_sz (r_dec q.toNatClampNeg u)) (r_mk (r_dec q.toNatClampNeg u))))) (fun _ t => hq D A (rfW cI b (if isI q 0 80 = 0 then (rs_th (rs_th u 0) 1) else r_dec q.toNatClampNeg u)) t) A) (([.ref (b 0), .int q] : List Value).toArray) s 0 0 A) (F0 m 117 ls []) := by
                    intro n9
                    induction n9 with
                    | zero => intro f9 x x2 n2 hf9 hxw hx4 hxp hxz hxm hxc hxn hm9; exact absurd hm9 (Nat.not_lt_zero _)
                    | succ n9 ih_lpw =>
                      intro f9 x x2 n2 hf9 hxw hx4 hxp hxz hxm hxc hxn hm9 H locs hP hD hS ls hl
                      refine lv_aload_n hx hb dX5_decode_117 rfl (lv_at hl 7 rfl) ?_
                      refine kIa (rVa (As := []) (rest := []) ⟨hx, hb, hml, hown, hts⟩ (c_X5_areSame l D cI cL cM _ b x  ) (cwV 0 hts gX5_decode_X5_areSame rfl rfl rfl (by decide +kernel) ⟨(Nat.le_of_ble_eq_true rfl), (Nat.le_of_ble_eq_true rfl)⟩) hE hP hD hS hA 0 rfl rfl rfl hl.1 rfl (Nat.le_of_ble_eq_true rfl) dX5_decode_118 ⟨(Nat.le_of_ble_eq_true rfl), (Nat.le_of_ble_eq_true rfl)⟩) hS (fun H locs hP hD hS => ?_)
                      have hP : va_P D vwCl (rfW cI b x) H := hP
                      have hD : va_D A (rfW cI b x) := hD
                      refine lv_if_eq (tgt := 151) hx hb dX5_decode_121 (by decide) (fun cw => ?_) (fun cw => ?_)
                      · replace cw : (r_sam x) = (0 : Int32) := cw
                        have hxI : I x := hI.2.1 _ _ (hxp.trans hqp) hyI
                        have hq0x : r_dw 4 (r_prt (zd x1 y) y, x1, n1) = (x, x2, n2) := by rw [← hq0, ← hxw]; exact r_dw_stop (d := (x, x2, n2)) cw f9
                        refine lv_aload_n hx hb dX5_decode_151 rfl (lv_at hl 7 rfl) ?_
                        refine lv_iload hx hb dX5_decode_152 (lv_at hl 0 rfl) ?_
                        refine kIa (rVa (As := [.int (zd x1 y)]) (rest := []) ⟨hx, hb, hml, hown, hts⟩ (c_X5_learn l D cI cL cM _ b x (zd x1 y) (hI.1 _ hxI).1 (hI.1 _ hxI).2) (cwV 1 hts gX5_decode_X5_learn rfl rfl rfl (by decide +kernel) ⟨(Nat.le_of_ble_eq_true rfl), (Nat.le_of_ble_eq_true rfl)⟩) hE hP hD hS hA 0 rfl rfl rfl hl.1 rfl (Nat.le_of_ble_eq_true rfl) dX5_decode_154 ⟨(Nat.le_of_ble_eq_true rfl), (Nat.le_of_ble_eq_true rfl)⟩) hS (fun H locs hP hD hS => ?_)
                        have hP : va_P D vwCl (rfW cI b (r_lrn (zd x1 y) x)) H := hP
                        have hD : va_D A (rfW cI b (r_lrn (zd x1 y) x)) := hD
                        refine lv_pop hx hb dX5_decode_157 rfl ?_
                        refine lv_iconst (v := 2) hx hb dX5_decode_158 (by decide) ?_
                        refine lv_iload hx hb dX5_decode_159 (lv_at hl 2 rfl) ?_
                        refine lv_imul hx hb dX5_decode_161 ?_
                        refine lv_iload hx hb dX5_decode_162 (lv_at hl 0 rfl) ?_
                        refine lv_if_eq (tgt := 171) hx hb dX5_decode_164 (by decide) (fun cv => ?_) (fun cv => ?_)
                        · replace cv : (zd x1 y) = (0 : Int32) := cv
                          refine lv_iconst (v := 0) hx hb dX5_decode_171 (by decide) ?_
                          refine lv_iadd hx hb dX5_decode_172 ?_
                          refine lv_istore (lv' := [(6, .int ((2 * vl) + 0)), (8, .int (zd x1 y)), (7, .int (nI k9)), (5, .int (nI p9)), (4, .int (nI n2)), (2, .long x2), (1, .int q), (0, .ref (b 0))]) hx hb dX5_decode_173 hl (by decide) rfl (fun ls hl => ?_)
                          refine lv_iinc (v := nI (k9 + 1)) (lv' := [(7, .int (nI (k9 + 1))), (6, .int ((2 * vl) + 0)), (8, .int (zd x1 y)), (5, .int (nI p9)), (4, .int (nI n2)), (2, .long x2), (1, .int q), (0, .ref (b 0))]) hx hb dX5_decode_175 hl (k := 2) rfl (nI_1 _) (by decide) rfl (fun ls hl => ?_)
                          refine lv_goto (tgt := 88) hx hb dX5_decode_178 (by decide) ?_
                          exact ih_lpb (k9 + 1) (r_lrn (zd x1 y) x) x2 n2 ((2 * vl) + 0) (by omega) (by show (r_db (r_dby (v, xx, nx) k9).1, r_dvl (r_dby (v, xx, nx) k9).1 (r_dby (v, xx, nx) k9).2) = _; rw [hy]; unfold r_db r_dvl; dsimp only; rw [hq0x, if_pos cv]) (hI.2.2 _ _ hxI) (by rw [r_lrn_sz]; exact hxz.trans hqz) (by rw [r_lrn_mk]; exact hxm.trans hqm) (by rw [r_lrn_cs]; exact hxc.trans hqc) (by omega) (by omega) _ _ hP hD hS ls (lv_sub hl [0, 1, 3, 4, 5, 6, 7] rfl)
                        · replace cv : ¬ (zd x1 y) = (0 : Int32) := cv
                          refine lv_iconst (v := 1) hx hb dX5_decode_167 (by decide) ?_
                          refine lv_goto (tgt := 172) hx hb dX5_decode_168 (by decide) ?_
                          refine lv_iadd hx hb dX5_decode_172 ?_
                          refine lv_istore (lv' := [(6, .int ((2 * vl) + 1)), (8, .int (zd x1 y)), (7, .int (nI k9)), (5, .int (nI p9)), (4, .int (nI n2)), (2, .long x2), (1, .int q), (0, .ref (b 0))]) hx hb dX5_decode_173 hl (by decide) rfl (fun ls hl => ?_)
                          refine lv_iinc (v := nI (k9 + 1)) (lv' := [(7, .int (nI (k9 + 1))), (6, .int ((2 * vl) + 1)), (8, .int (zd x1 y)), (5, .int (nI p9)), (4, .int (nI n2)), (2, .long x2), (1, .int q), (0, .ref (b 0))]) hx hb dX5_decode_175 hl (k := 2) rfl (nI_1 _) (by decide) rfl (fun ls hl => ?_)
                          refine lv_goto (tgt := 88) hx hb dX5_decode_178 (by decide) ?_
                          exact ih_lpb (k9 + 1) (r_lrn (zd x1 y) x) x2 n2 ((2 * vl) + 1) (by omega) (by show (r_db (r_dby (v, xx, nx) k9).1, r_dvl (r_dby (v, xx, nx) k9).1 (r_dby (v, xx, nx) k9).2) = _; rw [hy]; unfold r_db r_dvl; dsimp only; rw [hq0x, if_neg cv]) (hI.2.2 _ _ hxI) (by rw [r_lrn_sz]; exact hxz.trans hqz) (by rw [r_lrn_mk]; exact hxm.trans hqm) (by rw [r_lrn_cs]; exact hxc.trans hqc) (by omega) (by omega) _ _ hP hD hS ls (lv_sub hl [0, 1, 3, 4, 5, 6, 7] rfl)
                      · replace cw : ¬ (r_sam x) = (0 : Int32) := cw
                        have hf1 : 1 ≤ f9 := by
                            rcases Nat.eq_zero_or_pos f9 with h8 | h8
                            · exact absurd (by rw [hx4, h8]; exact H4 _) cw
                            · exact h8
                        refine lv_aload_n hx hb dX5_decode_124 rfl (lv_at hl 7 rfl) ?_
                        refine kVa (rVa (As := []) (rest := []) ⟨hx, hb, hml, hown, hts⟩ (c_X5_shift l D cI cL cM _ b x  ) (cwV 0 hts gX5_decode_X5_shift rfl rfl rfl (by decide +kernel) ⟨(Nat.le_of_ble_eq_true rfl), (Nat.le_of_ble_eq_true rfl)⟩) hE hP hD hS hA 0 rfl rfl rfl hl.1 rfl (Nat.le_of_ble_eq_true rfl) dX5_decode_125 ⟨(Nat.le_of_ble_eq_true rfl), (Nat.le_of_ble_eq_true rfl)⟩) hS (fun H locs hP hD hS => ?_)
                        have hP : va_P D vwCl (rfW cI b (r_shf x)) H := hP
                        have hD : va_D A (rfW cI b (r_shf x)) := hD
                        refine lv_lload_n hx hb dX5_decode_128 rfl (lv_at hl 5 rfl) ?_
                        refine lv_bipush (v := 8) hx hb dX5_decode_129 (by decide) ?_
                        refine lv_lshl hx hb dX5_decode_131 rfl ?_
                        refine lv_ldc2 hx hb hown (hts _ (List.mem_of_getElem? (i := 3) rfl)) dX5_decode_132 ?_
                        refine lv_land hx hb dX5_decode_135 ?_
                        refine lv_aload_n hx hb dX5_decode_136 rfl (lv_at hl 7 rfl) ?_
                        refine lv_iload hx hb dX5_decode_137 (lv_at hl 4 rfl) ?_
                        refine kIa (rVa (As := [.int (nI n2)]) (rest := [.long ((x2 <<< ((8 : Int32).toInt64 &&& 63)) &&& 4294967295)]) ⟨hx, hb, hml, hown, hts⟩ (c_X5_byteOfCode l D cI cL cM _ b (r_shf x) n2 (by rw [r_shf_cs9, hxc, hqc]; exact hb2) (by omega)) (cwV 1 hts gX5_decode_X5_byteOfCode rfl rfl rfl (by decide +kernel) ⟨(Nat.le_of_ble_eq_true rfl), (Nat.le_of_ble_eq_true rfl)⟩) hE hP hD hS hA 0 rfl rfl rfl hl.1 rfl (Nat.le_of_ble_eq_true rfl) dX5_decode_139 ⟨(Nat.le_of_ble_eq_true rfl), (Nat.le_of_ble_eq_true rfl)⟩) hS (fun H locs hP hD hS => ?_)
                        have hP : va_P D vwCl (rfW cI b (r_shf x)) H := hP
                        have hD : va_D A (rfW cI b (r_shf x)) := hD
                        refine lv_i2l hx hb dX5_decode_142 rfl ?_
                        refine lv_ladd hx hb dX5_decode_143 ?_
                        refine lv_lstore_n (lv' := [(2, .long (((x2 <<< ((8 : Int32).toInt64 &&& 63)) &&& 4294967295) + ((r_boc (r_shf x) n2).toInt64))), (8, .int (zd x1 y)), (7, .int (nI k9)), (6, .int vl), (5, .int (nI p9)), (4, .int (nI n2)), (1, .int q), (0, .ref (b 0))]) hx hb dX5_decode_144 rfl hl (by decide) rfl (fun ls hl => ?_)
                        refine lv_iinc (v := nI (n2 + 1)) (lv' := [(4, .int (nI (n2 + 1))), (2, .long (((x2 <<< ((8 : Int32).toInt64 &&& 63)) &&& 4294967295) + ((r_boc (r_shf x) n2).toInt64))), (8, .int (zd x1 y)), (7, .int (nI k9)), (6, .int vl), (5, .int (nI p9)), (1, .int q), (0, .ref (b 0))]) hx hb dX5_decode_145 hl (k := 5) rfl (nI_1 _) (by decide) rfl (fun ls hl => ?_)
                        refine lv_goto (tgt := 117) hx hb dX5_decode_148 (by decide) ?_
                        exact ih_lpw (f9 - 1) (r_shf x) (((x2 <<< ((8 : Int32).toInt64 &&& 63)) &&& 4294967295) + ((r_boc (r_shf x) n2).toInt64)) (n2 + 1) (by omega) ((r_dw_go (d := (x, x2, n2)) cw hf1).trans hxw) (r_shn_s hf1 hf9 hx4) (by rw [r_shf_pv]; exact hxp) (by rw [r_shf_sz9]; exact hxz) (by rw [r_shf_mk9]; exact hxm) (by rw [r_shf_cs9]; exact hxc) (by omega) (by omega) _ _ hP hD hS ls (lv_sub hl [2, 3, 4, 5, 0, 1, 6, 7] rfl)
                  exact lpw _ 4 q0 x1 n1 (Nat.le_refl _) (rfl) (rfl) (rfl) (rfl) (rfl) (rfl) (Nat.le_refl _) (Nat.lt_succ_self _) _ _ hP hD hS ls (lv_sub hl [0, 1, 2, 3, 4, 5, 6, 7] rfl)
                · replace cz : ¬ (0 : Int32) < (lg_cmp x1 (r_mid y)) := cz
                  refine lv_iconst (v := 1) hx hb dX5_decode_104 (by decide) ?_
                  refine lv_goto (tgt := 109) hx hb dX5_decode_105 (by decide) ?_
                  refine topI (y := (zd x1 y)) (by unfold zd; rw [if_neg cz]) ?_
                  refine lv_istore (lv' := [(8, .int (zd x1 y)), (7, .int (nI k9)), (6, .int vl), (5, .int (nI p9)), (4, .int (nI n1)), (2, .long x1), (1, .int q), (0, .ref (b 0))]) hx hb dX5_decode_109 hl (by decide) rfl (fun ls hl => ?_)
                  refine lv_aload_n hx hb dX5_decode_111 rfl (lv_at hl 7 rfl) ?_
                  refine lv_iload hx hb dX5_decode_112 (lv_at hl 0 rfl) ?_
                  refine kVa (rVa (As := [.int (zd x1 y)]) (rest := []) ⟨hx, hb, hml, hown, hts⟩ (c_X5_part l D cI cL cM _ b y (zd x1 y) (hI.1 _ hyI).1 (hI.1 _ hyI).2) (cwV 1 hts gX5_decode_X5_part rfl rfl rfl (by decide +kernel) ⟨(Nat.le_of_ble_eq_true rfl), (Nat.le_of_ble_eq_true rfl)⟩) hE hP hD hS hA 0 rfl rfl rfl hl.1 rfl (Nat.le_of_ble_eq_true rfl) dX5_decode_114 ⟨(Nat.le_of_ble_eq_true rfl), (Nat.le_of_ble_eq_true rfl)⟩) hS (fun H locs hP hD hS => ?_)
                  have hP : va_P D vwCl (rfW cI b (r_prt (zd x1 y) y)) H := hP
                  have hD : va_D A (rfW cI b (r_prt (zd x1 y) y)) := hD
                  obtain ⟨q0, hq0⟩ : ∃ y9 : RS, y9 = (r_prt (zd x1 y) y) := ⟨_, rfl⟩
                  rw [← hq0] at hP hD
                  have hqp : pv q0 = pv y := by rw [hq0]; exact r_prt_pv _ _
                  have hqz : r_sz q0 = r_sz e2 := by rw [hq0, r_prt_sz]; exact hyz
                  have hqm : r_mk q0 = r_mk e2 := by rw [hq0, r_prt_mk]; exact hym
                  have hqc : r_cs q0 = r_cs e2 := by rw [hq0, r_prt_cs]; exact hyc
                  have lpw : ∀ (n9 : Nat) (f9 : Nat) (x : RS) (x2 : Int64) (n2 : Nat) (hf9 : f9 ≤ 4) (hxw : r_dw f9 (x, x2, n2) = r_dw 4 (q0, x1, n1)) (hx4 : x = r_shn (4 - f9) q0) (hxp : pv x = pv q0) (hxz : r_sz x = r_sz q0) (hxm : r_mk x = r_mk q0) (hxc : r_cs x = r_cs q0) (hxn : n2 + f9 ≤ n1 + 4), f9 < n9 → ∀ (H : Heap) (locs : List Loc), va_P D vwCl (rfW cI b x) H → va_D A (rfW cI b x) → va_S A s.heap H locs → ∀ (ls : Array Slot), lv_has ls 9 [(8, .int (zd x1 y)), (7, .int (nI k9)), (6, .int vl), (5, .int (nI p9)), (4, .int (nI n2)), (2, .long x2), (1, .int q), (0, .ref (b 0))] → W p l e (headSpec wsX5_decode ({ frames := 6, cells := 0, slots := 0, locals := 134 })).room s m (([.ref (b 0), .int q] : List Value).toArray) below meth c H locs 0 0 (MQ below (va_Qi (fun x (_ : Unit) => x = (if isI q 0 80 = 0 then 0 else dfR (r_dec q.toNatClampNeg u) (min (r_sz (r_dec q.toNatClampNeg u)) (r_mk (r_dec q.toNatClampNeg u))))) (fun _ t => hq D A (rfW cI b (if isI q 0 80 = 0 then (rs_th (rs_th u 0) 1) else r_dec q.toNatClampNeg u)) t) A) (([.ref (b 0), .int q] : List Value).toArray) s 0 0 A) (F0 m 117 ls []) := by
                    intro n9
                    induction n9 with
                    | zero => intro f9 x x2 n2 hf9 hxw hx4 hxp hxz hxm hxc hxn hm9; exact absurd hm9 (Nat.not_lt_zero _)
                    | succ n9 ih_lpw =>
                      intro f9 x x2 n2 hf9 hxw hx4 hxp hxz hxm hxc hxn hm9 H locs hP hD hS ls hl
                      refine lv_aload_n hx hb dX5_decode_117 rfl (lv_at hl 7 rfl) ?_
                      refine kIa (rVa (As := []) (rest := []) ⟨hx, hb, hml, hown, hts⟩ (c_X5_areSame l D cI cL cM _ b x  ) (cwV 0 hts gX5_decode_X5_areSame rfl rfl rfl (by decide +kernel) ⟨(Nat.le_of_ble_eq_true rfl), (Nat.le_of_ble_eq_true rfl)⟩) hE hP hD hS hA 0 rfl rfl rfl hl.1 rfl (Nat.le_of_ble_eq_true rfl) dX5_decode_118 ⟨(Nat.le_of_ble_eq_true rfl), (Nat.le_of_ble_eq_true rfl)⟩) hS (fun H locs hP hD hS => ?_)
                      have hP : va_P D vwCl (rfW cI b x) H := hP
                      have hD : va_D A (rfW cI b x) := hD
                      refine lv_if_eq (tgt := 151) hx hb dX5_decode_121 (by decide) (fun cw => ?_) (fun cw => ?_)
                      · replace cw : (r_sam x) = (0 : Int32) := cw
                        have hxI : I x := hI.2.1 _ _ (hxp.trans hqp) hyI
                        have hq0x : r_dw 4 (r_prt (zd x1 y) y, x1, n1) = (x, x2, n2) := by rw [← hq0, ← hxw]; exact r_dw_stop (d := (x, x2, n2)) cw f9
                        refine lv_aload_n hx hb dX5_decode_151 rfl (lv_at hl 7 rfl) ?_
                        refine lv_iload hx hb dX5_decode_152 (lv_at hl 0 rfl) ?_
                        refine kIa (rVa (As := [.int (zd x1 y)]) (rest := []) ⟨hx, hb, hml, hown, hts⟩ (c_X5_learn l D cI cL cM _ b x (zd x1 y) (hI.1 _ hxI).1 (hI.1 _ hxI).2) (cwV 1 hts gX5_decode_X5_learn rfl rfl rfl (by decide +kernel) ⟨(Nat.le_of_ble_eq_true rfl), (Nat.le_of_ble_eq_true rfl)⟩) hE hP hD hS hA 0 rfl rfl rfl hl.1 rfl (Nat.le_of_ble_eq_true rfl) dX5_decode_154 ⟨(Nat.le_of_ble_eq_true rfl), (Nat.le_of_ble_eq_true rfl)⟩) hS (fun H locs hP hD hS => ?_)
                        have hP : va_P D vwCl (rfW cI b (r_lrn (zd x1 y) x)) H := hP
                        have hD : va_D A (rfW cI b (r_lrn (zd x1 y) x)) := hD
                        refine lv_pop hx hb dX5_decode_157 rfl ?_
                        refine lv_iconst (v := 2) hx hb dX5_decode_158 (by decide) ?_
                        refine lv_iload hx hb dX5_decode_159 (lv_at hl 2 rfl) ?_
                        refine lv_imul hx hb dX5_decode_161 ?_
                        refine lv_iload hx hb dX5_decode_162 (lv_at hl 0 rfl) ?_
                        refine lv_if_eq (tgt := 171) hx hb dX5_decode_164 (by decide) (fun cv => ?_) (fun cv => ?_)
                        · replace cv : (zd x1 y) = (0 : Int32) := cv
                          refine lv_iconst (v := 0) hx hb dX5_decode_171 (by decide) ?_
                          refine lv_iadd hx hb dX5_decode_172 ?_
                          refine lv_istore (lv' := [(6, .int ((2 * vl) + 0)), (8, .int (zd x1 y)), (7, .int (nI k9)), (5, .int (nI p9)), (4, .int (nI n2)), (2, .long x2), (1, .int q), (0, .ref (b 0))]) hx hb dX5_decode_173 hl (by decide) rfl (fun ls hl => ?_)
                          refine lv_iinc (v := nI (k9 + 1)) (lv' := [(7, .int (nI (k9 + 1))), (6, .int ((2 * vl) + 0)), (8, .int (zd x1 y)), (5, .int (nI p9)), (4, .int (nI n2)), (2, .long x2), (1, .int q), (0, .ref (b 0))]) hx hb dX5_decode_175 hl (k := 2) rfl (nI_1 _) (by decide) rfl (fun ls hl => ?_)
                          refine lv_goto (tgt := 88) hx hb dX5_decode_178 (by decide) ?_
                          exact ih_lpb (k9 + 1) (r_lrn (zd x1 y) x) x2 n2 ((2 * vl) + 0) (by omega) (by show (r_db (r_dby (v, xx, nx) k9).1, r_dvl (r_dby (v, xx, nx) k9).1 (r_dby (v, xx, nx) k9).2) = _; rw [hy]; unfold r_db r_dvl; dsimp only; rw [hq0x, if_pos cv]) (hI.2.2 _ _ hxI) (by rw [r_lrn_sz]; exact hxz.trans hqz) (by rw [r_lrn_mk]; exact hxm.trans hqm) (by rw [r_lrn_cs]; exact hxc.trans hqc) (by omega) (by omega) _ _ hP hD hS ls (lv_sub hl [0, 1, 3, 4, 5, 6, 7] rfl)
                        · replace cv : ¬ (zd x1 y) = (0 : Int32) := cv
                          refine lv_iconst (v := 1) hx hb dX5_decode_167 (by decide) ?_
                          refine lv_goto (tgt := 172) hx hb dX5_decode_168 (by decide) ?_
                          refine lv_iadd hx hb dX5_decode_172 ?_
                          refine lv_istore (lv' := [(6, .int ((2 * vl) + 1)), (8, .int (zd x1 y)), (7, .int (nI k9)), (5, .int (nI p9)), (4, .int (nI n2)), (2, .long x2), (1, .int q), (0, .ref (b 0))]) hx hb dX5_decode_173 hl (by decide) rfl (fun ls hl => ?_)
                          refine lv_iinc (v := nI (k9 + 1)) (lv' := [(7, .int (nI (k9 + 1))), (6, .int ((2 * vl) + 1)), (8, .int (zd x1 y)), (5, .int (nI p9)), (4, .int (nI n2)), (2, .long x2), (1, .int q), (0, .ref (b 0))]) hx hb dX5_decode_175 hl (k := 2) rfl (nI_1 _) (by decide) rfl (fun ls hl => ?_)
                          refine lv_goto (tgt := 88) hx hb dX5_decode_178 (by decide) ?_
                          exact ih_lpb (k9 + 1) (r_lrn (zd x1 y) x) x2 n2 ((2 * vl) + 1) (by omega) (by show (r_db (r_dby (v, xx, nx) k9).1, r_dvl (r_dby (v, xx, nx) k9).1 (r_dby (v, xx, nx) k9).2) = _; rw [hy]; unfold r_db r_dvl; dsimp only; rw [hq0x, if_neg cv]) (hI.2.2 _ _ hxI) (by rw [r_lrn_sz]; exact hxz.trans hqz) (by rw [r_lrn_mk]; exact hxm.trans hqm) (by rw [r_lrn_cs]; exact hxc.trans hqc) (by omega) (by omega) _ _ hP hD hS ls (lv_sub hl [0, 1, 3, 4, 5, 6, 7] rfl)
                      · replace cw : ¬ (r_sam x) = (0 : Int32) := cw
                        have hf1 : 1 ≤ f9 := by
                            rcases Nat.eq_zero_or_pos f9 with h8 | h8
                            · exact absurd (by rw [hx4, h8]; exact H4 _) cw
                            · exact h8
                        refine lv_aload_n hx hb dX5_decode_124 rfl (lv_at hl 7 rfl) ?_
                        refine kVa (rVa (As := []) (rest := []) ⟨hx, hb, hml, hown, hts⟩ (c_X5_shift l D cI cL cM _ b x  ) (cwV 0 hts gX5_decode_X5_shift rfl rfl rfl (by decide +kernel) ⟨(Nat.le_of_ble_eq_true rfl), (Nat.le_of_ble_eq_true rfl)⟩) hE hP hD hS hA 0 rfl rfl rfl hl.1 rfl (Nat.le_of_ble_eq_true rfl) dX5_decode_125 ⟨(Nat.le_of_ble_eq_true rfl), (Nat.le_of_ble_eq_true rfl)⟩) hS (fun H locs hP hD hS => ?_)
                        have hP : va_P D vwCl (rfW cI b (r_shf x)) H := hP
                        have hD : va_D A (rfW cI b (r_shf x)) := hD
                        refine lv_lload_n hx hb dX5_decode_128 rfl (lv_at hl 5 rfl) ?_
                        refine lv_bipush (v := 8) hx hb dX5_decode_129 (by decide) ?_
                        refine lv_lshl hx hb dX5_decode_131 rfl ?_
                        refine lv_ldc2 hx hb hown (hts _ (List.mem_of_getElem? (i := 3) rfl)) dX5_decode_132 ?_
                        refine lv_land hx hb dX5_decode_135 ?_
                        refine lv_aload_n hx hb dX5_decode_136 rfl (lv_at hl 7 rfl) ?_
                        refine lv_iload hx hb dX5_decode_137 (lv_at hl 4 rfl) ?_
                        refine kIa (rVa (As := [.int (nI n2)]) (rest := [.long ((x2 <<< ((8 : Int32).toInt64 &&& 63)) &&& 4294967295)]) ⟨hx, hb, hml, hown, hts⟩ (c_X5_byteOfCode l D cI cL cM _ b (r_shf x) n2 (by rw [r_shf_cs9, hxc, hqc]; exact hb2) (by omega)) (cwV 1 hts gX5_decode_X5_byteOfCode rfl rfl rfl (by decide +kernel) ⟨(Nat.le_of_ble_eq_true rfl), (Nat.le_of_ble_eq_true rfl)⟩) hE hP hD hS hA 0 rfl rfl rfl hl.1 rfl (Nat.le_of_ble_eq_true rfl) dX5_decode_139 ⟨(Nat.le_of_ble_eq_true rfl), (Nat.le_of_ble_eq_true rfl)⟩) hS (fun H locs hP hD hS => ?_)
                        have hP : va_P D vwCl (rfW cI b (r_shf x)) H := hP
                        have hD : va_D A (rfW cI b (r_shf x)) := hD
                        refine lv_i2l hx hb dX5_decode_142 rfl ?_
                        refine lv_ladd hx hb dX5_decode_143 ?_
                        refine lv_lstore_n (lv' := [(2, .long (((x2 <<< ((8 : Int32).toInt64 &&& 63)) &&& 4294967295) + ((r_boc (r_shf x) n2).toInt64))), (8, .int (zd x1 y)), (7, .int (nI k9)), (6, .int vl), (5, .int (nI p9)), (4, .int (nI n2)), (1, .int q), (0, .ref (b 0))]) hx hb dX5_decode_144 rfl hl (by decide) rfl (fun ls hl => ?_)
                        refine lv_iinc (v := nI (n2 + 1)) (lv' := [(4, .int (nI (n2 + 1))), (2, .long (((x2 <<< ((8 : Int32).toInt64 &&& 63)) &&& 4294967295) + ((r_boc (r_shf x) n2).toInt64))), (8, .int (zd x1 y)), (7, .int (nI k9)), (6, .int vl), (5, .int (nI p9)), (1, .int q), (0, .ref (b 0))]) hx hb dX5_decode_145 hl (k := 5) rfl (nI_1 _) (by decide) rfl (fun ls hl => ?_)
                        refine lv_goto (tgt := 117) hx hb dX5_decode_148 (by decide) ?_
                        exact ih_lpw (f9 - 1) (r_shf x) (((x2 <<< ((8 : Int32).toInt64 &&& 63)) &&& 4294967295) + ((r_boc (r_shf x) n2).toInt64)) (n2 + 1) (by omega) ((r_dw_go (d := (x, x2, n2)) cw hf1).trans hxw) (r_shn_s hf1 hf9 hx4) (by rw [r_shf_pv]; exact hxp) (by rw [r_shf_sz9]; exact hxz) (by rw [r_shf_mk9]; exact hxm) (by rw [r_shf_cs9]; exact hxc) (by omega) (by omega) _ _ hP hD hS ls (lv_sub hl [2, 3, 4, 5, 0, 1, 6, 7] rfl)
                  exact lpw _ 4 q0 x1 n1 (Nat.le_refl _) (rfl) (rfl) (rfl) (rfl) (rfl) (rfl) (Nat.le_refl _) (Nat.lt_succ_self _) _ _ hP hD hS ls (lv_sub hl [0, 1, 2, 3, 4, 5, 6, 7] rfl)
          exact lpb _ 0 v xx nx 0 (Nat.zero_le _) (rfl) (hvI) (hvz) (hvm) (hvc) (by omega) (Nat.lt_succ_self _) _ _ hP hD hS ls (lv_sub hl [0, 1, 2, 3, 4, 5, 6] rfl)
    exact lpp _ 0 e2 (r_x0 e1) 4 (Nat.zero_le _) (rfl) (hI2) (rfl) (rfl) (rfl) (by omega) (Nat.lt_succ_self _) _ _ hP hD hS ls (lv_sub hl [0, 1, 2, 4, 3] rfl)
  · replace cm : (isI q 0 80) = (0 : Int32) := cm
    refine lv_aload_n hx hb dX5_decode_15 rfl (lv_at hl 0 rfl) ?_
    refine lv_iconst (v := 1) hx hb dX5_decode_16 (by decide) ?_
    refine kIa (rVa (As := [.int 1]) (rest := []) ⟨hx, hb, hml, hown, hts⟩ (c_X5_no l D cI cL cM _ b (rs_th u 0) 1 ) (cwV 1 hts gX5_decode_X5_no rfl rfl rfl (by decide +kernel) ⟨(Nat.le_of_ble_eq_true rfl), (Nat.le_of_ble_eq_true rfl)⟩) hE hP hD hS hA 0 rfl rfl rfl hl.1 rfl (Nat.le_of_ble_eq_true rfl) dX5_decode_17 ⟨(Nat.le_of_ble_eq_true rfl), (Nat.le_of_ble_eq_true rfl)⟩) hS (fun H locs hP hD hS => ?_)
    have hP : va_P D vwCl (rfW cI b (rs_th (rs_th u 0) 1)) H := hP
    have hD : va_D A (rfW cI b (rs_th (rs_th u 0) 1)) := hD
    have hw9 : (rfW cI b (rs_th (rs_th u 0) 1)) = (rfW cI b (if isI q 0 80 = 0 then (rs_th (rs_th u 0) 1) else r_dec q.toNatClampNeg u)) := by first | (rw [if_pos cm]; try rfl) | (rw [if_neg cm, hcl, hfin])
    rw [hw9] at hP hD
    exact W.iret (v := (0)) hx hb hr (fun t ht hW => ⟨⟨(0), (), rfl, by (first | (rw [if_pos cm]) | (rw [if_neg cm, hcl, hfin])), by rw [ht]; exact hP, hD⟩, hS.F ht⟩) hS.2.2 dX5_decode_20
