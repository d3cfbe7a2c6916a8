/-! ===== constructors ===== -/
def mC {S : Type} (l : Launch) (y : MethodName) (wy : List Cond) (rm : Room) (D : va_G) (T : List (ClassId × FieldType)) (A : Nat → Prop) (av : List Value) (ws : va_W) (W1 : S → va_W) (mc ms : Nat) : Prop :=
  Met l y wy rm (va_Pc av (fun U => ho D T A ws U ∧ va_AO RX2 U)) (va_Qv (fun (_ : S) => True) (fun u t => hq D A (W1 u) t) A) mc ms A
theorem hoC_blind {D : va_G} {T : List (ClassId × FieldType)} {A : Nat → Prop} {ws : va_W} {av : List Value} : FrameBlind (va_Pc av (fun U => ho D T A ws U ∧ va_AO RX2 U)) := fun a U g mk q => ⟨q.1, ⟨q.2.1.1, ev_same rfl q.2.1.2.1, q.2.1.2.2.1, q.2.1.2.2.2⟩, va_AO.moved (u := U) (U := U.calling g mk a) (Vm.Alike.refl U.vm) q.2.2⟩
theorem liftC {D : va_G} {A : Nat → Prop} {X W1 : va_W} {c0 : Nat × va_E} {H H1 : Heap} (hP : va_P D vwCl (X ++ [c0]) H) (hD : va_D A (X ++ [c0])) (hfr : ∀ q, va_A [c0] H.size q → A q)
    (hk : ∀ q : Nat, q < H.size → ¬ va_A [c0] H.size q → H1[q]? = H[q]?) (hP1 : va_P D vwCl W1 H1) (hD1 : va_D (va_A [c0] H.size) W1) : va_P D vwCl (X ++ W1) H1 ∧ va_D A (X ++ W1) := by
  have hX : ∀ (i : Nat) (q : Nat × va_E), X[i]? = some q → (X ++ [c0])[i]? = some q ∧ i < X.length := fun i q h => by
    have hl := (List.getElem?_eq_some_iff.mp h).1
    exact ⟨by rw [List.getElem?_append_left hl]; exact h, hl⟩
  have hc0 : (X ++ [c0])[X.length]? = some c0 := by rw [List.getElem?_append_right (Nat.le_refl _), Nat.sub_self]; rfl
  have hno : ∀ (i : Nat) (q : Nat × va_E), X[i]? = some q → ¬ va_A [c0] H.size q.1 := fun i q h h9 => by
    obtain ⟨h1, h2⟩ := hX i q h
    rcases h9 with ⟨k, e, h9⟩ | h9
    · have hk0 : k < 1 := (List.getElem?_eq_some_iff.mp h9).1
      rw [show k = 0 by omega] at h9
      cases h9
      have := hD.1 i X.length q _ h1 hc0 rfl
      omega
    · have := (hP i q h1).lt
      omega
  have spl : ∀ (i : Nat) (q : Nat × va_E), (X ++ W1)[i]? = some q → X[i]? = some q ∨ (X.length ≤ i ∧ W1[i - X.length]? = some q) := fun i q h => by
    by_cases hl : i < X.length
    · rw [List.getElem?_append_left hl] at h
      exact Or.inl h
    · rw [List.getElem?_append_right (by omega)] at h
      exact Or.inr ⟨by omega, h⟩
  refine ⟨fun i q h => ?_, fun i j p q h1 h2 he => ?_, fun i q h => ?_⟩
  · rcases spl i q h with h | ⟨_, h⟩
    · obtain ⟨h1, _⟩ := hX i q h
      exact (hP i q h1).kept (hk _ (hP i q h1).lt (hno i q h))
    · exact hP1 _ q h
  · rcases spl i p h1 with h1 | ⟨g1, h1⟩ <;> rcases spl j q h2 with h2 | ⟨g2, h2⟩
    · exact hD.1 i j p q (hX i p h1).1 (hX j q h2).1 he
    · exact absurd (by rw [he]; exact hD1.2 _ q h2) (hno i p h1)
    · exact absurd (by rw [← he]; exact hD1.2 _ p h1) (hno j q h2)
    · have := hD1.1 _ _ p q h1 h2 he
      omega
  · rcases spl i q h with h | ⟨_, h⟩
    · exact hD.2 i q (hX i q h).1
    · exact hfr _ (hD1.2 _ q h)
section CTR
variable {p : Program} {l : Launch} {e : Env} {R : Room} {s : State} {m : MethodId} {args : Array Value} {below : List Frame} {meth : Method} {c : Code} {H : Heap} {locs : List Loc} {cells slots : Nat} {Q : State → Prop}
variable {y : MethodName} {bytes cc : ByteArray} {maxL nL n index pc mc ms : Nat} {wy : List Cond} {rm : Room} {Ts : List Cond} {own : String} {b : Addr} {As rest st0 : List Value} {ls : Array Slot} {D : va_G} {T : List (ClassId × FieldType)} {A : Nat → Prop} {X : va_W} {c0 : Nat × va_E} {H0 : Heap}
theorem cC (hx : X = X) : [X.length].map (fun i => (X ++ [c0])[i]?) = [c0].map some := by
  show [(X ++ [c0])[X.length]?] = [some c0]
  rw [List.getElem?_append_right (Nat.le_refl _), Nat.sub_self]
  rfl
theorem kC {S : Type} {W1 : S → va_W} (Sx : CallFix p m c cc nL s args Ts own) (hM : mC l y wy rm D T (va_A [c0] H.size) (.ref b :: As) [c0] W1 mc ms) (cw : CallB R s args own index y bytes maxL none wy rm mc ms n ∧ y.name = "<init>" ∧ (Cond.instanceMethod y).before args s = true)
    (hE : ev D T s) (hO : va_AO RX2 s) (hP : va_P D vwCl (X ++ [c0]) H) (hD : va_D A (X ++ [c0])) (hS : va_S A H0 H locs) (hA : ∀ q, H0.size ≤ q → A q)
    (hl : As.length = n) (hsize : ls.size = nL) (hst : st0 = As.reverse ++ .ref b :: rest) (hr : (rest.map fun v => v.category).sum ≤ 8) (hdg : decode cc pc = .ok (.invokespecial index, 3)) (hf : cells + mc ≤ R.cells ∧ slots + ms ≤ R.slots)
    (kk : ∀ (u : S) (H : Heap) (locs : List Loc), va_P D vwCl (X ++ W1 u) H → va_D A (X ++ W1 u) → va_S A H0 H locs → W p l e R s m args below meth c H locs (cells + mc) (slots + ms) Q (F0 m (pc + 3) ls rest)) : W p l e R s m args below meth c H locs cells slots Q (F0 m pc ls st0) :=
  have hfr := free_A (is := [X.length]) hD hS hA (cC rfl)
  va_callv (va_runI Sx hM cw ⟨hoC_blind, fun U hU hW => ⟨rfl, ho_sub hE hP hD (is := [X.length]) rfl (cC rfl) hU hW, va_AO.moved hW.alike hO⟩⟩ rfl hl hsize hst (lv_room hr) hdg hf) hS (fun q _ h => hfr q h) hfr
    (fun u t H1 locs1 ht _ _ hB _ hk hS1 => by
      obtain ⟨g1, g2⟩ := liftC hP hD hfr hk (by rw [← ht]; exact hB.1) hB.2
      exact kk u H1 locs1 g1 g2 hS1)
variable {cI cL cM : ClassId} {ws : va_W}
theorem newI (hexec : p.tables.exec = Jvm.exec) (hb : c.code = cc) (harr : (Cond.arrayClass .int).before args s = true) (hK : va_K D vwCl (tB cI cL cM) s) (hP : va_P D vwCl ws H) (hD : va_D A ws) (hS : va_S A H0 H locs) (hA : ∀ q, H0.size ≤ q → A q)
    (N : Nat) {i : Int32} (hn : ¬ i < 0) (hN : i.toNatClampNeg = N) (hbytes : N * 4 ≤ 536870912) (hcells : cells + 1 ≤ R.cells) (hslots : slots + N ≤ R.slots) (hdg : decode cc pc = .ok (.newarray .int, 2))
    (kk : ∀ (q : Nat) (H : Heap), va_P D vwCl (ws ++ [(q, .inl (cI, N, .inl (fun _ => 0)))]) H → va_D A (ws ++ [(q, .inl (cI, N, .inl (fun _ => 0)))]) → va_S A H0 H locs → W p l e R s m args below meth c H locs (cells + 1) (slots + N) Q (F0 m (pc + 2) ls (.ref q :: rest))) : W p l e R s m args below meth c H locs cells slots Q (F0 m pc ls (.int i :: rest)) :=
  va_newa (atype := .int) (ty := .int) (a0 := (N, .inl (fun _ => 0))) hexec hb harr rfl hK hP hD hS hA (fun _ => rfl) hn hN hbytes hcells hslots hdg (fun q cA H1 hK1 hP hD hS => by
    have h1 : s.vm.findClass "[I" = some cA := va_nm_int (hK1.2 3 (cA, .int) rfl).2
    have h2 : s.vm.findClass "[I" = some cI := va_nm_int (hK.2 0 (cI, .int) rfl).2
    obtain rfl : cA = cI := Option.some.inj (h1.symm.trans h2)
    exact kk q H1 hP hD hS)
theorem newL (hexec : p.tables.exec = Jvm.exec) (hb : c.code = cc) (harr : (Cond.arrayClass .long).before args s = true) (hK : va_K D vwCl (tB cI cL cM) s) (hP : va_P D vwCl ws H) (hD : va_D A ws) (hS : va_S A H0 H locs) (hA : ∀ q, H0.size ≤ q → A q)
    (N : Nat) {i : Int32} (hn : ¬ i < 0) (hN : i.toNatClampNeg = N) (hbytes : N * 8 ≤ 536870912) (hcells : cells + 1 ≤ R.cells) (hslots : slots + N ≤ R.slots) (hdg : decode cc pc = .ok (.newarray .long, 2))
    (kk : ∀ (q : Nat) (H : Heap), va_P D vwCl (ws ++ [(q, .inl (cL, N, .inr (.inl (fun _ => 0))))]) H → va_D A (ws ++ [(q, .inl (cL, N, .inr (.inl (fun _ => 0))))]) → va_S A H0 H locs → W p l e R s m args below meth c H locs (cells + 1) (slots + N) Q (F0 m (pc + 2) ls (.ref q :: rest))) : W p l e R s m args below meth c H locs cells slots Q (F0 m pc ls (.int i :: rest)) :=
  va_newa (atype := .long) (ty := .long) (a0 := (N, .inr (.inl (fun _ => 0)))) hexec hb harr rfl hK hP hD hS hA (fun _ => rfl) hn hN hbytes hcells hslots hdg (fun q cA H1 hK1 hP hD hS => by
    have h1 : s.vm.findClass "[J" = some cA := va_nm_long (hK1.2 3 (cA, .long) rfl).2
    have h2 : s.vm.findClass "[J" = some cL := va_nm_long (hK.2 1 (cL, .long) rfl).2
    obtain rfl : cA = cL := Option.some.inj (h1.symm.trans h2)
    exact kk q H1 hP hD hS)
theorem newM (hexec : p.tables.exec = Jvm.exec) (hb : c.code = cc) {index : Nat} (hown : s.vm.findClass own = some m.cls) (hclink : (Cond.classLink own index RX2).before args s = true) (hO : va_AO RX2 s) (hK : va_K D vwCl (tB cI cL cM) s) (hP : va_P D vwCl ws H) (hD : va_D A ws) (hS : va_S A H0 H locs) (hA : ∀ q, H0.size ≤ q → A q)
    (N : Nat) {i : Int32} (hn : ¬ i < 0) (hN : i.toNatClampNeg = N) (hbytes : N * 4 ≤ 536870912) (hcells : cells + 1 ≤ R.cells) (hslots : slots + N ≤ R.slots) (hdg : decode cc pc = .ok (.anewarray index, 3))
    (kk : ∀ (q : Nat) (H : Heap), va_P D vwCl (ws ++ [(q, .inl (cM, N, .inr (.inr (.inr (.inr (fun _ => none))))))]) H → va_D A (ws ++ [(q, .inl (cM, N, .inr (.inr (.inr (.inr (fun _ => none))))))]) → va_S A H0 H locs → W p l e R s m args below meth c H locs (cells + 1) (slots + N) Q (F0 m (pc + 3) ls (.ref q :: rest))) : W p l e R s m args below meth c H locs cells slots Q (F0 m pc ls (.int i :: rest)) :=
  va_newq hexec hb hown hclink hO hK hP hD hS hA hn hN hbytes hcells hslots hdg (fun q cA H1 hK1 hP hD hS => by
    obtain ⟨_, _, _, _, _, h1⟩ := (hK1.2 3 (cA, .object RX2) rfl).2
    obtain ⟨_, _, _, _, _, h2⟩ := (hK.2 2 (cM, .object RX2) rfl).2
    obtain rfl : cA = cM := Option.some.inj (h1.symm.trans h2)
    exact kk q H1 hP hD hS)
end CTR
theorem vpq_congr {D : va_G} {H : Heap} {q n : Nat} {cM : ClassId} {f g : Nat → Option Nat} (h : ∀ j, j < n → f j = g j) (hP : va_at D vwCl (q, .inl (cM, n, .inr (.inr (.inr (.inr f))))) H) : va_at D vwCl (q, .inl (cM, n, .inr (.inr (.inr (.inr g))))) H := by
  have e : vp_cell cM (n, .inr (.inr (.inr (.inr f)))) = vp_cell cM (n, .inr (.inr (.inr (.inr g)))) := by
    rw [vp_cell_q, vp_cell_q]
    unfold arrV
    congr 1
    refine congrArg Array.ofFn (funext fun j => ?_)
    show va_rf (f j.val) = va_rf (g j.val)
    rw [h j.val j.isLt]
  show H[q]? = some (vp_cell cM (n, .inr (.inr (.inr (.inr g)))))
  rw [← e]
  exact hP

theorem nw0_df : ∀ j, j < 2 → defaultValue (tyX0 j) = vp_V [.null, .int 0] j := by
  intro j hj
  rcases (show j = 0 ∨ j = 1 by omega) with rfl | rfl <;> rfl

theorem nw1_df : ∀ j, j < 4 → defaultValue (tyX1 j) = vp_V [.long 0, .long 0, .long 0, .int 0] j := by
  intro j hj
  rcases (show j = 0 ∨ j = 1 ∨ j = 2 ∨ j = 3 by omega) with rfl | rfl | rfl | rfl <;> rfl

theorem nw2_df : ∀ j, j < 10 → defaultValue (tyX2 j) = vp_V [.int 0, .int 0, .int 0, .null, .null, .null, .int 0, .int 0, .long 0, .int 0] j := by
  intro j hj
  rcases (show j = 0 ∨ j = 1 ∨ j = 2 ∨ j = 3 ∨ j = 4 ∨ j = 5 ∨ j = 6 ∨ j = 7 ∨ j = 8 ∨ j = 9 by omega) with rfl | rfl | rfl | rfl | rfl | rfl | rfl | rfl | rfl | rfl <;> rfl

theorem nw3_df : ∀ j, j < 7 → defaultValue (tyX3 j) = vp_V [.null, .int 0, .null, .int 0, .int 0, .int 0, .long 0] j := by
  intro j hj
  rcases (show j = 0 ∨ j = 1 ∨ j = 2 ∨ j = 3 ∨ j = 4 ∨ j = 5 ∨ j = 6 by omega) with rfl | rfl | rfl | rfl | rfl | rfl | rfl <;> rfl

theorem nw4_df : ∀ j, j < 5 → defaultValue (tyX4 j) = vp_V [.null, .null, .null, .null, .null] j := by
  intro j hj
  rcases (show j = 0 ∨ j = 1 ∨ j = 2 ∨ j = 3 ∨ j = 4 by omega) with rfl | rfl | rfl | rfl | rfl <;> rfl

theorem nw5_df : ∀ j, j < 22 → defaultValue (tyX5 j) = vp_V [.int 0, .int 0, .null, .null, .null, .int 0, .null, .null, .null, .null, .null, .null, .null, .int 0, .int 0, .long 0, .int 0, .null, .int 0, .null, .long 0, .long 0] j := by
  intro j hj
  rcases (show j = 0 ∨ j = 1 ∨ j = 2 ∨ j = 3 ∨ j = 4 ∨ j = 5 ∨ j = 6 ∨ j = 7 ∨ j = 8 ∨ j = 9 ∨ j = 10 ∨ j = 11 ∨ j = 12 ∨ j = 13 ∨ j = 14 ∨ j = 15 ∨ j = 16 ∨ j = 17 ∨ j = 18 ∨ j = 19 ∨ j = 20 ∨ j = 21 by omega) with rfl | rfl | rfl | rfl | rfl | rfl | rfl | rfl | rfl | rfl | rfl | rfl | rfl | rfl | rfl | rfl | rfl | rfl | rfl | rfl | rfl | rfl <;> rfl

def row0 : Row := (0, fun _ => 0)
def iv0 : Iv := (0, 0, 0, 0)
def mo0 : Mo := (0, 0, 0, (fun _ => 0), (fun _ => 0), (fun _ => 0), 0, 0, 0, 0)
def k0 : Pr := ((fun _ => mo0), 0, (fun _ => 0), 0, 0, 0, 0)
def mx0 : Mx := (row0, row0, row0, k_rs k0, v_opn iv0)
def u00 : RS := (0, 0, (fun _ => 0), (fun _ => 0), (fun _ => 0), 0, (fun _ => 0), (fun _ => 0), (fun _ => 0), (fun _ => 0), (fun _ => 0), (fun _ => 0), (fun _ => 0), 0, 0, 0, 0, (fun _ => 0), 0, (fun _ => 0), 0, 0)
theorem mxx {n : Nat} (h : n < 2147483648) : (if nI n < (0 : Int32) then 0 else nI n) = nI n := if_neg (by rw [Int32.lt_iff_toInt_lt, nI_toInt h, tI0]; omega)
theorem nn0 {n : Nat} (h : n < 2147483648) : ¬ nI n < 0 := by rw [Int32.lt_iff_toInt_lt, nI_toInt h, tI0]; omega

set_option maxHeartbeats 4000000 in
set_option maxRecDepth 100000 in
theorem c_X0_init (l : Launch) (D : va_G) (cI cL cM : ClassId) (A : Nat → Prop) (h0 lim : Nat) (hlim : lim * 4 ≤ 536870912) : mC l yX0_init wsX0_init ({ frames := 1, cells := 1, slots := lim, locals := 24 }) D (tB cI cL cM) A [.ref h0, .int (nI lim)] [(h0, .inr (0, [.null, .int 0]))] (fun (u : Nat) => rowW cI h0 u lim row0) 1 lim := by
  refine Met.ofW (cc := cX0_init) (maxL := 2) (ret := none) (by decide) rfl ?_
  intro p e s m args below meth c s₁ B hml hv
  obtain ⟨rfl, ⟨hP, hE, hD, hA⟩, hO⟩ := hv
  have hK := hE.1
  have hx := B.exec
  have hb := B.bytes
  have hr := B.returns
  have hts := atoms_spec (ws := wsX0_init) B.pre
  have hown : s.vm.findClass RX0 = some m.cls := findClass_of_methodNamed B.named
  have hlocks := B.notSynchronized
  have hin : meth.name = "<init>" := (name_of_methodNamed B.named B.method).1
  have hS : va_S A s.heap s.heap [] := va_S.rf
  have hl := lv_entry ([.ref h0, .int (nI lim)]) (n := 2) (Nat.le_of_ble_eq_true rfl)
  rw [lg_entry_eq]
  generalize (lg_sl ([.ref h0, .int (nI lim)]) ++ List.replicate (2 - (lg_sl ([.ref h0, .int (nI lim)])).length) Slot.unset).toArray = ls at hl ⊢
  have hl : lv_has ls 2 [(0, .ref h0), (1, .int (nI lim))] := hl
  refine lv_aload_n hx hb dX0_init_0 rfl (lv_at hl 0 rfl) ?_
  refine W.objInit hx hb hown (hts _ (List.mem_of_getElem? (i := 1) rfl)) (hts _ (List.mem_of_getElem? (i := 2) rfl)) (hts _ (List.mem_of_getElem? (i := 3) rfl)) rfl (by rw [hml]; exact hl.1) rfl dX0_init_1 (Nat.le_of_ble_eq_true rfl) (Nat.le_of_ble_eq_true rfl) ?_
  refine W.eq (g2 := F0 m 4 ls []) rfl ?_
  refine lv_aload_n hx hb dX0_init_4 rfl (lv_at hl 0 rfl) ?_
  refine lv_iload_n hx hb dX0_init_5 rfl (lv_at hl 1 rfl) ?_
  refine lv_iconst (v := 0) hx hb dX0_init_6 (by decide) ?_
  refine va_mmax hx hb (hml.trans hl.1.symm) hown (hts _ (List.mem_of_getElem? (i := 4) rfl)) (hts _ (List.mem_of_getElem? (i := 5) rfl)) (hts _ (List.mem_of_getElem? (i := 6) rfl)) (hts _ (List.mem_of_getElem? (i := 7) rfl)) (Nat.le_of_ble_eq_true rfl) (Nat.le_of_ble_eq_true rfl) (Nat.le_of_ble_eq_true rfl) (Nat.le_of_ble_eq_true rfl) dX0_init_7 ?_
  refine topI (y := nI lim) (mxx (by omega)) ?_
  refine newI hx hb (hts _ (List.mem_of_getElem? (i := 8) rfl)) hK hP hD hS hA lim (nn0 (by omega)) (nI_clamp (by omega)) hlim (Nat.le_of_ble_eq_true rfl) (Nat.le_of_eq (Nat.zero_add _)) dX0_init_10 (fun q_1 H hP hD hS => ?_)
  have hP : va_P D vwCl ([(h0, .inr (0, [.null, .int 0]))] ++ [(q_1, .inl (cI, lim, .inl (fun _ => 0)))]) H := hP
  have hD : va_D A ([(h0, .inr (0, [.null, .int 0]))] ++ [(q_1, .inl (cI, lim, .inl (fun _ => 0)))]) := hD
  refine va_putF (D := D) (ci := 0) (v := .ref q_1) (ty := (.array .int)) (C := RX0) (T := TX0) (N := 2) hx hb hts (fun _ h => List.mem_cons_of_mem _ (List.mem_append_right _ h)) tyX0 tyX0_ok nmX0 hown hK hP hD hS 0 rfl rfl 0 (by decide) (hts _ (List.mem_of_getElem? (i := 9) rfl)) (fun _ h9 => h9) rfl hin rfl (by decide +kernel) rfl rfl (Nat.le_of_ble_eq_true rfl) dX0_init_12 (fun H locs hP hD hS => ?_)
  have hP : va_P D vwCl ([(h0, .inr (0, [.ref q_1, .int 0]))] ++ [(q_1, .inl (cI, lim, .inl (fun _ => 0)))]) H := hP
  have hD : va_D A ([(h0, .inr (0, [.ref q_1, .int 0]))] ++ [(q_1, .inl (cI, lim, .inl (fun _ => 0)))]) := hD
  refine lv_aload_n hx hb dX0_init_15 rfl (lv_at hl 0 rfl) ?_
  refine lv_iconst (v := 0) hx hb dX0_init_16 (by decide) ?_
  refine va_put (D := D) (ci := 0) (v := .int 0) (ty := .int) (C := RX0) (T := TX0) (N := 2) hx hb hts (fun _ h => List.mem_cons_of_mem _ (List.mem_append_right _ h)) tyX0 tyX0_ok nmX0 hown hK hP hD hS 0 rfl rfl 1 (by decide) (hts _ (List.mem_of_getElem? (i := 10) rfl)) (fun _ h9 => h9) rfl (by decide +kernel) rfl rfl (Nat.le_of_ble_eq_true rfl) dX0_init_17 (fun H locs hP hD hS => ?_)
  have hP : va_P D vwCl ([(h0, .inr (0, [.ref q_1, .int 0]))] ++ [(q_1, .inl (cI, lim, .inl (fun _ => 0)))]) H := hP
  have hD : va_D A ([(h0, .inr (0, [.ref q_1, .int 0]))] ++ [(q_1, .inl (cI, lim, .inl (fun _ => 0)))]) := hD
  have hP : va_P D vwCl (rowW cI h0 q_1 lim row0) H := hP
  have hD : va_D A (rowW cI h0 q_1 lim row0) := hD
  refine W.widen (k := 1) (n := lim) (Nat.le_of_ble_eq_true rfl) (Nat.le_of_eq (Nat.zero_add _)) ?_
  exact W.vret hx hb hr (fun t ht hW => ⟨⟨q_1, rfl, trivial, by rw [ht]; exact hP, hD⟩, hS.F ht⟩) hS.2.2 dX0_init_20

set_option maxHeartbeats 4000000 in
set_option maxRecDepth 100000 in
theorem c_X1_init (l : Launch) (D : va_G) (cI cL cM : ClassId) (A : Nat → Prop) (h0 : Nat) : mC l yX1_init wsX1_init ({ frames := 1, cells := 0, slots := 0, locals := 20 }) D (tB cI cL cM) A [.ref h0] [(h0, .inr (1, [.long 0, .long 0, .long 0, .int 0]))] (fun (u : Unit) => ivW h0 (v_opn iv0)) 0 0 := by
  refine Met.ofW (cc := cX1_init) (maxL := 1) (ret := none) (by decide) rfl ?_
  intro p e s m args below meth c s₁ B hml hv
  obtain ⟨rfl, ⟨hP, hE, hD, hA⟩, hO⟩ := hv
  have hK := hE.1
  have hx := B.exec
  have hb := B.bytes
  have hr := B.returns
  have hts := atoms_spec (ws := wsX1_init) B.pre
  have hown : s.vm.findClass RX1 = some m.cls := findClass_of_methodNamed B.named
  have hlocks := B.notSynchronized
  have hin : meth.name = "<init>" := (name_of_methodNamed B.named B.method).1
  have hS : va_S A s.heap s.heap [] := va_S.rf
  have hl := lv_entry ([.ref h0]) (n := 1) (Nat.le_of_ble_eq_true rfl)
  rw [lg_entry_eq]
  generalize (lg_sl ([.ref h0]) ++ List.replicate (1 - (lg_sl ([.ref h0])).length) Slot.unset).toArray = ls at hl ⊢
  have hl : lv_has ls 1 [(0, .ref h0)] := hl
  refine lv_aload_n hx hb dX1_init_0 rfl (lv_at hl 0 rfl) ?_
  refine W.objInit hx hb hown (hts _ (List.mem_of_getElem? (i := 1) rfl)) (hts _ (List.mem_of_getElem? (i := 2) rfl)) (hts _ (List.mem_of_getElem? (i := 3) rfl)) rfl (by rw [hml]; exact hl.1) rfl dX1_init_1 (Nat.le_of_ble_eq_true rfl) (Nat.le_of_ble_eq_true rfl) ?_
  refine W.eq (g2 := F0 m 4 ls []) rfl ?_
  refine lv_aload_n hx hb dX1_init_4 rfl (lv_at hl 0 rfl) ?_
  have hP : va_P D vwCl (ivW h0 iv0) _ := hP
  have hD : va_D A (ivW h0 iv0) := hD
  refine kVa (rVa (As := []) (rest := []) ⟨hx, hb, hml, hown, hts⟩ (c_X1_open l D cI cL cM _ h0 iv0) (cwV 0 hts gX1_init_X1_open rfl rfl rfl (by decide +kernel) ⟨(Nat.le_of_ble_eq_true rfl), (Nat.le_of_ble_eq_true rfl)⟩) hE hP hD hS hA 0 rfl rfl rfl hl.1 rfl (Nat.le_of_ble_eq_true rfl) dX1_init_5 ⟨(Nat.le_of_ble_eq_true rfl), (Nat.le_of_ble_eq_true rfl)⟩) hS (fun H locs hP hD hS => ?_)
  exact W.vret hx hb hr (fun t ht hW => ⟨⟨(), rfl, trivial, by rw [ht]; exact hP, hD⟩, hS.F ht⟩) hS.2.2 dX1_init_8

set_option maxHeartbeats 4000000 in
set_option maxRecDepth 100000 in
theorem c_X2_init (l : Launch) (D : va_G) (cI cL cM : ClassId) (A : Nat → Prop) (h0 : Nat) : mC l yX2_init wsX2_init ({ frames := 1, cells := 3, slots := 1032, locals := 12 }) D (tB cI cL cM) A [.ref h0] [(h0, .inr (2, [.int 0, .int 0, .int 0, .null, .null, .null, .int 0, .int 0, .long 0, .int 0]))] (fun (u : Nat × Nat × Nat) => moW cI cL h0 u.1 u.2.1 u.2.2 mo0) 3 1032 := by
  refine Met.ofW (cc := cX2_init) (maxL := 1) (ret := none) (by decide) rfl ?_
  intro p e s m args below meth c s₁ B hml hv
  obtain ⟨rfl, ⟨hP, hE, hD, hA⟩, hO⟩ := hv
  have hK := hE.1
  have hx := B.exec
  have hb := B.bytes
  have hr := B.returns
  have hts := atoms_spec (ws := wsX2_init) B.pre
  have hown : s.vm.findClass RX2 = some m.cls := findClass_of_methodNamed B.named
  have hlocks := B.notSynchronized
  have hin : meth.name = "<init>" := (name_of_methodNamed B.named B.method).1
  have hS : va_S A s.heap s.heap [] := va_S.rf
  have hl := lv_entry ([.ref h0]) (n := 1) (Nat.le_of_ble_eq_true rfl)
  rw [lg_entry_eq]
  generalize (lg_sl ([.ref h0]) ++ List.replicate (1 - (lg_sl ([.ref h0])).length) Slot.unset).toArray = ls at hl ⊢
  have hl : lv_has ls 1 [(0, .ref h0)] := hl
  refine lv_aload_n hx hb dX2_init_0 rfl (lv_at hl 0 rfl) ?_
  refine W.objInit hx hb hown (hts _ (List.mem_of_getElem? (i := 1) rfl)) (hts _ (List.mem_of_getElem? (i := 2) rfl)) (hts _ (List.mem_of_getElem? (i := 3) rfl)) rfl (by rw [hml]; exact hl.1) rfl dX2_init_1 (Nat.le_of_ble_eq_true rfl) (Nat.le_of_ble_eq_true rfl) ?_
  refine W.eq (g2 := F0 m 4 ls []) rfl ?_
  refine lv_aload_n hx hb dX2_init_4 rfl (lv_at hl 0 rfl) ?_
  refine lv_sipush (v := 512) hx hb dX2_init_5 (by decide) ?_
  refine newI hx hb (hts _ (List.mem_of_getElem? (i := 4) rfl)) hK hP hD hS hA 512 (by decide) (by decide) (Nat.le_of_ble_eq_true rfl) (Nat.le_of_ble_eq_true rfl) (Nat.le_of_ble_eq_true rfl) dX2_init_8 (fun q_1 H hP hD hS => ?_)
  have hP : va_P D vwCl ([(h0, .inr (2, [.int 0, .int 0, .int 0, .null, .null, .null, .int 0, .int 0, .long 0, .int 0]))] ++ [(q_1, .inl (cI, 512, .inl (fun _ => 0)))]) H := hP
  have hD : va_D A ([(h0, .inr (2, [.int 0, .int 0, .int 0, .null, .null, .null, .int 0, .int 0, .long 0, .int 0]))] ++ [(q_1, .inl (cI, 512, .inl (fun _ => 0)))]) := hD
  refine va_putF (D := D) (ci := 2) (v := .ref q_1) (ty := (.array .int)) (C := RX2) (T := TX2) (N := 10) hx hb hts (fun _ h => List.mem_cons_of_mem _ (List.mem_append_right _ h)) tyX2 tyX2_ok nmX2 hown hK hP hD hS 0 rfl rfl 3 (by decide) (hts _ (List.mem_of_getElem? (i := 5) rfl)) (fun _ h9 => h9) rfl hin rfl (by decide +kernel) rfl rfl (Nat.le_of_ble_eq_true rfl) dX2_init_10 (fun H locs hP hD hS => ?_)
  have hP : va_P D vwCl ([(h0, .inr (2, [.int 0, .int 0, .int 0, .ref q_1, .null, .null, .int 0, .int 0, .long 0, .int 0]))] ++ [(q_1, .inl (cI, 512, .inl (fun _ => 0)))]) H := hP
  have hD : va_D A ([(h0, .inr (2, [.int 0, .int 0, .int 0, .ref q_1, .null, .null, .int 0, .int 0, .long 0, .int 0]))] ++ [(q_1, .inl (cI, 512, .inl (fun _ => 0)))]) := hD
  refine lv_aload_n hx hb dX2_init_13 rfl (lv_at hl 0 rfl) ?_
  refine lv_sipush (v := 512) hx hb dX2_init_14 (by decide) ?_
  refine newL hx hb (hts _ (List.mem_of_getElem? (i := 6) rfl)) hK hP hD hS hA 512 (by decide) (by decide) (Nat.le_of_ble_eq_true rfl) (Nat.le_of_ble_eq_true rfl) (Nat.le_of_ble_eq_true rfl) dX2_init_17 (fun q_2 H hP hD hS => ?_)
  have hP : va_P D vwCl (([(h0, .inr (2, [.int 0, .int 0, .int 0, .ref q_1, .null, .null, .int 0, .int 0, .long 0, .int 0]))] ++ [(q_1, .inl (cI, 512, .inl (fun _ => 0)))]) ++ [(q_2, .inl (cL, 512, .inr (.inl (fun _ => 0))))]) H := hP
  have hD : va_D A (([(h0, .inr (2, [.int 0, .int 0, .int 0, .ref q_1, .null, .null, .int 0, .int 0, .long 0, .int 0]))] ++ [(q_1, .inl (cI, 512, .inl (fun _ => 0)))]) ++ [(q_2, .inl (cL, 512, .inr (.inl (fun _ => 0))))]) := hD
  refine va_putF (D := D) (ci := 2) (v := .ref q_2) (ty := (.array .long)) (C := RX2) (T := TX2) (N := 10) hx hb hts (fun _ h => List.mem_cons_of_mem _ (List.mem_append_right _ h)) tyX2 tyX2_ok nmX2 hown hK hP hD hS 0 rfl rfl 4 (by decide) (hts _ (List.mem_of_getElem? (i := 7) rfl)) (fun _ h9 => h9) rfl hin rfl (by decide +kernel) rfl rfl (Nat.le_of_ble_eq_true rfl) dX2_init_19 (fun H locs hP hD hS => ?_)
  have hP : va_P D vwCl (([(h0, .inr (2, [.int 0, .int 0, .int 0, .ref q_1, .ref q_2, .null, .int 0, .int 0, .long 0, .int 0]))] ++ [(q_1, .inl (cI, 512, .inl (fun _ => 0)))]) ++ [(q_2, .inl (cL, 512, .inr (.inl (fun _ => 0))))]) H := hP
  have hD : va_D A (([(h0, .inr (2, [.int 0, .int 0, .int 0, .ref q_1, .ref q_2, .null, .int 0, .int 0, .long 0, .int 0]))] ++ [(q_1, .inl (cI, 512, .inl (fun _ => 0)))]) ++ [(q_2, .inl (cL, 512, .inr (.inl (fun _ => 0))))]) := hD
  refine lv_aload_n hx hb dX2_init_22 rfl (lv_at hl 0 rfl) ?_
  refine lv_bipush (v := 8) hx hb dX2_init_23 (by decide) ?_
  refine newI hx hb (hts _ (List.mem_of_getElem? (i := 4) rfl)) hK hP hD hS hA 8 (by decide) (by decide) (Nat.le_of_ble_eq_true rfl) (Nat.le_of_ble_eq_true rfl) (Nat.le_of_ble_eq_true rfl) dX2_init_25 (fun q_3 H hP hD hS => ?_)
  have hP : va_P D vwCl ((([(h0, .inr (2, [.int 0, .int 0, .int 0, .ref q_1, .ref q_2, .null, .int 0, .int 0, .long 0, .int 0]))] ++ [(q_1, .inl (cI, 512, .inl (fun _ => 0)))]) ++ [(q_2, .inl (cL, 512, .inr (.inl (fun _ => 0))))]) ++ [(q_3, .inl (cI, 8, .inl (fun _ => 0)))]) H := hP
  have hD : va_D A ((([(h0, .inr (2, [.int 0, .int 0, .int 0, .ref q_1, .ref q_2, .null, .int 0, .int 0, .long 0, .int 0]))] ++ [(q_1, .inl (cI, 512, .inl (fun _ => 0)))]) ++ [(q_2, .inl (cL, 512, .inr (.inl (fun _ => 0))))]) ++ [(q_3, .inl (cI, 8, .inl (fun _ => 0)))]) := hD
  refine va_putF (D := D) (ci := 2) (v := .ref q_3) (ty := (.array .int)) (C := RX2) (T := TX2) (N := 10) hx hb hts (fun _ h => List.mem_cons_of_mem _ (List.mem_append_right _ h)) tyX2 tyX2_ok nmX2 hown hK hP hD hS 0 rfl rfl 5 (by decide) (hts _ (List.mem_of_getElem? (i := 8) rfl)) (fun _ h9 => h9) rfl hin rfl (by decide +kernel) rfl rfl (Nat.le_of_ble_eq_true rfl) dX2_init_27 (fun H locs hP hD hS => ?_)
  have hP : va_P D vwCl ((([(h0, .inr (2, [.int 0, .int 0, .int 0, .ref q_1, .ref q_2, .ref q_3, .int 0, .int 0, .long 0, .int 0]))] ++ [(q_1, .inl (cI, 512, .inl (fun _ => 0)))]) ++ [(q_2, .inl (cL, 512, .inr (.inl (fun _ => 0))))]) ++ [(q_3, .inl (cI, 8, .inl (fun _ => 0)))]) H := hP
  have hD : va_D A ((([(h0, .inr (2, [.int 0, .int 0, .int 0, .ref q_1, .ref q_2, .ref q_3, .int 0, .int 0, .long 0, .int 0]))] ++ [(q_1, .inl (cI, 512, .inl (fun _ => 0)))]) ++ [(q_2, .inl (cL, 512, .inr (.inl (fun _ => 0))))]) ++ [(q_3, .inl (cI, 8, .inl (fun _ => 0)))]) := hD
  have hP : va_P D vwCl (moW cI cL h0 q_1 q_2 q_3 mo0) H := hP
  have hD : va_D A (moW cI cL h0 q_1 q_2 q_3 mo0) := hD
  exact W.vret hx hb hr (fun t ht hW => ⟨⟨(q_1, q_2, q_3), rfl, trivial, by rw [ht]; exact hP, hD⟩, hS.F ht⟩) hS.2.2 dX2_init_30

