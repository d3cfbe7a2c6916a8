section
-- ===== PART A: goes FIRST, ahead of the names: the tables' words, and 'selects' of the private methods out of them =====
/-- a private method of a class that the tables say can be made, by its rows of tables_1 -/
def lw_okq (q : MethodName × Nat) : Prop := (q.1.cls ≠ "java/lang/invoke/MethodHandle" ∧ q.1.cls ≠ "java/lang/invoke/VarHandle") ∧ Cond.instantiable q.1.cls q.2 ∈ tables_1 ∧ Cond.privateMethod q.1 ∈ tables_1 ∧ Cond.instanceMethod q.1 ∈ tables_1
theorem lw_p0 : lw_okq (⟨"BitMixer", "encodeByte", "(I)V"⟩, 5) := ⟨⟨by decide +kernel, by decide +kernel⟩, List.mem_of_getElem? (i := 16) (by decide +kernel), List.mem_of_getElem? (i := 300) (by decide +kernel), List.mem_of_getElem? (i := 301) (by decide +kernel)⟩
theorem lw_p1 : lw_okq (⟨"BitMixer", "digestModels", "(J)J"⟩, 5) := ⟨⟨by decide +kernel, by decide +kernel⟩, List.mem_of_getElem? (i := 16) (by decide +kernel), List.mem_of_getElem? (i := 346) (by decide +kernel), List.mem_of_getElem? (i := 347) (by decide +kernel)⟩
theorem lw_p2 : lw_okq (⟨"java/lang/Throwable", "fillInStackTrace", "(I)Ljava/lang/Throwable;"⟩, 6) := ⟨⟨by decide +kernel, by decide +kernel⟩, List.mem_of_getElem? (i := 401) (by decide +kernel), List.mem_of_getElem? (i := 399) (by decide +kernel), List.mem_of_getElem? (i := 400) (by decide +kernel)⟩
theorem lw_p3 : lw_okq (⟨"BitMixer", "requireModel", "(I)LBitMixer$Model;"⟩, 5) := ⟨⟨by decide +kernel, by decide +kernel⟩, List.mem_of_getElem? (i := 16) (by decide +kernel), List.mem_of_getElem? (i := 480) (by decide +kernel), List.mem_of_getElem? (i := 481) (by decide +kernel)⟩
theorem lw_p4 : lw_okq (⟨"BitMixer", "requireRoom", "(I)V"⟩, 5) := ⟨⟨by decide +kernel, by decide +kernel⟩, List.mem_of_getElem? (i := 16) (by decide +kernel), List.mem_of_getElem? (i := 508) (by decide +kernel), List.mem_of_getElem? (i := 509) (by decide +kernel)⟩
theorem lw_p5 : lw_okq (⟨"BitMixer", "decodeByte", "()I"⟩, 5) := ⟨⟨by decide +kernel, by decide +kernel⟩, List.mem_of_getElem? (i := 16) (by decide +kernel), List.mem_of_getElem? (i := 637) (by decide +kernel), List.mem_of_getElem? (i := 638) (by decide +kernel)⟩
theorem lw_p6 : lw_okq (⟨"BitMixer", "differences", "()I"⟩, 5) := ⟨⟨by decide +kernel, by decide +kernel⟩, List.mem_of_getElem? (i := 16) (by decide +kernel), List.mem_of_getElem? (i := 642) (by decide +kernel), List.mem_of_getElem? (i := 643) (by decide +kernel)⟩
theorem lw_p7 : lw_okq (⟨"BitMixerModel", "clear", "()V"⟩, 22) := ⟨⟨by decide +kernel, by decide +kernel⟩, List.mem_of_getElem? (i := 654) (by decide +kernel), List.mem_of_getElem? (i := 660) (by decide +kernel), List.mem_of_getElem? (i := 661) (by decide +kernel)⟩
theorem lw_p8 : lw_okq (⟨"BitMixerModel", "no", "(I)I"⟩, 22) := ⟨⟨by decide +kernel, by decide +kernel⟩, List.mem_of_getElem? (i := 654) (by decide +kernel), List.mem_of_getElem? (i := 742) (by decide +kernel), List.mem_of_getElem? (i := 743) (by decide +kernel)⟩
theorem lw_p9 : lw_okq (⟨"BitMixerModel", "isModel", "(I)Z"⟩, 22) := ⟨⟨by decide +kernel, by decide +kernel⟩, List.mem_of_getElem? (i := 654) (by decide +kernel), List.mem_of_getElem? (i := 754) (by decide +kernel), List.mem_of_getElem? (i := 755) (by decide +kernel)⟩
theorem lw_p10 : lw_okq (⟨"BitMixerModel", "learn", "(Z)I"⟩, 22) := ⟨⟨by decide +kernel, by decide +kernel⟩, List.mem_of_getElem? (i := 654) (by decide +kernel), List.mem_of_getElem? (i := 791) (by decide +kernel), List.mem_of_getElem? (i := 792) (by decide +kernel)⟩
theorem lw_p11 : lw_okq (⟨"BitMixerModel", "mix", "()I"⟩, 22) := ⟨⟨by decide +kernel, by decide +kernel⟩, List.mem_of_getElem? (i := 654) (by decide +kernel), List.mem_of_getElem? (i := 795) (by decide +kernel), List.mem_of_getElem? (i := 796) (by decide +kernel)⟩
theorem lw_p12 : lw_okq (⟨"BitMixerModel", "phase", "()I"⟩, 22) := ⟨⟨by decide +kernel, by decide +kernel⟩, List.mem_of_getElem? (i := 654) (by decide +kernel), List.mem_of_getElem? (i := 799) (by decide +kernel), List.mem_of_getElem? (i := 800) (by decide +kernel)⟩
theorem lw_p13 : lw_okq (⟨"BitMixerModel", "predictionOf", "(I)I"⟩, 22) := ⟨⟨by decide +kernel, by decide +kernel⟩, List.mem_of_getElem? (i := 654) (by decide +kernel), List.mem_of_getElem? (i := 803) (by decide +kernel), List.mem_of_getElem? (i := 804) (by decide +kernel)⟩
theorem lw_p14 : lw_okq (⟨"BitMixerModel", "indexOf", "(I)I"⟩, 22) := ⟨⟨by decide +kernel, by decide +kernel⟩, List.mem_of_getElem? (i := 654) (by decide +kernel), List.mem_of_getElem? (i := 807) (by decide +kernel), List.mem_of_getElem? (i := 808) (by decide +kernel)⟩
theorem lw_p15 : lw_okq (⟨"BitMixerModel", "context", "(I)I"⟩, 22) := ⟨⟨by decide +kernel, by decide +kernel⟩, List.mem_of_getElem? (i := 654) (by decide +kernel), List.mem_of_getElem? (i := 811) (by decide +kernel), List.mem_of_getElem? (i := 812) (by decide +kernel)⟩
def lw_privs_1 : List (MethodName × Nat) := [(⟨"BitMixer", "encodeByte", "(I)V"⟩, 5), (⟨"BitMixer", "digestModels", "(J)J"⟩, 5), (⟨"java/lang/Throwable", "fillInStackTrace", "(I)Ljava/lang/Throwable;"⟩, 6), (⟨"BitMixer", "requireModel", "(I)LBitMixer$Model;"⟩, 5), (⟨"BitMixer", "requireRoom", "(I)V"⟩, 5), (⟨"BitMixer", "decodeByte", "()I"⟩, 5), (⟨"BitMixer", "differences", "()I"⟩, 5), (⟨"BitMixerModel", "clear", "()V"⟩, 22), (⟨"BitMixerModel", "no", "(I)I"⟩, 22), (⟨"BitMixerModel", "isModel", "(I)Z"⟩, 22), (⟨"BitMixerModel", "learn", "(Z)I"⟩, 22), (⟨"BitMixerModel", "mix", "()I"⟩, 22), (⟨"BitMixerModel", "phase", "()I"⟩, 22), (⟨"BitMixerModel", "predictionOf", "(I)I"⟩, 22), (⟨"BitMixerModel", "indexOf", "(I)I"⟩, 22), (⟨"BitMixerModel", "context", "(I)I"⟩, 22)]
theorem lw_r1 : ∀ q ∈ lw_privs_1, lw_okq q := List.forall_mem_cons.mpr ⟨lw_p0, List.forall_mem_cons.mpr ⟨lw_p1, List.forall_mem_cons.mpr ⟨lw_p2, List.forall_mem_cons.mpr ⟨lw_p3, List.forall_mem_cons.mpr ⟨lw_p4, List.forall_mem_cons.mpr ⟨lw_p5, List.forall_mem_cons.mpr ⟨lw_p6, List.forall_mem_cons.mpr ⟨lw_p7, List.forall_mem_cons.mpr ⟨lw_p8, List.forall_mem_cons.mpr ⟨lw_p9, List.forall_mem_cons.mpr ⟨lw_p10, List.forall_mem_cons.mpr ⟨lw_p11, List.forall_mem_cons.mpr ⟨lw_p12, List.forall_mem_cons.mpr ⟨lw_p13, List.forall_mem_cons.mpr ⟨lw_p14, List.forall_mem_cons.mpr ⟨lw_p15, fun _ h => absurd h List.not_mem_nil⟩⟩⟩⟩⟩⟩⟩⟩⟩⟩⟩⟩⟩⟩⟩⟩
theorem lw_p16 : lw_okq (⟨"BitMixerModel", "part", "(Z)V"⟩, 22) := ⟨⟨by decide +kernel, by decide +kernel⟩, List.mem_of_getElem? (i := 654) (by decide +kernel), List.mem_of_getElem? (i := 882) (by decide +kernel), List.mem_of_getElem? (i := 883) (by decide +kernel)⟩
theorem lw_p17 : lw_okq (⟨"BitMixerModel", "middle", "()J"⟩, 22) := ⟨⟨by decide +kernel, by decide +kernel⟩, List.mem_of_getElem? (i := 654) (by decide +kernel), List.mem_of_getElem? (i := 886) (by decide +kernel), List.mem_of_getElem? (i := 887) (by decide +kernel)⟩
theorem lw_p18 : lw_okq (⟨"BitMixerModel", "areSame", "()Z"⟩, 22) := ⟨⟨by decide +kernel, by decide +kernel⟩, List.mem_of_getElem? (i := 654) (by decide +kernel), List.mem_of_getElem? (i := 891) (by decide +kernel), List.mem_of_getElem? (i := 892) (by decide +kernel)⟩
theorem lw_p19 : lw_okq (⟨"BitMixerModel", "put", "(I)V"⟩, 22) := ⟨⟨by decide +kernel, by decide +kernel⟩, List.mem_of_getElem? (i := 654) (by decide +kernel), List.mem_of_getElem? (i := 895) (by decide +kernel), List.mem_of_getElem? (i := 896) (by decide +kernel)⟩
theorem lw_p20 : lw_okq (⟨"BitMixerModel", "shift", "()V"⟩, 22) := ⟨⟨by decide +kernel, by decide +kernel⟩, List.mem_of_getElem? (i := 654) (by decide +kernel), List.mem_of_getElem? (i := 899) (by decide +kernel), List.mem_of_getElem? (i := 900) (by decide +kernel)⟩
theorem lw_p21 : lw_okq (⟨"BitMixerModel", "byteOfCode", "(I)I"⟩, 22) := ⟨⟨by decide +kernel, by decide +kernel⟩, List.mem_of_getElem? (i := 654) (by decide +kernel), List.mem_of_getElem? (i := 924) (by decide +kernel), List.mem_of_getElem? (i := 925) (by decide +kernel)⟩
theorem lw_p22 : lw_okq (⟨"BitMixerModel", "differences", "()I"⟩, 22) := ⟨⟨by decide +kernel, by decide +kernel⟩, List.mem_of_getElem? (i := 654) (by decide +kernel), List.mem_of_getElem? (i := 928) (by decide +kernel), List.mem_of_getElem? (i := 929) (by decide +kernel)⟩
def lw_privs_2 : List (MethodName × Nat) := [(⟨"BitMixerModel", "part", "(Z)V"⟩, 22), (⟨"BitMixerModel", "middle", "()J"⟩, 22), (⟨"BitMixerModel", "areSame", "()Z"⟩, 22), (⟨"BitMixerModel", "put", "(I)V"⟩, 22), (⟨"BitMixerModel", "shift", "()V"⟩, 22), (⟨"BitMixerModel", "byteOfCode", "(I)I"⟩, 22), (⟨"BitMixerModel", "differences", "()I"⟩, 22)]
theorem lw_r2 : ∀ q ∈ lw_privs_2, lw_okq q := List.forall_mem_cons.mpr ⟨lw_p16, List.forall_mem_cons.mpr ⟨lw_p17, List.forall_mem_cons.mpr ⟨lw_p18, List.forall_mem_cons.mpr ⟨lw_p19, List.forall_mem_cons.mpr ⟨lw_p20, List.forall_mem_cons.mpr ⟨lw_p21, List.forall_mem_cons.mpr ⟨lw_p22, fun _ h => absurd h List.not_mem_nil⟩⟩⟩⟩⟩⟩⟩
def lw_privs : List (MethodName × Nat) := lw_privs_1 ++ (lw_privs_2)
def lw_tbl : List Cond := k2_sels lw_privs ++ tables_1
theorem lw_privs_ok : ∀ q ∈ lw_privs, lw_okq q := by
  show ∀ q ∈ lw_privs_1 ++ (lw_privs_2), lw_okq q
  exact List.forall_mem_append.mpr ⟨lw_r1, lw_r2⟩
/-- the streams that the claim lets the run draw from -/
abbrev lw_cs : List Choice := [Jvm.Choice.named "NaN.bits"]
theorem lw_bits : nanBits ∈ lw_cs := by first | decide | exact List.mem_cons_self | simp [lw_cs, nanBits]
end
section
/-! ===== BEGIN words of one list among another's, by their places ===== -/
theorem goodIn_r {big : List Cond} (ws : List Cond) (ps : List Nat) (hp : ws = ps.filterMap (fun i => big[i]?)) (h : ws.all goodWord = true) : GoodIn big ws := by
  intro w hw
  have h1 := List.all_eq_true.mp h w hw
  rw [hp] at hw
  obtain ⟨i, -, hi⟩ := List.mem_filterMap.mp hw
  have hm : w ∈ big := by first | exact List.mem_of_getElem? hi | exact List.getElem?_mem hi
  exact ⟨hm, good_of_word h1⟩
theorem goodIn_app {big a b : List Cond} (ha : GoodIn big a) (hb : GoodIn big b) : GoodIn big (a ++ b) := fun w h => (List.mem_append.mp h).elim (ha w) (hb w)
theorem goodIn_ca {big a b : List Cond} {c : Cond} (ha : GoodIn big (c :: a)) (hb : GoodIn big b) : GoodIn big (c :: (a ++ b)) := fun w h => (List.mem_cons.mp h).elim (fun e => ha w (List.mem_cons.mpr (Or.inl e))) (fun h => (List.mem_append.mp h).elim (fun h => ha w (List.mem_cons.mpr (Or.inr h))) (hb w))
theorem goodIn_sub {big ws : List Cond} (hm : ∀ w ∈ ws, w ∈ big) (h : ws.all goodWord = true) : GoodIn big ws := fun w hw => ⟨hm w hw, good_of_word (List.all_eq_true.mp h w hw)⟩
/-! ===== END ===== -/

/-! ===== BEGIN exceptions that leave a method, and their catching by the caller (launches without stack traces) ===== -/
section VXA
/-! The laws vx_back, vx_callV, vx_callS, vx_callSW, vx_throw0, vx_throwS follow proofs of the library, with one case more: JvmDerived/Free/Laws.lean (Back.of_free), Shelf42/LK1.lean (callV, callS), Shelf/KitTraced.lean (throwNew0V, throwNewS). -/
/-- where a method has thrown q: the class by its name, the cell, what was written, the world -/
def vx_T (XC : String → State → State → Prop) (st : State) (q : Addr) (t : State) (mc ms : Nat) (free : Addr → Prop) : Prop :=
  ∃ (E : String) (ce : Cell) (L : List Loc), XC E st t ∧ t.heap[q]? = some ce ∧ ce.vm = .none ∧ st.vm.findClass E = some ce.cls ∧ st.WarmedH t.vm ∧ st.sameButNew ({ t with vm := st.vm } : State) L mc ms ∧ ∀ z ∈ L, free z.base
def vx_Q (Qc : Array Value → State → Outcome → State → Prop) (XC : String → State → State → Prop) (mc ms : Nat) (free : Addr → Prop) : Array Value → State → Outcome → State → Prop := fun a st o t =>
  (Qc a st o t ∧ ∃ L, FrameEnd st o t L mc ms ∧ ∀ q ∈ L, free q.base) ∨ ∃ q, o = .threw q ∧ vx_T XC st q t mc ms free
/-- a callee that returns or throws -/
def vx_Met (l : Launch) (y : MethodName) (ws : List Cond) (rm : Room) (Pc : Array Value → State → Prop) (Qc : Array Value → State → Outcome → State → Prop) (XC : String → State → State → Prop) (mc ms : Nat) (free : Addr → Prop) : Prop :=
  MetFree l y (headSpec ws rm) Pc (fun _ _ _ _ _ => True) (vx_Q Qc XC mc ms free)
def vx_Post (XC : String → State → State → Prop) (mc ms : Nat) (free : Addr → Prop) : Pt → Array Value → Addr → Pt → Prop := fun A a q B =>
  ∃ (g : JFrame) (mk : MethodId) (t : State) (L : List Loc) (E : String) (ce : Cell), B.U.heap = t.heap ∧ B.U.vm = t.vm ∧ XC E (A.U.calling g mk a) t ∧ t.heap[q]? = some ce ∧ ce.vm = .none ∧ A.U.vm.findClass E = some ce.cls ∧ B.locs = A.locs ++ L ∧ (∀ z ∈ L, free z.base) ∧ B.cells = A.cells + mc ∧ B.slots = A.slots + ms
def vx_Back (l : Launch) (R : Room) (p : Program) (e : Env) (below : List Frame) (s : State) (sargs : Array Value) (y : MethodName) (len W9 : Nat)
    (Pre : Pt → Array Value → Prop) (Post : Pt → Array Value → Option Value → Pt → Prop) (PostX : Pt → Array Value → Addr → Pt → Prop) : Prop :=
  ∀ (m : MethodId) (meth : Method) (c : Code) (A : Pt) (g : JFrame) (ig : Instr) (mk : MethodId) (a : Array Value),
    Stand p l e R s m sargs below meth c A.U A.locs A.cells A.slots → g.method = m → g.locals.size = c.maxLocals → decode c.code g.pc = .ok (ig, len) →
    2 * g.monitorRoom + (g.stack.map fun v => v.category).sum ≤ W9 → A.U.methodNamed? y = some mk → Pre A a →
    (∃ (v : Option Value) (B : Pt), Stand p l e R s m sargs below meth c B.U B.locs B.cells B.slots ∧ Post A a v B ∧
      Steps p.tables e below (doInvoke e (A.U.setTop g) [] mk a).1 (B.U.setTop { g with pc := g.pc + len, stack := v.toList ++ g.stack })) ∨
    (∃ (q : Addr) (B : Pt), Stand p l e R s m sargs below meth c B.U B.locs B.cells B.slots ∧ PostX A a q B ∧
      Steps p.tables e below (doInvoke e (A.U.setTop g) [] mk a).1 ((B.U.setTop g).pushFrame (.throwing q)))
section Payer
variable {l : Launch} {R : Room} {p : Program} {e : Env} {below : List Frame} {s : State} {sargs : Array Value} {y : MethodName} {len W9 : Nat}
theorem vx_back {ws : List Cond} {rm : Room} {Pc : Array Value → State → Prop} {Qc : Array Value → State → Outcome → State → Prop} {XC : String → State → State → Prop} {mc ms : Nat} {free : Addr → Prop} {bytes : ByteArray} {maxL : Nat} {ret : Option FieldType}
    (hM : vx_Met l y ws rm Pc Qc XC mc ms free) (hblind : FrameBlind Pc) (hrc : rm.cells = mc) (hrs : rm.slots = ms)
    (hframes : rm.frames + 1 ≤ R.frames) (hlocals : W9 + (maxL + 11) + rm.locals ≤ R.locals)
    (hws : ∀ w ∈ ws, ∀ a' U, s.WarmedH U.vm → w.before a' U = true) (hcode : Cond.code y bytes maxL ret ∈ ws) (hinit : ∀ a' U, s.WarmedH U.vm → (Cond.initialized y.cls).before a' U = true) :
    vx_Back l R p e below s sargs y len W9 (PreOf R mc ms Pc) (PostOf Qc mc ms free) (vx_Post XC mc ms free) := by
  intro m meth c A g ig mk a X hg hsize hdg hW hn hp
  have h1 : (headSpec ws rm).pre.before a A.U = true := atoms_intro fun w hw => hws w hw _ _ X.warmed
  have h2 : (Cond.code y bytes maxL ret).before a A.U = true := hws _ hcode _ _ X.warmed
  have h3 : (Cond.initialized y.cls).before a A.U = true := hinit _ _ X.warmed
  have h4 : A.cells + (headSpec ws rm).room.cells ≤ R.cells := by rw [show (headSpec ws rm).room.cells = mc from hrc]; exact hp.1
  have h5 : A.slots + (headSpec ws rm).room.slots ≤ R.slots := by rw [show (headSpec ws rm).room.slots = ms from hrs]; exact hp.2.1
  have hPc : Pc a (A.U.calling g mk a) := hblind _ _ _ _ hp.2.2
  obtain ⟨U, Ls, c0, s0⟩ := A
  dsimp only [Pt.U, Pt.locs, Pt.cells, Pt.slots] at h1 h2 h3 h4 h5 X hn hPc ⊢
  obtain ⟨methY, cY, hmY, hcY, -, hlY, -, -, -, -⟩ := Cond.code_spec hn h2
  obtain ⟨kY, hkY, -⟩ := className_of_methodNamed hn
  have hinitY : kY.init = .initialized := Cond.initialized_spec (findClass_of_methodNamed hn) hkY h3
  have h : At U g.method c below := by rw [hg]; exact X.here
  have hlocals9 : W9 + (maxL + 11) + (headSpec ws rm).room.locals ≤ R.locals := hlocals
  have happ : (headSpec ws rm).appliesLoose y e.platform (U.calling g mk a) = true :=
    Spec.appliesLoose_calling (g := g) h hdg hn hkY hinitY
      (X.room_calling (g := g) (R' := (headSpec ws rm).room) hsize hmY hcY hframes (by rw [hlY]; omega) h4 h5) h1
  obtain ⟨mid, hmid⟩ := h.above
  have hfr : (U.setTop g).frames = (.java g :: mid) ++ below := by rw [State.frames_setTop' g h.top, hmid]; rfl
  obtain ⟨o, s₂, hsteps, -, hend, hq⟩ := Steps.callFree hM p X.admits X.cas X.clock (acts := []) hfr happ hPc trivial
  have hq' : vx_Q Qc XC mc ms free a (U.calling g mk a) o s₂ := hq
  rw [State.frames_setTop' g h.top] at hend
  obtain ⟨g₀, hg0⟩ := Option.isSome_iff_exists.mp h.top
  obtain ⟨r, hr⟩ := State.topJava?_eq_some.mp hg0
  have hr' : (({ U with heap := s₂.heap, slotsUsed := s₂.slotsUsed } : State).setVm s₂.vm).frames = .java g₀ :: r := hr
  rcases hq' with ⟨hqc, L, hfe, hL⟩ | ⟨q, rfl, E, ce, L, hx, hce, hcv, hcl, hW₂, hsm, hL⟩
  · obtain ⟨⟨v, rfl⟩, hW₂, e2, q2, q3, q4, q5, q6⟩ := id hfe
    have e3 : s₂ = ({ (U.calling g mk a).setFrames s₂.frames with heap := s₂.heap, slotsUsed := s₂.slotsUsed } : State).setVm s₂.vm := by
      have : s₂ = ({ s₂ with vm := (U.calling g mk a).vm } : State).setVm s₂.vm := rfl
      rw [e2] at this
      exact this
    obtain ⟨c₂, i₂, len₂, hc₂, hd₂, hf₂⟩ := hend
    have hW' : U.WarmedH s₂.vm := hW₂
    have hcc : c₂ = c := by
      have h1 : s₂.code? g.method = U.code? g.method := by
        rw [State.code?_eq, State.code?_eq, hW'.alike.method?]
      exact Option.some.inj (hc₂.symm.trans (h1.trans h.code))
    subst hcc
    have hlen : len₂ = len := by rw [hdg] at hd₂; cases hd₂; rfl
    subst hlen
    have hs₂ : s₂ = (({ U with heap := s₂.heap, slotsUsed := s₂.slotsUsed } : State).setVm s₂.vm).setTop { g with pc := g.pc + len₂, stack := v.toList ++ g.stack } := by
      refine e3.trans ?_
      rw [hf₂, State.calling_eq h.top, State.setFrames_setFrames, State.setTop_of_frames _ hr', hr]
      rfl
    have hsame : U.sameButNew ({ U with heap := s₂.heap, slotsUsed := s₂.slotsUsed } : State) L mc ms := by
      refine ⟨?_, q2, q3, q4, q5, q6⟩
      obtain ⟨t, ht, -⟩ := State.frames_cons hr
      show ({ U with heap := s₂.heap, slotsUsed := s₂.slotsUsed } : State) = { U.setFrames U.frames with heap := s₂.heap, slotsUsed := s₂.slotsUsed }
      rw [State.setFrames_self ht]
    subst hg
    refine Or.inl ⟨v, ⟨(({ U with heap := s₂.heap, slotsUsed := s₂.slotsUsed } : State).setVm s₂.vm), Ls ++ L, c0 + mc, s0 + ms⟩,
      ⟨X.admits, X.cas, X.clock, X.frames, X.room, X.hears, X.method, X.code, (X.here.setHeapUsed s₂.heap s₂.slotsUsed).setVm hW'.alike, X.tail, State.WarmedH.trans X.warmed hW', X.limits, X.bytes, X.same.trans (hsame.setVm s.vm)⟩,
      ⟨g, mk, s₂, L, rfl, rfl, hqc, rfl, hL, rfl, rfl⟩, ?_⟩
    show Steps p.tables e below _ ((({ U with heap := s₂.heap, slotsUsed := s₂.slotsUsed } : State).setVm s₂.vm).setTop { g with pc := g.pc + len₂, stack := v.toList ++ g.stack })
    rw [← hs₂]
    exact hsteps
  · obtain ⟨e2, q2, q3, q4, q5, q6⟩ := id hsm
    have e3 : s₂ = ({ (U.calling g mk a).setFrames s₂.frames with heap := s₂.heap, slotsUsed := s₂.slotsUsed } : State).setVm s₂.vm := by
      have : s₂ = ({ s₂ with vm := (U.calling g mk a).vm } : State).setVm s₂.vm := rfl
      rw [e2] at this
      exact this
    have hf₂ : s₂.frames = .throwing q :: .java g :: U.frames.tail := hend
    have hW' : U.WarmedH s₂.vm := hW₂
    have hs₂ : s₂ = ((({ U with heap := s₂.heap, slotsUsed := s₂.slotsUsed } : State).setVm s₂.vm).setTop g).pushFrame (.throwing q) := by
      refine e3.trans ?_
      rw [hf₂, State.calling_eq h.top, State.setFrames_setFrames, State.pushFrame, State.frames_setTop _ hr', State.setTop_of_frames _ hr', State.setFrames_setFrames, hr]
      rfl
    have hsame : U.sameButNew ({ U with heap := s₂.heap, slotsUsed := s₂.slotsUsed } : State) L mc ms := by
      refine ⟨?_, q2, q3, q4, q5, q6⟩
      obtain ⟨t, ht, -⟩ := State.frames_cons hr
      show ({ U with heap := s₂.heap, slotsUsed := s₂.slotsUsed } : State) = { U.setFrames U.frames with heap := s₂.heap, slotsUsed := s₂.slotsUsed }
      rw [State.setFrames_self ht]
    subst hg
    refine Or.inr ⟨q, ⟨(({ U with heap := s₂.heap, slotsUsed := s₂.slotsUsed } : State).setVm s₂.vm), Ls ++ L, c0 + mc, s0 + ms⟩,
      ⟨X.admits, X.cas, X.clock, X.frames, X.room, X.hears, X.method, X.code, (X.here.setHeapUsed s₂.heap s₂.slotsUsed).setVm hW'.alike, X.tail, State.WarmedH.trans X.warmed hW', X.limits, X.bytes, X.same.trans (hsame.setVm s.vm)⟩,
      ⟨g, mk, s₂, L, E, ce, rfl, rfl, hx, hce, hcv, hcl, rfl, hL, rfl, rfl⟩, ?_⟩
    show Steps p.tables e below _ (((({ U with heap := s₂.heap, slotsUsed := s₂.slotsUsed } : State).setVm s₂.vm).setTop g).pushFrame (.throwing q))
    rw [← hs₂]
    exact hsteps
end Payer
section Calls
variable {p : Program} {l : Launch} {e : Env} {R : Room} {s : State} {m : MethodId} {args : Array Value} {below : List Frame} {meth : Method} {c : Code} {T : State} {locs : List Loc} {cells slots : Nat}
theorem vx_callV (X : Stand p l e R s m args below meth c T locs cells slots) (hexec : p.tables.exec = Jvm.exec) {own C : String} {index : Nat} {y : MethodName} {bytes : ByteArray} {maxL : Nat} {ret : Option FieldType}
    (hown : s.vm.findClass own = some m.cls) (hlink : (Cond.methodLink own index y).before args s = true) (hinst : (Cond.instanceMethod y).before args s = true) (hsel : (Cond.selects C y y).before args s = true)
    (hcode : (Cond.code y bytes maxL ret).before args s = true) (hy : y.cls ≠ "java/lang/invoke/MethodHandle" ∧ y.cls ≠ "java/lang/invoke/VarHandle")
    {W9 : Nat} {Pre : Pt → Array Value → Prop} {Post : Pt → Array Value → Option Value → Pt → Prop} {PostX : Pt → Array Value → Addr → Pt → Prop} (hK : vx_Back l R p e below s args y 3 W9 Pre Post PostX)
    {b : Addr} {cellB : Cell} (hcell : T.heap[b]? = some cellB) (hobj : cellB.vm.isStatics = false) (hcls : s.vm.findClass C = some cellB.cls)
    {g : JFrame} (hg : g.method = m) (hsize : g.locals.size = c.maxLocals) {argsL rest : List Value} (hlen : ∀ sig, parseMethodDescriptor y.desc = some sig → argsL.length = sig.parameters.length)
    (hstack : g.stack = argsL.reverse ++ .ref b :: rest) (hW : 2 * g.monitorRoom + (rest.map fun v => v.category).sum ≤ W9) (hdg : decode c.code g.pc = .ok (.invokevirtual index, 3))
    (hpre : ∀ vm₁, s.WarmedH vm₁ → Pre ⟨T.setVm vm₁, locs, cells, slots⟩ (Value.ref b :: argsL).toArray) :
    (∃ (v : Option Value) (vm₁ : Vm) (B : Pt), s.WarmedH vm₁ ∧ Stand p l e R s m args below meth c B.U B.locs B.cells B.slots ∧ Post ⟨T.setVm vm₁, locs, cells, slots⟩ (Value.ref b :: argsL).toArray v B ∧
      ∀ target, Steps p.tables e below (B.U.setTop { g with pc := g.pc + 3, stack := v.toList ++ rest }) target → Steps p.tables e below (T.setTop g) target) ∨
    (∃ (q : Addr) (vm₁ : Vm) (B : Pt), s.WarmedH vm₁ ∧ Stand p l e R s m args below meth c B.U B.locs B.cells B.slots ∧ PostX ⟨T.setVm vm₁, locs, cells, slots⟩ (Value.ref b :: argsL).toArray q B ∧
      Steps p.tables e below (T.setTop g) ((B.U.setTop { g with stack := rest }).pushFrame (.throwing q))) := by
  obtain ⟨mk, methM, hnamed, hmethM, hstM, habM⟩ := Cond.instanceMethod_spec hinst
  obtain ⟨methM', cM, hmethM', -, -, -, -, -, -, hsigM⟩ := Cond.code_spec hnamed hcode
  cases hmethM.symm.trans hmethM'
  obtain ⟨c2, r2, m2, q1, q2, q3, q4, kP, hkP, hkPi⟩ := Cond.selects_spec hsel
  cases hcls.symm.trans q1
  cases (State.methodFound?_of_named hnamed hy).symm.trans q2
  cases hnamed.symm.trans q3
  have hselP : selectMethod e.platform s.vm cellB.cls mk = .method mk := by rw [Launch.admits_selectMethod X.admits]; exact q4
  obtain ⟨vm₁, X₁, hstep₁⟩ := X.invokevirtual hexec hown hlink hnamed hmethM hstM hkP hkPi hy (a := b) (cell := cellB) hcell
    (fun z h => by rw [h] at hobj; cases hobj) hselP hmethM habM hkP hkPi (g := g) hg (argsL := argsL) (rest := rest) (hlen _ hsigM) hstack hdg
  rcases hK m meth c ⟨T.setVm vm₁, locs, cells, slots⟩ { g with stack := rest } (.invokevirtual index) mk (Value.ref b :: argsL).toArray X₁ hg hsize hdg hW (X₁.named hnamed) (hpre vm₁ X₁.warmed) with ⟨v, B, X', hpost, hsteps⟩ | ⟨q, B, X', hpost, hsteps⟩
  · exact Or.inl ⟨v, vm₁, B, X₁.warmed, X', hpost, fun target h => hstep₁ _ fun acts => by rw [doInvoke_state]; exact hsteps.trans h⟩
  · exact Or.inr ⟨q, vm₁, B, X₁.warmed, X', hpost, hstep₁ _ fun acts => by rw [doInvoke_state]; exact hsteps⟩
theorem vx_callS (X : Stand p l e R s m args below meth c T locs cells slots) (hexec : p.tables.exec = Jvm.exec) {own : String} {index : Nat} {y : MethodName} {bytes : ByteArray} {maxL : Nat} {ret : Option FieldType}
    (hown : s.vm.findClass own = some m.cls) (hlink : (Cond.methodLink own index y).before args s = true) (hstat : (Cond.static y).before args s = true) (hinit : (Cond.initialized y.cls).before args s = true)
    (hcode : (Cond.code y bytes maxL ret).before args s = true) (hy : y.cls ≠ "java/lang/invoke/MethodHandle" ∧ y.cls ≠ "java/lang/invoke/VarHandle")
    {W9 : Nat} {Pre : Pt → Array Value → Prop} {Post : Pt → Array Value → Option Value → Pt → Prop} {PostX : Pt → Array Value → Addr → Pt → Prop} (hK : vx_Back l R p e below s args y 3 W9 Pre Post PostX)
    {g : JFrame} (hg : g.method = m) (hsize : g.locals.size = c.maxLocals) {argsL rest : List Value} (hlen : ∀ sig, parseMethodDescriptor y.desc = some sig → argsL.length = sig.parameters.length)
    (hstack : g.stack = argsL.reverse ++ rest) (hW : 2 * g.monitorRoom + (rest.map fun v => v.category).sum ≤ W9) (hdg : decode c.code g.pc = .ok (.invokestatic index, 3))
    (hpre : ∀ vm₁, s.WarmedH vm₁ → Pre ⟨T.setVm vm₁, locs, cells, slots⟩ argsL.toArray) :
    (∃ (v : Option Value) (vm₁ : Vm) (B : Pt), s.WarmedH vm₁ ∧ Stand p l e R s m args below meth c B.U B.locs B.cells B.slots ∧ Post ⟨T.setVm vm₁, locs, cells, slots⟩ argsL.toArray v B ∧
      ∀ target, Steps p.tables e below (B.U.setTop { g with pc := g.pc + 3, stack := v.toList ++ rest }) target → Steps p.tables e below (T.setTop g) target) ∨
    (∃ (q : Addr) (vm₁ : Vm) (B : Pt), s.WarmedH vm₁ ∧ Stand p l e R s m args below meth c B.U B.locs B.cells B.slots ∧ PostX ⟨T.setVm vm₁, locs, cells, slots⟩ argsL.toArray q B ∧
      Steps p.tables e below (T.setTop g) ((B.U.setTop { g with stack := rest }).pushFrame (.throwing q))) := by
  obtain ⟨mk, hnamed⟩ := Cond.code_named hcode
  obtain ⟨methM, cM, hmethM, -, -, -, -, -, -, hsigM⟩ := Cond.code_spec hnamed hcode
  have hstatic : methM.isStatic = true := Cond.static_spec hnamed hmethM hstat
  obtain ⟨kP, hkP, -⟩ := className_of_methodNamed hnamed
  have hinitP : kP.init = .initialized := Cond.initialized_spec (findClass_of_methodNamed hnamed) hkP hinit
  obtain ⟨vm₁, X₁, hstep₁⟩ := X.invokestatic hexec hown hlink hnamed hmethM hstatic hkP hinitP hy (g := g) hg (argsL := argsL) (rest := rest) (hlen _ hsigM) hstack hdg
  rcases hK m meth c ⟨T.setVm vm₁, locs, cells, slots⟩ { g with stack := rest } (.invokestatic index) mk argsL.toArray X₁ hg hsize hdg hW (X₁.named hnamed) (hpre vm₁ X₁.warmed) with ⟨v, B, X', hpost, hsteps⟩ | ⟨q, B, X', hpost, hsteps⟩
  · exact Or.inl ⟨v, vm₁, B, X₁.warmed, X', hpost, fun target h => hstep₁ _ fun acts => by rw [doInvoke_state]; exact hsteps.trans h⟩
  · exact Or.inr ⟨q, vm₁, B, X₁.warmed, X', hpost, hstep₁ _ fun acts => by rw [doInvoke_state]; exact hsteps⟩
end Calls
theorem vx_cls {s : State} {T : State} {vm₁ : Vm} {E : String} {k : ClassId} (hW : s.WarmedH vm₁) (h : (T.setVm vm₁).vm.findClass E = some k) : s.vm.findClass E = some k := by
  have h1 : vm₁.findClass E = some k := h
  rw [hW.alike.findClass] at h1
  exact h1
/-- the method's frame g, with q thrown over it -/
def vx_W (p : Program) (l : Launch) (e : Env) (R : Room) (s : State) (m : MethodId) (args : Array Value) (below : List Frame) (meth : Method) (c : Code) (H : Heap) (locs : List Loc) (cells slots : Nat) (Q : State → Prop) (g : JFrame) (q : Addr) : Prop :=
  ∀ T : State, T.heap = H → Stand p l e R s m args below meth c T locs cells slots → ∃ t, Steps p.tables e below ((T.setTop g).pushFrame (.throwing q)) t ∧ Q t
def vx_Run (p : Program) (l : Launch) (e : Env) (R : Room) (s : State) (m : MethodId) (args : Array Value) (below : List Frame) (meth : Method) (c : Code) (H : Heap) (locs : List Loc) (cells slots mc ms : Nat) (g : JFrame) (rest : List Value) (Qa : State → Outcome → State → Prop) (XC : String → State → State → Prop) (free : Addr → Prop) : Prop :=
  ∀ T : State, T.heap = H → Stand p l e R s m args below meth c T locs cells slots →
    (∃ (v : Option Value) (st₀ t T' : State) (L : List Loc), st₀.heap = H ∧ Stand p l e R s m args below meth c T' (locs ++ L) (cells + mc) (slots + ms) ∧ (∀ q ∈ L, free q.base) ∧ T'.heap = t.heap ∧ T'.vm = t.vm ∧ Qa st₀ (.returned v) t ∧
      Goes p e below T g T' { g with pc := g.pc + 3, stack := v.toList ++ rest }) ∨
    (∃ (q : Addr) (st₀ t T' : State) (L : List Loc) (E : String) (ce : Cell), st₀.heap = H ∧ Stand p l e R s m args below meth c T' (locs ++ L) (cells + mc) (slots + ms) ∧ (∀ z ∈ L, free z.base) ∧ T'.heap = t.heap ∧ T'.vm = t.vm ∧ XC E st₀ t ∧ t.heap[q]? = some ce ∧ ce.vm = .none ∧ s.vm.findClass E = some ce.cls ∧
      Steps p.tables e below (T.setTop g) ((T'.setTop { g with stack := rest }).pushFrame (.throwing q)))
def vx_X {S : Type} (px : S → Prop) (B : String → S → State → Prop) (A : Nat → Prop) : String → State → State → Prop := fun E st t => ∃ u : S, px u ∧ B E u t ∧ va_F A st t
section Runs
variable {p : Program} {l : Launch} {e : Env} {R : Room} {s : State} {m : MethodId} {args : Array Value} {below : List Frame} {meth : Method} {c : Code} {H : Heap} {locs : List Loc} {cells slots : Nat}
variable {y : MethodName} {bytes cc : ByteArray} {maxL nL mc ms n index : Nat} {ret : Option FieldType} {ws : List Cond} {rm : Room} {Pc : Array Value → State → Prop} {Qc : Array Value → State → Outcome → State → Prop} {XC : String → State → State → Prop} {free : Addr → Prop} {Ts : List Cond} {own C : String} {b : Addr} {As rest : List Value} {g : JFrame}
theorem vx_callBack (cb : CallB R s args own index y bytes maxL ret ws rm mc ms n) (hM : vx_Met l y ws rm Pc Qc XC mc ms free) (hbl : FrameBlind Pc) : vx_Back l R p e below s args y 3 8 (PreOf R mc ms Pc) (PostOf Qc mc ms free) (vx_Post XC mc ms free) := by
  obtain ⟨hrc, hrs, hfr, hlo, hws, hcw, -, hini, -⟩ := cb
  exact vx_back (bytes := bytes) (maxL := maxL) (ret := ret) hM hbl hrc hrs hfr hlo hws hcw (fun a' U hW => word_at hW (Or.inl (by first | rfl | simp [Cond.onTables, Cond.keeps, Cond.steady])) hini)
theorem vx_runV (S : CallFix p m c cc nL s args Ts own) (hM : vx_Met l y ws rm Pc Qc XC mc ms free) (cw : CallW R s args own C index y bytes maxL ret ws rm mc ms n) (hp : PreV s H C b Pc As)
    (hg : g.method = m) (hn : As.length = n) (hsize : g.locals.size = nL) (hstack : g.stack = As.reverse ++ .ref b :: rest) (hW : 2 * g.monitorRoom + (rest.map fun v => v.category).sum ≤ 8) (hdg : decode cc g.pc = .ok (.invokevirtual index, 3)) (hf : cells + mc ≤ R.cells ∧ slots + ms ≤ R.slots) :
    vx_Run p l e R s m args below meth c H locs cells slots mc ms g rest (Qc (Value.ref b :: As).toArray) XC free := by
  have hK : vx_Back l R p e below s args y 3 8 (PreOf R mc ms Pc) (PostOf Qc mc ms free) (vx_Post XC mc ms free) := vx_callBack cw.1 hM hp.1
  obtain ⟨⟨-, -, -, -, -, -, hcode, -, hy, hlen, hl⟩, hin, hse⟩ := cw
  obtain ⟨hx, hb, hml, ho, -⟩ := S
  obtain ⟨-, ⟨cellB, hcB, hoB, hclB⟩, hPc⟩ := hp
  intro T hT X
  rcases vx_callV X hx (C := C) (bytes := bytes) (maxL := maxL) (ret := ret) ho hl hin hse hcode hy hK (by rw [hT]; exact hcB) hoB hclB hg (hsize.trans hml.symm) (argsL := As) (rest := rest) (fun sig h => hn.trans (hlen sig h)) hstack hW (by rw [hb]; exact hdg)
    (fun vm₁ hW₁ => ⟨hf.1, hf.2, hPc (T.setVm vm₁) hT hW₁⟩) with ⟨v, vm₁, ⟨U', l2, c2, s2⟩, hW₁, X', ⟨g', mk, t, L, e1, e2, hq, h1, hL, h2, h3⟩, st⟩ | ⟨q, vm₁, ⟨U', l2, c2, s2⟩, hW₁, X', ⟨g', mk, t, L, E, ce, e1, e2, hq, hce, hcv, hcl, h1, hL, h2, h3⟩, st⟩
  · dsimp only [Pt.U, Pt.locs, Pt.cells, Pt.slots] at X' e1 e2 h1 h2 h3 st
    subst h1; subst h2; subst h3
    exact Or.inl ⟨v, (T.setVm vm₁).calling g' mk (Value.ref b :: As).toArray, t, U', L, hT, X', hL, e1, e2, hq, st⟩
  · dsimp only [Pt.U, Pt.locs, Pt.cells, Pt.slots] at X' e1 e2 h1 h2 h3 st hcl
    subst h1; subst h2; subst h3
    exact Or.inr ⟨q, (T.setVm vm₁).calling g' mk (Value.ref b :: As).toArray, t, U', L, E, ce, hT, X', hL, e1, e2, hq, hce, hcv, vx_cls hW₁ hcl, st⟩
theorem vx_runS (S : CallFix p m c cc nL s args Ts own) (hM : vx_Met l y ws rm Pc Qc XC mc ms free) (cw : CallB R s args own index y bytes maxL ret ws rm mc ms n ∧ (Cond.static y).before args s = true) (hp : PreS s H Pc As)
    (hg : g.method = m) (hn : As.length = n) (hsize : g.locals.size = nL) (hstack : g.stack = As.reverse ++ rest) (hW : 2 * g.monitorRoom + (rest.map fun v => v.category).sum ≤ 8) (hdg : decode cc g.pc = .ok (.invokestatic index, 3)) (hf : cells + mc ≤ R.cells ∧ slots + ms ≤ R.slots) :
    vx_Run p l e R s m args below meth c H locs cells slots mc ms g rest (Qc As.toArray) XC free := by
  have hK : vx_Back l R p e below s args y 3 8 (PreOf R mc ms Pc) (PostOf Qc mc ms free) (vx_Post XC mc ms free) := vx_callBack cw.1 hM hp.1
  obtain ⟨⟨-, -, -, -, -, -, hcode, hini, hy, hlen, hl⟩, hstt⟩ := cw
  obtain ⟨hx, hb, hml, ho, -⟩ := S
  intro T hT X
  rcases vx_callS X hx (bytes := bytes) (maxL := maxL) (ret := ret) ho hl hstt hini hcode hy hK hg (hsize.trans hml.symm) (argsL := As) (rest := rest) (fun sig h => hn.trans (hlen sig h)) hstack hW (by rw [hb]; exact hdg)
    (fun vm₁ hW₁ => ⟨hf.1, hf.2, hp.2 (T.setVm vm₁) hT hW₁⟩) with ⟨v, vm₁, ⟨U', l2, c2, s2⟩, hW₁, X', ⟨g', mk, t, L, e1, e2, hq, h1, hL, h2, h3⟩, st⟩ | ⟨q, vm₁, ⟨U', l2, c2, s2⟩, hW₁, X', ⟨g', mk, t, L, E, ce, e1, e2, hq, hce, hcv, hcl, h1, hL, h2, h3⟩, st⟩
  · dsimp only [Pt.U, Pt.locs, Pt.cells, Pt.slots] at X' e1 e2 h1 h2 h3 st
    subst h1; subst h2; subst h3
    exact Or.inl ⟨v, (T.setVm vm₁).calling g' mk As.toArray, t, U', L, hT, X', hL, e1, e2, hq, st⟩
  · dsimp only [Pt.U, Pt.locs, Pt.cells, Pt.slots] at X' e1 e2 h1 h2 h3 st hcl
    subst h1; subst h2; subst h3
    exact Or.inr ⟨q, (T.setVm vm₁).calling g' mk As.toArray, t, U', L, E, ce, hT, X', hL, e1, e2, hq, hce, hcv, vx_cls hW₁ hcl, st⟩
end Runs
section Rows
variable {p : Program} {l : Launch} {e : Env} {R : Room} {s : State} {m : MethodId} {args : Array Value} {below : List Frame} {meth : Method} {c : Code} {H : Heap} {locs : List Loc} {cells slots : Nat} {Q : State → Prop}
variable {mc ms : Nat} {free : Addr → Prop} {A0 A1 : Nat → Prop} {H0 : Heap} {a : Array Value} {pc : Nat} {ls : Array Slot} {st0 rest : List Value}
theorem vx_keep {st₀ t T' : State} {L : List Loc} (h0 : st₀.heap = H) (e1 : T'.heap = t.heap) (hS : va_S A0 H0 H locs) (hA : ∀ q, q < H.size → A1 q → A0 q) (hf : ∀ q, free q → A0 q) (hL : ∀ q ∈ L, free q.base) (hF : va_F A1 st₀ t) :
    H.size ≤ T'.heap.size ∧ (∀ q : Nat, q < H.size → ¬ A1 q → T'.heap[q]? = H[q]?) ∧ va_S A0 H0 T'.heap (locs ++ L) := by
  obtain ⟨hz, hk⟩ := hF
  rw [h0] at hz hk
  exact ⟨by rw [e1]; exact hz, fun q h1 h2 => by rw [e1]; exact hk q h1 h2,
    ⟨Nat.le_trans hS.1 (by rw [e1]; exact hz), fun q h1 h2 => by rw [e1, hk q (Nat.lt_of_lt_of_le h1 hS.1) (fun z => h2 (hA q (Nat.lt_of_lt_of_le h1 hS.1) z))]; exact hS.2.1 q h1 h2, fun q hq => by
      rcases List.mem_append.mp hq with h | h
      · exact hS.2.2 q h
      · exact hf _ (hL q h)⟩⟩
theorem vx_calli {S SX : Type} {post : Int32 → S → Prop} {px : SX → Prop} {B : S → State → Prop} {BX : String → SX → State → Prop} {AX : Nat → Prop} (hr : vx_Run p l e R s m args below meth c H locs cells slots mc ms (F0 m pc ls st0) rest (va_Qi post B A1 a) (vx_X px BX AX) free) (hS : va_S A0 H0 H locs) (hA : ∀ q, q < H.size → A1 q → A0 q) (hf : ∀ q, free q → A0 q) (hAX : ∀ q, q < H.size → AX q → A0 q)
    (kx : ∀ (E : String) (ce : Cell) (q9 : Addr) (u : SX) (t : State) (H1 : Heap) (locs1 : List Loc), t.heap = H1 → s.vm.Alike t.vm → px u → BX E u t → H.size ≤ H1.size → (∀ q : Nat, q < H.size → ¬ AX q → H1[q]? = H[q]?) → va_S A0 H0 H1 locs1 → H1[q9]? = some ce → ce.vm = .none → s.vm.findClass E = some ce.cls → vx_W p l e R s m args below meth c H1 locs1 (cells + mc) (slots + ms) Q (F0 m pc ls rest) q9)
    (kk : ∀ (r : Int32) (u : S) (t : State) (H1 : Heap) (locs1 : List Loc), t.heap = H1 → s.vm.Alike t.vm → post r u → B u t → H.size ≤ H1.size → (∀ q : Nat, q < H.size → ¬ A1 q → H1[q]? = H[q]?) → va_S A0 H0 H1 locs1 → W p l e R s m args below meth c H1 locs1 (cells + mc) (slots + ms) Q (F0 m (pc + 3) ls (.int r :: rest))) : W p l e R s m args below meth c H locs cells slots Q (F0 m pc ls st0) := by
  intro T hT X
  rcases hr T hT X with ⟨v, st₀, t, T', L, h0, X', hL, e1, e2, ⟨⟨r, u, hv, hp, hb⟩, hF⟩, st⟩ | ⟨q, st₀, t, T', L, E, ce, h0, X', hL, e1, e2, ⟨u, hp, hb, hF⟩, hce, hcv, hcl, st⟩
  · cases hv
    obtain ⟨k1, k2, k3⟩ := vx_keep h0 e1 hS hA hf hL hF
    obtain ⟨t2, a1, b1⟩ := kk r u t T'.heap (locs ++ L) e1.symm (by rw [← e2]; exact X'.warmed.alike) hp hb k1 k2 k3 T' rfl X'
    exact ⟨t2, st t2 a1, b1⟩
  · obtain ⟨k1, k2, k3⟩ := vx_keep h0 e1 hS hAX hf hL hF
    obtain ⟨t2, a1, b1⟩ := kx E ce q u t T'.heap (locs ++ L) e1.symm (by rw [← e2]; exact X'.warmed.alike) hp hb k1 k2 k3 (by rw [e1]; exact hce) hcv hcl T' rfl X'
    exact ⟨t2, st.trans a1, b1⟩
theorem vx_calll {S SX : Type} {post : Int64 → S → Prop} {px : SX → Prop} {B : S → State → Prop} {BX : String → SX → State → Prop} {AX : Nat → Prop} (hr : vx_Run p l e R s m args below meth c H locs cells slots mc ms (F0 m pc ls st0) rest (va_Ql post B A1 a) (vx_X px BX AX) free) (hS : va_S A0 H0 H locs) (hA : ∀ q, q < H.size → A1 q → A0 q) (hf : ∀ q, free q → A0 q) (hAX : ∀ q, q < H.size → AX q → A0 q)
    (kx : ∀ (E : String) (ce : Cell) (q9 : Addr) (u : SX) (t : State) (H1 : Heap) (locs1 : List Loc), t.heap = H1 → s.vm.Alike t.vm → px u → BX E u t → H.size ≤ H1.size → (∀ q : Nat, q < H.size → ¬ AX q → H1[q]? = H[q]?) → va_S A0 H0 H1 locs1 → H1[q9]? = some ce → ce.vm = .none → s.vm.findClass E = some ce.cls → vx_W p l e R s m args below meth c H1 locs1 (cells + mc) (slots + ms) Q (F0 m pc ls rest) q9)
    (kk : ∀ (r : Int64) (u : S) (t : State) (H1 : Heap) (locs1 : List Loc), t.heap = H1 → s.vm.Alike t.vm → post r u → B u t → H.size ≤ H1.size → (∀ q : Nat, q < H.size → ¬ A1 q → H1[q]? = H[q]?) → va_S A0 H0 H1 locs1 → W p l e R s m args below meth c H1 locs1 (cells + mc) (slots + ms) Q (F0 m (pc + 3) ls (.long r :: rest))) : W p l e R s m args below meth c H locs cells slots Q (F0 m pc ls st0) := by
  intro T hT X
  rcases hr T hT X with ⟨v, st₀, t, T', L, h0, X', hL, e1, e2, ⟨⟨r, u, hv, hp, hb⟩, hF⟩, st⟩ | ⟨q, st₀, t, T', L, E, ce, h0, X', hL, e1, e2, ⟨u, hp, hb, hF⟩, hce, hcv, hcl, st⟩
  · cases hv
    obtain ⟨k1, k2, k3⟩ := vx_keep h0 e1 hS hA hf hL hF
    obtain ⟨t2, a1, b1⟩ := kk r u t T'.heap (locs ++ L) e1.symm (by rw [← e2]; exact X'.warmed.alike) hp hb k1 k2 k3 T' rfl X'
    exact ⟨t2, st t2 a1, b1⟩
  · obtain ⟨k1, k2, k3⟩ := vx_keep h0 e1 hS hAX hf hL hF
    obtain ⟨t2, a1, b1⟩ := kx E ce q u t T'.heap (locs ++ L) e1.symm (by rw [← e2]; exact X'.warmed.alike) hp hb k1 k2 k3 (by rw [e1]; exact hce) hcv hcl T' rfl X'
    exact ⟨t2, st.trans a1, b1⟩
theorem vx_callf {S SX : Type} {post : UInt32 → S → Prop} {px : SX → Prop} {B : S → State → Prop} {BX : String → SX → State → Prop} {AX : Nat → Prop} (hr : vx_Run p l e R s m args below meth c H locs cells slots mc ms (F0 m pc ls st0) rest (va_Qf post B A1 a) (vx_X px BX AX) free) (hS : va_S A0 H0 H locs) (hA : ∀ q, q < H.size → A1 q → A0 q) (hf : ∀ q, free q → A0 q) (hAX : ∀ q, q < H.size → AX q → A0 q)
    (kx : ∀ (E : String) (ce : Cell) (q9 : Addr) (u : SX) (t : State) (H1 : Heap) (locs1 : List Loc), t.heap = H1 → s.vm.Alike t.vm → px u → BX E u t → H.size ≤ H1.size → (∀ q : Nat, q < H.size → ¬ AX q → H1[q]? = H[q]?) → va_S A0 H0 H1 locs1 → H1[q9]? = some ce → ce.vm = .none → s.vm.findClass E = some ce.cls → vx_W p l e R s m args below meth c H1 locs1 (cells + mc) (slots + ms) Q (F0 m pc ls rest) q9)
    (kk : ∀ (r : UInt32) (u : S) (t : State) (H1 : Heap) (locs1 : List Loc), t.heap = H1 → s.vm.Alike t.vm → post r u → B u t → H.size ≤ H1.size → (∀ q : Nat, q < H.size → ¬ A1 q → H1[q]? = H[q]?) → va_S A0 H0 H1 locs1 → W p l e R s m args below meth c H1 locs1 (cells + mc) (slots + ms) Q (F0 m (pc + 3) ls (.float r :: rest))) : W p l e R s m args below meth c H locs cells slots Q (F0 m pc ls st0) := by
  intro T hT X
  rcases hr T hT X with ⟨v, st₀, t, T', L, h0, X', hL, e1, e2, ⟨⟨r, u, hv, hp, hb⟩, hF⟩, st⟩ | ⟨q, st₀, t, T', L, E, ce, h0, X', hL, e1, e2, ⟨u, hp, hb, hF⟩, hce, hcv, hcl, st⟩
  · cases hv
    obtain ⟨k1, k2, k3⟩ := vx_keep h0 e1 hS hA hf hL hF
    obtain ⟨t2, a1, b1⟩ := kk r u t T'.heap (locs ++ L) e1.symm (by rw [← e2]; exact X'.warmed.alike) hp hb k1 k2 k3 T' rfl X'
    exact ⟨t2, st t2 a1, b1⟩
  · obtain ⟨k1, k2, k3⟩ := vx_keep h0 e1 hS hAX hf hL hF
    obtain ⟨t2, a1, b1⟩ := kx E ce q u t T'.heap (locs ++ L) e1.symm (by rw [← e2]; exact X'.warmed.alike) hp hb k1 k2 k3 (by rw [e1]; exact hce) hcv hcl T' rfl X'
    exact ⟨t2, st.trans a1, b1⟩
theorem vx_calld {S SX : Type} {post : UInt64 → S → Prop} {px : SX → Prop} {B : S → State → Prop} {BX : String → SX → State → Prop} {AX : Nat → Prop} (hr : vx_Run p l e R s m args below meth c H locs cells slots mc ms (F0 m pc ls st0) rest (va_Qd post B A1 a) (vx_X px BX AX) free) (hS : va_S A0 H0 H locs) (hA : ∀ q, q < H.size → A1 q → A0 q) (hf : ∀ q, free q → A0 q) (hAX : ∀ q, q < H.size → AX q → A0 q)
    (kx : ∀ (E : String) (ce : Cell) (q9 : Addr) (u : SX) (t : State) (H1 : Heap) (locs1 : List Loc), t.heap = H1 → s.vm.Alike t.vm → px u → BX E u t → H.size ≤ H1.size → (∀ q : Nat, q < H.size → ¬ AX q → H1[q]? = H[q]?) → va_S A0 H0 H1 locs1 → H1[q9]? = some ce → ce.vm = .none → s.vm.findClass E = some ce.cls → vx_W p l e R s m args below meth c H1 locs1 (cells + mc) (slots + ms) Q (F0 m pc ls rest) q9)
    (kk : ∀ (r : UInt64) (u : S) (t : State) (H1 : Heap) (locs1 : List Loc), t.heap = H1 → s.vm.Alike t.vm → post r u → B u t → H.size ≤ H1.size → (∀ q : Nat, q < H.size → ¬ A1 q → H1[q]? = H[q]?) → va_S A0 H0 H1 locs1 → W p l e R s m args below meth c H1 locs1 (cells + mc) (slots + ms) Q (F0 m (pc + 3) ls (.double r :: rest))) : W p l e R s m args below meth c H locs cells slots Q (F0 m pc ls st0) := by
  intro T hT X
  rcases hr T hT X with ⟨v, st₀, t, T', L, h0, X', hL, e1, e2, ⟨⟨r, u, hv, hp, hb⟩, hF⟩, st⟩ | ⟨q, st₀, t, T', L, E, ce, h0, X', hL, e1, e2, ⟨u, hp, hb, hF⟩, hce, hcv, hcl, st⟩
  · cases hv
    obtain ⟨k1, k2, k3⟩ := vx_keep h0 e1 hS hA hf hL hF
    obtain ⟨t2, a1, b1⟩ := kk r u t T'.heap (locs ++ L) e1.symm (by rw [← e2]; exact X'.warmed.alike) hp hb k1 k2 k3 T' rfl X'
    exact ⟨t2, st t2 a1, b1⟩
  · obtain ⟨k1, k2, k3⟩ := vx_keep h0 e1 hS hAX hf hL hF
    obtain ⟨t2, a1, b1⟩ := kx E ce q u t T'.heap (locs ++ L) e1.symm (by rw [← e2]; exact X'.warmed.alike) hp hb k1 k2 k3 (by rw [e1]; exact hce) hcv hcl T' rfl X'
    exact ⟨t2, st.trans a1, b1⟩
theorem vx_callv {S SX : Type} {post : S → Prop} {px : SX → Prop} {B : S → State → Prop} {BX : String → SX → State → Prop} {AX : Nat → Prop} (hr : vx_Run p l e R s m args below meth c H locs cells slots mc ms (F0 m pc ls st0) rest (va_Qv post B A1 a) (vx_X px BX AX) free) (hS : va_S A0 H0 H locs) (hA : ∀ q, q < H.size → A1 q → A0 q) (hf : ∀ q, free q → A0 q) (hAX : ∀ q, q < H.size → AX q → A0 q)
    (kx : ∀ (E : String) (ce : Cell) (q9 : Addr) (u : SX) (t : State) (H1 : Heap) (locs1 : List Loc), t.heap = H1 → s.vm.Alike t.vm → px u → BX E u t → H.size ≤ H1.size → (∀ q : Nat, q < H.size → ¬ AX q → H1[q]? = H[q]?) → va_S A0 H0 H1 locs1 → H1[q9]? = some ce → ce.vm = .none → s.vm.findClass E = some ce.cls → vx_W p l e R s m args below meth c H1 locs1 (cells + mc) (slots + ms) Q (F0 m pc ls rest) q9)
    (kk : ∀ (u : S) (t : State) (H1 : Heap) (locs1 : List Loc), t.heap = H1 → s.vm.Alike t.vm → post u → B u t → H.size ≤ H1.size → (∀ q : Nat, q < H.size → ¬ A1 q → H1[q]? = H[q]?) → va_S A0 H0 H1 locs1 → W p l e R s m args below meth c H1 locs1 (cells + mc) (slots + ms) Q (F0 m (pc + 3) ls (rest))) : W p l e R s m args below meth c H locs cells slots Q (F0 m pc ls st0) := by
  intro T hT X
  rcases hr T hT X with ⟨v, st₀, t, T', L, h0, X', hL, e1, e2, ⟨⟨u, hv, hp, hb⟩, hF⟩, st⟩ | ⟨q, st₀, t, T', L, E, ce, h0, X', hL, e1, e2, ⟨u, hp, hb, hF⟩, hce, hcv, hcl, st⟩
  · cases hv
    obtain ⟨k1, k2, k3⟩ := vx_keep h0 e1 hS hA hf hL hF
    obtain ⟨t2, a1, b1⟩ := kk u t T'.heap (locs ++ L) e1.symm (by rw [← e2]; exact X'.warmed.alike) hp hb k1 k2 k3 T' rfl X'
    exact ⟨t2, st t2 a1, b1⟩
  · obtain ⟨k1, k2, k3⟩ := vx_keep h0 e1 hS hAX hf hL hF
    obtain ⟨t2, a1, b1⟩ := kx E ce q u t T'.heap (locs ++ L) e1.symm (by rw [← e2]; exact X'.warmed.alike) hp hb k1 k2 k3 (by rw [e1]; exact hce) hcv hcl T' rfl X'
    exact ⟨t2, st.trans a1, b1⟩
/-- caught by the row x of this method's table; the rows ahead don't take it -/
theorem vx_catch {own name : String} {E : String} {ce : Cell} {q : Addr} (hown : s.vm.findClass own = some m.cls) (pre : List ExceptionTableEntry) (x : ExceptionTableEntry) (suf : List ExceptionTableEntry) (hsplit : c.exceptionTable.toList = pre ++ x :: suf)
    (hpass : ∀ z ∈ pre, covers z pc = false ∨ (z.catchType ≠ 0 ∧ ∃ nm : String, (Cond.classLink own z.catchType nm).before args s = true ∧ va_Nc E nm s)) (hx : covers x pc = true) (h0 : x.catchType ≠ 0)
    (hlink : (Cond.classLink own x.catchType name).before args s = true) (hcast : (Cond.castable E name).before args s = true) (hcell : H[q]? = some ce) (hv : ce.vm = .none) (hcl : s.vm.findClass E = some ce.cls)
    (kk : W p l e R s m args below meth c H locs cells slots Q (F0 m x.handlerPc ls [.ref q])) : vx_W p l e R s m args below meth c H locs cells slots Q (F0 m pc ls rest) q := by
  intro T hT X
  have hpl : e.platform.magicAccessors = ({} : Platform).magicAccessors := by rw [X.admits.platform]
  obtain ⟨c3, c4, hc3, hc4, hasg⟩ := Cond.castable_spec hcast
  cases Option.some.inj (hc3.symm.trans hcl)
  obtain ⟨c5, hc5, hcl5⟩ := Cond.classLink_spec hown hlink e.platform hpl
  cases Option.some.inj (hc4.symm.trans hc5)
  obtain ⟨vm', X', st⟩ := X.thenCaughtThrough q (g := F0 m pc ls rest) rfl (Steps.refl _) (by rw [hT]; exact hcell) (by rw [hv]; rfl) (by obtain ⟨k9, h9, -⟩ := Vm.findClass_spec hcl; exact ⟨k9, h9⟩) pre x suf hsplit
    (fun z hz => by
      rcases hpass z hz with h | ⟨hz0, nm, hl1, hn1⟩
      · exact Or.inl h
      · obtain ⟨c6, hc6, hcl6⟩ := Cond.classLink_spec hown hl1 e.platform hpl
        obtain ⟨a8, b8, h1, h2, h3⟩ := hn1
        cases Option.some.inj (h1.symm.trans hcl)
        cases Option.some.inj (h2.symm.trans hc6)
        exact Or.inr ⟨hz0, _, hcl6, h3⟩) hx (Or.inr ⟨h0, c4, hcl5, hasg⟩)
  obtain ⟨t, a1, b1⟩ := kk (T.setVm vm') hT X'
  exact ⟨t, st.trans a1, b1⟩
end Rows
section Ends
variable {p : Program} {l : Launch} {e : Env} {R : Room} {s : State} {m : MethodId} {args : Array Value} {below : List Frame} {meth : Method} {c : Code} {H : Heap} {locs : List Loc} {cells slots : Nat} {Q : State → Prop}
variable {mc ms : Nat} {free : Addr → Prop} {A0 A1 : Nat → Prop} {H0 : Heap} {a : Array Value} {ls : Array Slot} {st0 rest : List Value}
variable {Qc : Array Value → State → Outcome → State → Prop} {XC : String → State → State → Prop}
/-- what a body that may throw owes at its end -/
def vx_MQ (below : List Frame) (Qc : Array Value → State → Outcome → State → Prop) (XC : String → State → State → Prop) (a : Array Value) (s : State) (mc ms : Nat) (free : Addr → Prop) : State → Prop := fun t =>
  ∃ o, t.status = .running ∧ Ended t below o ∧ vx_Q Qc XC mc ms free a s o t
theorem vx_ret {g : JFrame} {mc ms : Nat} (k : W p l e R s m args below meth c H locs cells slots (MQ below Qc args s mc ms free) g) : W p l e R s m args below meth c H locs cells slots (vx_MQ below Qc XC args s mc ms free) g := by
  intro T hT X
  obtain ⟨t, a1, o, b1, b2, b3, b4⟩ := k T hT X
  exact ⟨t, a1, o, b1, b2, Or.inl ⟨b3, b4⟩⟩
/-- not caught here: it goes on to the caller -/
theorem vx_widen {g : JFrame} {q : Addr} {k n : Nat} (h1 : cells ≤ k) (h2 : slots ≤ n) (kk : vx_W p l e R s m args below meth c H locs k n Q g q) : vx_W p l e R s m args below meth c H locs cells slots Q g q := fun T hT X => kk T hT (stand_widen X h1 h2)
theorem vx_out {pc : Nat} {E : String} {ce : Cell} {q : Addr} {mc ms : Nat} (hout : ∀ x ∈ c.exceptionTable.toList, covers x pc = false) (hlocks : meth.locks = false) (hcell : H[q]? = some ce) (hv : ce.vm = .none) (hcl : s.vm.findClass E = some ce.cls)
    (hx : ∀ t : State, t.heap = H → s.vm.Alike t.vm → XC E s t) (hf : ∀ z ∈ locs, free z.base) (hc : cells ≤ mc) (hs : slots ≤ ms) :
    vx_W p l e R s m args below meth c H locs cells slots (vx_MQ below Qc XC args s mc ms free) (F0 m pc ls rest) q := by
  intro T hT X
  obtain ⟨st1, hrun, hend, hW, hsm⟩ := X.leaveThrown q (g := F0 m pc ls rest) rfl rfl rfl hout hlocks
  have hcell9 : (T.setFrames (.throwing q :: below)).heap[q]? = some ce := by
    show T.heap[q]? = some ce
    rw [hT]; exact hcell
  exact ⟨_, st1, .threw q, hrun, hend, Or.inr ⟨q, rfl, E, ce, locs, hx _ hT hW.alike, hcell9, hv, hcl, hW, hsm.mono hc hs, hf⟩⟩
theorem vx_frame {U : State} {k n : Nat} (h : s.sameButNew ({ U with vm := s.vm } : State) locs k n) : s.heap.size ≤ U.heap.size ∧ ∀ q : Nat, q < s.heap.size → (∀ z ∈ locs, z.base ≠ q) → U.heap[q]? = s.heap[q]? := by
  obtain ⟨-, h2, -, -, -, h6⟩ := h
  refine ⟨h2, fun q hq hz => ?_⟩
  obtain ⟨c9, e1, e2, e3, e4⟩ := h6 q _ (Array.getElem?_eq_getElem hq)
  have hs : c9.slots = (s.heap[q]).slots := Array.ext_getElem? fun i => e4 i fun hm => hz _ hm rfl
  have h9 : c9 = s.heap[q] := by
    rw [hs] at e2
    exact e2
  have e5 : U.heap[q]? = some c9 := e1
  rw [e5, h9, Array.getElem?_eq_getElem hq]
/-- the words of a throw but the four that speak of the heap -/
def vx_no (w : Cond) : Bool := decide (w ≠ .isRef (.static Bundle.tN "UNASSIGNED_STACK" Bundle.steD)) && decide (w ≠ .isRef (.static Bundle.tN "SUPPRESSED_SENTINEL" Bundle.listD)) && decide (w ≠ .laysStatic Bundle.tN "UNASSIGNED_STACK" Bundle.steD) && decide (w ≠ .laysStatic Bundle.tN "SUPPRESSED_SENTINEL" Bundle.listD)
def vx_at0 (own : String) (ic : Nat) (X : String) (names : List String) : List Cond := (Bundle.ownAtoms0 own ic X names).filter vx_no
def vx_atS (own : String) (ic : Nat) (X : String) (names : List String) : List Cond := (Bundle.ownAtoms own ic X names).filter vx_no
/-- a word that the tables alone decide, or a good one -/
def vx_ot (w : Cond) : Bool := w.onTables || goodWord w
theorem vx_ot_at {args a' : Array Value} {s U : State} {w : Cond} (hW : s.WarmedH U.vm) (hvm : s.vm = U.vm) (hg : vx_ot w = true) (h : w.before args s = true) : w.before a' U = true := by
  simp only [vx_ot, Bool.or_eq_true] at hg
  rcases hg with hg | hg
  · exact va_tabs hg hvm h
  · exact word_at hW (good_of_word hg) h
/-- a list's words: the good ones out of the method's own list, the others by premises of their own -/
theorem vx_hat {args : Array Value} {s : State} {L B : List Cond} (h1 : ∀ w ∈ L.filter goodWord, w.before args s = true) (h2 : ∀ w ∈ L.filter (fun w => !goodWord w), w ∈ B) (h3 : ∀ w ∈ B, w.before args s = true) : ∀ w ∈ L, w.before args s = true := by
  intro w hw
  by_cases g : goodWord w = true
  · exact h1 w (List.mem_filter.mpr ⟨hw, g⟩)
  · refine h3 w (h2 w (List.mem_filter.mpr ⟨hw, ?_⟩))
    show (!goodWord w) = true
    cases hgw : goodWord w
    · rfl
    · exact absurd hgw g
theorem vx_c {args : Array Value} {s : State} {w : Cond} {B : List Cond} (h : w.before args s = true) (t : ∀ w ∈ B, w.before args s = true) : ∀ w' ∈ w :: B, w'.before args s = true := fun w' h' => (List.mem_cons.mp h').elim (fun e => by rw [e]; exact h) (t w')
theorem vx_n {args : Array Value} {s : State} : ∀ w ∈ ([] : List Cond), w.before args s = true := fun _ h => nomatch h
theorem vx_own {args : Array Value} {s : State} {L : List Cond} (h1 : ∀ w ∈ L.filter vx_no, w.before args s = true)
    (hU : (Cond.isRef (.static Bundle.tN "UNASSIGNED_STACK" Bundle.steD)).before args s = true) (hN : (Cond.isRef (.static Bundle.tN "SUPPRESSED_SENTINEL" Bundle.listD)).before args s = true)
    (lU : (Cond.laysStatic Bundle.tN "UNASSIGNED_STACK" Bundle.steD).before args s = true) (lN : (Cond.laysStatic Bundle.tN "SUPPRESSED_SENTINEL" Bundle.listD).before args s = true) : ∀ w ∈ L, w.before args s = true := by
  intro w hw
  by_cases e1 : w = .isRef (.static Bundle.tN "UNASSIGNED_STACK" Bundle.steD)
  · rw [e1]; exact hU
  · by_cases e2 : w = .isRef (.static Bundle.tN "SUPPRESSED_SENTINEL" Bundle.listD)
    · rw [e2]; exact hN
    · by_cases e3 : w = .laysStatic Bundle.tN "UNASSIGNED_STACK" Bundle.steD
      · rw [e3]; exact lU
      · by_cases e4 : w = .laysStatic Bundle.tN "SUPPRESSED_SENTINEL" Bundle.listD
        · rw [e4]; exact lN
        · exact h1 w (List.mem_filter.mpr ⟨hw, by unfold vx_no; rw [decide_eq_true e1, decide_eq_true e2, decide_eq_true e3, decide_eq_true e4]; rfl⟩)
/-- where a static field lies, its class's statics cell in H -/
def vx_L (C n d : String) (A : Nat → Prop) (U : State) (H : Heap) : Prop := ∃ (c : ClassId) (k : Class) (i : Nat) (f : Field) (a : Nat) (cell : Cell), U.vm.findClass C = some c ∧ U.fieldFound? C n d = some (c, k, i, f) ∧ f.isStatic = true ∧ k.statics = some a ∧ H[a]? = some cell ∧ cell.vm.isStatics = true ∧ cell.cls = c ∧ f.slot < cell.slots.size ∧ k.staticTypes[f.slot]? = some f.type ∧ ¬ A a
theorem vx_L.moved {C n d : String} {A : Nat → Prop} {u U : State} {H : Heap} (hvm : u.vm.Alike U.vm) (h : vx_L C n d A u H) : vx_L C n d A U H := by
  obtain ⟨c, k, i, f, a, cell, h1, h2, h3, h4, h5, h6, h7, h8, h9, h10⟩ := h
  obtain ⟨k', hi', he⟩ := State.fieldFound?_setVm hvm h2
  exact ⟨c, k', i, f, a, cell, by rw [hvm.findClass]; exact h1, hi', h3, by rw [he]; exact h4, h5, h6, h7, h8, by rw [he]; exact h9, h10⟩
theorem vx_L.kept {C n d : String} {A : Nat → Prop} {U : State} {H H1 : Heap} (h : vx_L C n d A U H) (hq : ∀ a : Nat, a < H.size → ¬ A a → H1[a]? = H[a]?) : vx_L C n d A U H1 := by
  obtain ⟨c, k, i, f, a, cell, h1, h2, h3, h4, h5, h6, h7, h8, h9, h10⟩ := h
  exact ⟨c, k, i, f, a, cell, h1, h2, h3, h4, by rw [hq a (Array.getElem?_eq_some_iff.mp h5).1 h10]; exact h5, h6, h7, h8, h9, h10⟩
theorem vx_L.narrow {C n d : String} {A B : Nat → Prop} {U : State} {H : Heap} (h : vx_L C n d A U H) (hAB : ∀ q, B q → A q) : vx_L C n d B U H := by
  obtain ⟨c, k, i, f, a, cell, h1, h2, h3, h4, h5, h6, h7, h8, h9, h10⟩ := h
  exact ⟨c, k, i, f, a, cell, h1, h2, h3, h4, h5, h6, h7, h8, h9, fun z => h10 (hAB _ z)⟩
theorem vx_L.word {C n d : String} {A : Nat → Prop} {s : State} {args : Array Value} (h : vx_L C n d A s s.heap) : (Cond.laysStatic C n d).before args s = true := by
  obtain ⟨c, k, i, f, a, cell, h1, h2, h3, h4, h5, h6, h7, h8, h9, -⟩ := h
  show (Cond.laysStatic C n d).holds args s none s [] = true
  exact Cond.laysStatic_of h1 h2 h3 h4 h5 h6 h7 h8 h9
/-- .. and what it holds: null or some reference -/
def vx_Zq (C n d : String) (A : Nat → Prop) (U : State) (H : Heap) : Prop := va_Zq C n d A U H ∧ vx_L C n d A U H
theorem vx_Zq.moved {C n d : String} {A : Nat → Prop} {u U : State} {H : Heap} (hvm : u.vm.Alike U.vm) (h : vx_Zq C n d A u H) : vx_Zq C n d A U H := ⟨va_Zq.moved hvm h.1, vx_L.moved hvm h.2⟩
theorem vx_Zq.kept {C n d : String} {A : Nat → Prop} {U : State} {H H1 : Heap} (h : vx_Zq C n d A U H) (hq : ∀ a : Nat, a < H.size → ¬ A a → H1[a]? = H[a]?) : vx_Zq C n d A U H1 := ⟨va_Zq.kept h.1 hq, vx_L.kept h.2 hq⟩
theorem vx_Zq.narrow {C n d : String} {A B : Nat → Prop} {U : State} {H : Heap} (h : vx_Zq C n d A U H) (hAB : ∀ q, B q → A q) : vx_Zq C n d B U H := ⟨va_Zq.narrow h.1 hAB, vx_L.narrow h.2 hAB⟩
theorem vx_Zqof {args : Array Value} {s : State} {C n d : String} {A : Nat → Prop} (hl : (Cond.laysStatic C n d).before args s = true) (hini : (Cond.initialized C).before args s = true) (h : (Cond.isRef (.static C n d)).before args s = true) (hA : ∀ a : Nat, a < s.heap.size → ¬ A a) : vx_Zq C n d A s s.heap := by
  refine ⟨va_Zqof hl hini h hA, ?_⟩
  obtain ⟨c, k, i, f, a, cell, h1, h2, h3, h4, h5, h6, h7, h8, h9⟩ := Cond.laysStatic_spec hl
  exact ⟨c, k, i, f, a, cell, h1, h2, h3, h4, h5, h6, h7, h8, h9, hA a (Array.getElem?_eq_some_iff.mp h5).1⟩
theorem vx_isRef {C n d : String} {v : Value} {A : Nat → Prop} {s : State} {args : Array Value} (h : va_Z C n d v A s s.heap) (hv : v.isRef = true) : (Cond.isRef (.static C n d)).before args s = true := by
  obtain ⟨cf, kf, fi, f, a, cell, h1, h2, h3, h4, h5, h6, h7, -⟩ := h
  have he : (Term.static C n d).eval args s none [] s = some v := by
    simp [Term.eval, State.fieldNamed?, h1, h2, h4, h5, h6, h7]
  simp only [Cond.before, Cond.holds, Cond.value, he]
  cases v <;> simp_all [Value.isRef]
theorem vx_isRefq {C n d : String} {A : Nat → Prop} {s : State} {args : Array Value} (h : va_Zq C n d A s s.heap) : (Cond.isRef (.static C n d)).before args s = true := by
  rcases h with h | ⟨t, h⟩
  · exact vx_isRef h rfl
  · exact vx_isRef h rfl
/-- the same frame, seen from here: as if the method were called anew in this heap -/
theorem vx_rebase {T : State} (X : Stand p l e R s m args below meth c T locs cells slots) {R' : Room} (hf : R'.frames ≤ R.frames) (hl : R'.locals ≤ R.locals) (hc : cells + R'.cells ≤ R.cells) (hs : slots + R'.slots ≤ R.slots) :
    Stand p l e R' ((T.setVm s.vm).setFrames (.invoking m args :: below)) m args below meth c T [] 0 0 := by
  have htop : (T.setVm s.vm).topJava?.isSome := X.here.top
  have hF : ((T.setVm s.vm).setFrames (.invoking m args :: below)).frames = .invoking m args :: below := State.frames_setFrames _ (State.cur_lt_of_top htop)
  obtain ⟨g₀, hg0⟩ := Option.isSome_iff_exists.mp htop
  obtain ⟨r, hr⟩ := State.topJava?_eq_some.mp hg0
  have hl9 : e.platform.stackLimits (T.setVm s.vm).me = e.platform.stackLimits s.me := X.limits
  have hb9 : (T.setVm s.vm).me.stackBytes = s.me.stackBytes := X.bytes
  refine ⟨X.admits, X.cas, X.clock, hF, ?_, X.hears, X.method, X.code, X.here, X.tail, X.warmed, ?_, ?_, ?_⟩
  · have h := X.room
    have hU : ((T.setVm s.vm).setFrames (.invoking m args :: below)).localsInUse = s.localsInUse := by
      rw [State.localsInUse_invoking hF (meth := meth) (c := c) X.method X.code, State.localsInUse_invoking X.frames X.method X.code]
    simp only [State.hasRoom, Bool.and_eq_true, decide_eq_true_eq] at h ⊢
    obtain ⟨⟨⟨⟨h1, h2, h3, h4, h5, h6⟩, h7⟩, h8⟩, h9⟩ := h
    rw [X.frames, List.length_cons] at h2 h3
    have q1 := X.heapSize
    have q2 := X.used
    simp only [hF, hU, List.length_cons, State.stackLimits_setFrames, State.stackBytes_setFrames, hl9, hb9]
    refine ⟨⟨⟨⟨by omega, by omega, by omega, by omega, by omega, h6⟩, ?_⟩, ?_⟩, X.book⟩
    · show T.heap.size + R'.cells ≤ e.platform.maxCells
      omega
    · show T.slotsUsed + R'.slots ≤ e.platform.maxSlots
      omega
  · rw [State.stackLimits_setFrames]; rfl
  · rw [State.stackBytes_setFrames]; rfl
  · refine ⟨?_, Nat.le_refl _, Nat.le_refl _, ?_, ?_, fun a c9 h9 => ⟨c9, h9, rfl, rfl, fun _ _ => rfl⟩⟩
    · obtain ⟨t, ht, -⟩ := State.frames_cons hr
      show T.setVm s.vm = { ((T.setVm s.vm).setFrames (.invoking m args :: below)).setFrames (T.setVm s.vm).frames with heap := T.heap, slotsUsed := T.slotsUsed }
      rw [State.setFrames_setFrames, State.setFrames_self ht]
      rfl
    · show T.slotsUsed = T.slotsUsed + ((T.heap.toList.drop T.heap.size).map (·.slots.size)).sum
      rw [List.drop_eq_nil_of_le (Nat.le_of_eq Array.length_toList)]
      rfl
    · show ((T.heap.toList.drop T.heap.size).map (·.slots.size)).sum ≤ 0
      rw [List.drop_eq_nil_of_le (Nat.le_of_eq Array.length_toList)]
      exact Nat.le_refl _
/-- 'throw new E()': new; dup; invokespecial; athrow -/
theorem vx_throw0 {cc : ByteArray} {pc : Nat} (hexec : p.tables.exec = Jvm.exec) (hb : c.code = cc) (hl : l.stackTraces = false) {own cls : String} {names : List String} {ik ic mc ms : Nat} {A : Nat → Prop}
    (hown : s.vm.findClass own = some m.cls) (hcls : Bundle.fit cls = true) (hnames : ∀ n ∈ names, Bundle.fit n = true)
    (hk : (Cond.classLink own ik cls).before args s = true) (hini : (Cond.initialized cls).before args s = true) (hat : ∀ w ∈ vx_at0 own ic cls names, w.before args s = true)
    (hgood : ∀ w ∈ Cond.classLink own ik cls :: Cond.initialized cls :: vx_at0 own ic cls names, vx_ot w = true)
    (hU : vx_Zq Bundle.tN "UNASSIGNED_STACK" Bundle.steD A s s.heap) (hN : vx_Zq Bundle.tN "SUPPRESSED_SENTINEL" Bundle.listD A s s.heap) (hS : va_S A s.heap H locs) (hsize : ls.size = c.maxLocals)
    (d0 : decode cc pc = .ok (.new ik, 3)) (d3 : decode cc (pc + 3) = .ok (.dup, 1)) (d4 : decode cc (pc + 4) = .ok (.invokespecial ic, 3)) (d7 : decode cc (pc + 7) = .ok (.athrow, 1))
    (hout : ∀ x ∈ c.exceptionTable.toList, covers x (pc + 7) = false)
    (hRframes : names.length + 3 < R.frames) (hRlocals : (rest.map fun v => v.category).sum + (13 * (names.length + 1) + 42) ≤ R.locals) (hRcells : cells + 1 ≤ R.cells) (hRslots : slots + 6 ≤ R.slots) (hlocks : meth.locks = false)
    (hx : ∀ t : State, s.vm.Alike t.vm → H.size ≤ t.heap.size → (∀ q : Nat, q < H.size → t.heap[q]? = H[q]?) → XC cls s t)
    (hf : ∀ z ∈ locs, free z.base) (hc : cells + 1 ≤ mc) (hs : slots + 6 ≤ ms) :
    W p l e R s m args below meth c H locs cells slots (vx_MQ below Qc XC args s mc ms free) (F0 m pc ls rest) := by
  intro T hT X
  have htr : e.platform.stackTraces = false := (show e.platform.stackTraces = l.stackTraces by rw [X.admits.platform]).trans hl
  have Y := vx_rebase X (R' := { frames := R.frames, locals := R.locals, cells := 1, slots := 6 }) (Nat.le_refl _) (Nat.le_refl _) hRcells hRslots
  obtain ⟨s', hA⟩ : ∃ z, z = (T.setVm s.vm).setFrames (.invoking m args :: below) := ⟨_, rfl⟩
  rw [← hA] at Y
  have hvm : s'.vm = s.vm := by rw [hA]; rfl
  have hhp : s'.heap = H := by rw [hA]; exact hT
  have hW0 : s.WarmedH s'.vm := by rw [hvm]; exact State.WarmedH.refl s
  have hat' : ∀ w ∈ vx_at0 own ic cls names, w.before args s' = true := fun w hw => vx_ot_at hW0 hvm.symm (hgood w (List.mem_cons_of_mem _ (List.mem_cons_of_mem _ hw))) (hat w hw)
  have hk' : (Cond.classLink own ik cls).before args s' = true := vx_ot_at hW0 hvm.symm (hgood _ List.mem_cons_self) hk
  have hini' : (Cond.initialized cls).before args s' = true := vx_ot_at hW0 hvm.symm (hgood _ (List.mem_cons_of_mem _ List.mem_cons_self)) hini
  have hU' : vx_Zq Bundle.tN "UNASSIGNED_STACK" Bundle.steD A s' s'.heap := by rw [hhp]; exact vx_Zq.moved hW0.alike (hU.kept hS.2.1)
  have hN' : vx_Zq Bundle.tN "SUPPRESSED_SENTINEL" Bundle.listD A s' s'.heap := by rw [hhp]; exact vx_Zq.moved hW0.alike (hN.kept hS.2.1)
  have h : ∀ w ∈ Bundle.ownAtoms0 own ic cls names, w.before args s' = true := vx_own hat' (vx_isRefq hU'.1) (vx_isRefq hN'.1) hU'.2.word hN'.2.word
  have hown' : s'.vm.findClass own = some m.cls := by rw [hvm]; exact hown
  have hins : (Cond.instantiable cls 6).before args s' = true := h _ (by simp [Bundle.ownAtoms0])
  obtain ⟨vm₁, cX, kX, hfX, hkX, -, -, X₁, st1⟩ := Y.newCold hexec (own := own) (C := cls) (index := ik) (n := 6) hown' hk' hins hini'
    (g := F0 m pc ls rest) rfl (by rw [hb]; exact d0) (Nat.le_refl _) (Nat.le_refl _)
  generalize hT1 : (T.setVm vm₁).pushCell { cls := cX, slots := kX.instanceTypes.map defaultValue, vm := .none } = T1 at X₁ st1
  have hcat : (Value.ref T.heap.size).category = 1 := rfl
  have hcellA : T1.heap[T.heap.size]? = some (freshCell cX kX) := by rw [← hT1]; exact State.heap_pushCell_size _ _
  have d3' : decode c.code (pc + 3) = .ok (.dup, 1) := by rw [hb]; exact d3
  obtain ⟨U, hsteps, hrun, hend, hW, hsame, ce, hce, hO⟩ := X₁.ctorThrow0 hexec htr (own := own) (cls := cls) (names := names) (ic := ic) hown' hcls hnames h (fun x hx => nomatch hx) hfX hkX hcellA (by rw [hhp, hT]; exact Nat.le_refl _)
    (g := { method := m, pc := pc + 4, locals := ls, stack := .ref T.heap.size :: .ref T.heap.size :: rest, locked := none }) rfl hsize rfl rfl (rest := rest) rfl
    (by rw [hb]; exact d4) (by rw [hb]; exact d7) hout hRframes (by simp only [List.map_cons, List.sum_cons, hcat]; omega) hlocks
  obtain ⟨f1, f2⟩ := vx_frame hsame
  rw [hhp] at f1 f2
  have hWs : s.WarmedH U.vm := State.WarmedH.trans hW0 hW
  have hcl : s.vm.findClass cls = some ce.cls := by
    have h9 := hO.cls
    rw [hvm] at h9
    exact h9
  have hall : s.sameButNew ({ U with vm := s.vm } : State) locs mc ms := by
    subst hA
    obtain ⟨e1, e2⟩ := hsame
    rw [State.setFrames_setFrames] at e1
    have h2 : (T.setVm s.vm).sameButNew ({ U with vm := s.vm } : State) [] (0 + 1) (0 + 6) := ⟨e1, e2⟩
    have h3 := X.same.trans h2
    rw [List.append_nil] at h3
    exact h3.mono hc hs
  refine ⟨U, ?_, .threw T.heap.size, hrun, hend, Or.inr ⟨T.heap.size, rfl, cls, ce, locs, hx U hWs.alike f1 (fun q hq => f2 q hq (fun z hz => nomatch hz)), hce, hO.vm, hcl, hWs, hall, hf⟩⟩
  refine st1 _ ?_
  show Steps p.tables e below (T1.setTop { method := m, pc := pc + 3, locals := ls, stack := .ref T.heap.size :: rest, locked := none }) _
  jvm_step X₁.here [X₁.here.top, hexec, d3', Value.category]
  exact hsteps
/-- 'throw new E("text")': new; dup; ldc; invokespecial; athrow -/
theorem vx_throwS {cc : ByteArray} {pc : Nat} (hexec : p.tables.exec = Jvm.exec) (hb : c.code = cc) (hl : l.stackTraces = false) {own cls text : String} {names : List String} {ik is ic mc ms sa : Nat} {A : Nat → Prop}
    (hown : s.vm.findClass own = some m.cls) (hcls : Bundle.fit cls = true) (hnames : ∀ n ∈ names, Bundle.fit n = true)
    (hk : (Cond.classLink own ik cls).before args s = true) (hini : (Cond.initialized cls).before args s = true) (hstr : vk_R own is text sa s) (hat : ∀ w ∈ vx_atS own ic cls names, w.before args s = true)
    (hgood : ∀ w ∈ Cond.classLink own ik cls :: Cond.initialized cls :: vx_atS own ic cls names, vx_ot w = true)
    (hU : vx_Zq Bundle.tN "UNASSIGNED_STACK" Bundle.steD A s s.heap) (hN : vx_Zq Bundle.tN "SUPPRESSED_SENTINEL" Bundle.listD A s s.heap) (hS : va_S A s.heap H locs) (hsize : ls.size = c.maxLocals)
    (d0 : decode cc pc = .ok (.new ik, 3)) (d3 : decode cc (pc + 3) = .ok (.dup, 1)) (d4 : decode cc (pc + 4) = .ok (.ldc is, 2)) (d6 : decode cc (pc + 6) = .ok (.invokespecial ic, 3)) (d9 : decode cc (pc + 9) = .ok (.athrow, 1))
    (hout : ∀ x ∈ c.exceptionTable.toList, covers x (pc + 9) = false)
    (hRframes : names.length + 3 < R.frames) (hRlocals : (rest.map fun v => v.category).sum + (13 * (names.length + 1) + 43) ≤ R.locals) (hRcells : cells + 1 ≤ R.cells) (hRslots : slots + 6 ≤ R.slots) (hlocks : meth.locks = false)
    (hx : ∀ t : State, s.vm.Alike t.vm → H.size ≤ t.heap.size → (∀ q : Nat, q < H.size → t.heap[q]? = H[q]?) → XC cls s t)
    (hf : ∀ z ∈ locs, free z.base) (hc : cells + 1 ≤ mc) (hs : slots + 6 ≤ ms) :
    W p l e R s m args below meth c H locs cells slots (vx_MQ below Qc XC args s mc ms free) (F0 m pc ls rest) := by
  intro T hT X
  have htr : e.platform.stackTraces = false := (show e.platform.stackTraces = l.stackTraces by rw [X.admits.platform]).trans hl
  have Y := vx_rebase X (R' := { frames := R.frames, locals := R.locals, cells := 1, slots := 6 }) (Nat.le_refl _) (Nat.le_refl _) hRcells hRslots
  obtain ⟨s', hA⟩ : ∃ z, z = (T.setVm s.vm).setFrames (.invoking m args :: below) := ⟨_, rfl⟩
  rw [← hA] at Y
  have hvm : s'.vm = s.vm := by rw [hA]; rfl
  have hhp : s'.heap = H := by rw [hA]; exact hT
  have hW0 : s.WarmedH s'.vm := by rw [hvm]; exact State.WarmedH.refl s
  have hat' : ∀ w ∈ vx_atS own ic cls names, w.before args s' = true := fun w hw => vx_ot_at hW0 hvm.symm (hgood w (List.mem_cons_of_mem _ (List.mem_cons_of_mem _ hw))) (hat w hw)
  have hk' : (Cond.classLink own ik cls).before args s' = true := vx_ot_at hW0 hvm.symm (hgood _ List.mem_cons_self) hk
  have hini' : (Cond.initialized cls).before args s' = true := vx_ot_at hW0 hvm.symm (hgood _ (List.mem_cons_of_mem _ List.mem_cons_self)) hini
  have hU' : vx_Zq Bundle.tN "UNASSIGNED_STACK" Bundle.steD A s' s'.heap := by rw [hhp]; exact vx_Zq.moved hW0.alike (hU.kept hS.2.1)
  have hN' : vx_Zq Bundle.tN "SUPPRESSED_SENTINEL" Bundle.listD A s' s'.heap := by rw [hhp]; exact vx_Zq.moved hW0.alike (hN.kept hS.2.1)
  have h : ∀ w ∈ Bundle.ownAtoms own ic cls names, w.before args s' = true := vx_own hat' (vx_isRefq hU'.1) (vx_isRefq hN'.1) hU'.2.word hN'.2.word
  have hown' : s'.vm.findClass own = some m.cls := by rw [hvm]; exact hown
  have hins : (Cond.instantiable cls 6).before args s' = true := h _ (by simp [Bundle.ownAtoms])
  obtain ⟨vm₁, cX, kX, hfX, hkX, -, -, X₁, st1⟩ := Y.newCold hexec (own := own) (C := cls) (index := ik) (n := 6) hown' hk' hins hini'
    (g := F0 m pc ls rest) rfl (by rw [hb]; exact d0) (Nat.le_refl _) (Nat.le_refl _)
  generalize hT1 : (T.setVm vm₁).pushCell { cls := cX, slots := kX.instanceTypes.map defaultValue, vm := .none } = T1 at X₁ st1
  have hcat : (Value.ref T.heap.size).category = 1 := rfl
  have hcellA : T1.heap[T.heap.size]? = some (freshCell cX kX) := by rw [← hT1]; exact State.heap_pushCell_size _ _
  have d3' : decode c.code (pc + 3) = .ok (.dup, 1) := by rw [hb]; exact d3
  have d4' : decode c.code (pc + 4) = .ok (.ldc is, 2) := by rw [hb]; exact d4
  have hstr' : vk_R own is text sa s' := vk_R.warm hW0 hstr
  obtain ⟨U, hsteps, hrun, hend, hW, hsame, ce, hce, hO⟩ := X₁.ctorThrowS hexec htr (own := own) (cls := cls) (names := names) (ic := ic) hown' hcls hnames h (fun x hx => nomatch hx) hfX hkX hcellA (by rw [hhp, hT]; exact Nat.le_refl _) (msg := .ref sa) rfl
    (g := { method := m, pc := pc + 6, locals := ls, stack := .ref sa :: .ref T.heap.size :: .ref T.heap.size :: rest, locked := none }) rfl hsize rfl rfl (rest := rest) rfl
    (by rw [hb]; exact d6) (by rw [hb]; exact d9) hout hRframes (by simp only [List.map_cons, List.sum_cons, hcat]; omega) hlocks
  obtain ⟨f1, f2⟩ := vx_frame hsame
  rw [hhp] at f1 f2
  have hWs : s.WarmedH U.vm := State.WarmedH.trans hW0 hW
  have hcl : s.vm.findClass cls = some ce.cls := by
    have h9 := hO.cls
    rw [hvm] at h9
    exact h9
  have hall : s.sameButNew ({ U with vm := s.vm } : State) locs mc ms := by
    subst hA
    obtain ⟨e1, e2⟩ := hsame
    rw [State.setFrames_setFrames] at e1
    have h2 : (T.setVm s.vm).sameButNew ({ U with vm := s.vm } : State) [] (0 + 1) (0 + 6) := ⟨e1, e2⟩
    have h3 := X.same.trans h2
    rw [List.append_nil] at h3
    exact h3.mono hc hs
  refine ⟨U, ?_, .threw T.heap.size, hrun, hend, Or.inr ⟨T.heap.size, rfl, cls, ce, locs, hx U hWs.alike f1 (fun q hq => f2 q hq (fun z hz => nomatch hz)), hce, hO.vm, hcl, hWs, hall, hf⟩⟩
  refine st1 _ ?_
  show Steps p.tables e below (T1.setTop { method := m, pc := pc + 3, locals := ls, stack := .ref T.heap.size :: rest, locked := none }) _
  jvm_step X₁.here [X₁.here.top, hexec, d3', Value.category]
  exact X₁.ldcString hexec (own := own) (text := text) (index := is) (a := sa) hown' hstr'.1 hstr'.2
    (g := { method := m, pc := pc + 4, locals := ls, stack := .ref T.heap.size :: .ref T.heap.size :: rest, locked := none }) rfl d4' _ hsteps
/-- 'throw new E("text")', the text by a wide index -/
theorem vx_throwSW {cc : ByteArray} {pc : Nat} (hexec : p.tables.exec = Jvm.exec) (hb : c.code = cc) (hl : l.stackTraces = false) {own cls text : String} {names : List String} {ik is ic mc ms sa : Nat} {A : Nat → Prop}
    (hown : s.vm.findClass own = some m.cls) (hcls : Bundle.fit cls = true) (hnames : ∀ n ∈ names, Bundle.fit n = true)
    (hk : (Cond.classLink own ik cls).before args s = true) (hini : (Cond.initialized cls).before args s = true) (hstr : vk_R own is text sa s) (hat : ∀ w ∈ vx_atS own ic cls names, w.before args s = true)
    (hgood : ∀ w ∈ Cond.classLink own ik cls :: Cond.initialized cls :: vx_atS own ic cls names, vx_ot w = true)
    (hU : vx_Zq Bundle.tN "UNASSIGNED_STACK" Bundle.steD A s s.heap) (hN : vx_Zq Bundle.tN "SUPPRESSED_SENTINEL" Bundle.listD A s s.heap) (hS : va_S A s.heap H locs) (hsize : ls.size = c.maxLocals)
    (d0 : decode cc pc = .ok (.new ik, 3)) (d3 : decode cc (pc + 3) = .ok (.dup, 1)) (d4 : decode cc (pc + 4) = .ok (.ldc_w is, 3)) (d7 : decode cc (pc + 7) = .ok (.invokespecial ic, 3)) (d10 : decode cc (pc + 10) = .ok (.athrow, 1))
    (hout : ∀ x ∈ c.exceptionTable.toList, covers x (pc + 10) = false)
    (hRframes : names.length + 3 < R.frames) (hRlocals : (rest.map fun v => v.category).sum + (13 * (names.length + 1) + 43) ≤ R.locals) (hRcells : cells + 1 ≤ R.cells) (hRslots : slots + 6 ≤ R.slots) (hlocks : meth.locks = false)
    (hx : ∀ t : State, s.vm.Alike t.vm → H.size ≤ t.heap.size → (∀ q : Nat, q < H.size → t.heap[q]? = H[q]?) → XC cls s t)
    (hf : ∀ z ∈ locs, free z.base) (hc : cells + 1 ≤ mc) (hs : slots + 6 ≤ ms) :
    W p l e R s m args below meth c H locs cells slots (vx_MQ below Qc XC args s mc ms free) (F0 m pc ls rest) := by
  intro T hT X
  have htr : e.platform.stackTraces = false := (show e.platform.stackTraces = l.stackTraces by rw [X.admits.platform]).trans hl
  have Y := vx_rebase X (R' := { frames := R.frames, locals := R.locals, cells := 1, slots := 6 }) (Nat.le_refl _) (Nat.le_refl _) hRcells hRslots
  obtain ⟨s', hA⟩ : ∃ z, z = (T.setVm s.vm).setFrames (.invoking m args :: below) := ⟨_, rfl⟩
  rw [← hA] at Y
  have hvm : s'.vm = s.vm := by rw [hA]; rfl
  have hhp : s'.heap = H := by rw [hA]; exact hT
  have hW0 : s.WarmedH s'.vm := by rw [hvm]; exact State.WarmedH.refl s
  have hat' : ∀ w ∈ vx_atS own ic cls names, w.before args s' = true := fun w hw => vx_ot_at hW0 hvm.symm (hgood w (List.mem_cons_of_mem _ (List.mem_cons_of_mem _ hw))) (hat w hw)
  have hk' : (Cond.classLink own ik cls).before args s' = true := vx_ot_at hW0 hvm.symm (hgood _ List.mem_cons_self) hk
  have hini' : (Cond.initialized cls).before args s' = true := vx_ot_at hW0 hvm.symm (hgood _ (List.mem_cons_of_mem _ List.mem_cons_self)) hini
  have hU' : vx_Zq Bundle.tN "UNASSIGNED_STACK" Bundle.steD A s' s'.heap := by rw [hhp]; exact vx_Zq.moved hW0.alike (hU.kept hS.2.1)
  have hN' : vx_Zq Bundle.tN "SUPPRESSED_SENTINEL" Bundle.listD A s' s'.heap := by rw [hhp]; exact vx_Zq.moved hW0.alike (hN.kept hS.2.1)
  have h : ∀ w ∈ Bundle.ownAtoms own ic cls names, w.before args s' = true := vx_own hat' (vx_isRefq hU'.1) (vx_isRefq hN'.1) hU'.2.word hN'.2.word
  have hown' : s'.vm.findClass own = some m.cls := by rw [hvm]; exact hown
  have hins : (Cond.instantiable cls 6).before args s' = true := h _ (by simp [Bundle.ownAtoms])
  obtain ⟨vm₁, cX, kX, hfX, hkX, -, -, X₁, st1⟩ := Y.newCold hexec (own := own) (C := cls) (index := ik) (n := 6) hown' hk' hins hini'
    (g := F0 m pc ls rest) rfl (by rw [hb]; exact d0) (Nat.le_refl _) (Nat.le_refl _)
  generalize hT1 : (T.setVm vm₁).pushCell { cls := cX, slots := kX.instanceTypes.map defaultValue, vm := .none } = T1 at X₁ st1
  have hcat : (Value.ref T.heap.size).category = 1 := rfl
  have hcellA : T1.heap[T.heap.size]? = some (freshCell cX kX) := by rw [← hT1]; exact State.heap_pushCell_size _ _
  have d3' : decode c.code (pc + 3) = .ok (.dup, 1) := by rw [hb]; exact d3
  have d4' : decode c.code (pc + 4) = .ok (.ldc_w is, 3) := by rw [hb]; exact d4
  have hstr' : vk_R own is text sa s' := vk_R.warm hW0 hstr
  obtain ⟨U, hsteps, hrun, hend, hW, hsame, ce, hce, hO⟩ := X₁.ctorThrowS hexec htr (own := own) (cls := cls) (names := names) (ic := ic) hown' hcls hnames h (fun x hx => nomatch hx) hfX hkX hcellA (by rw [hhp, hT]; exact Nat.le_refl _) (msg := .ref sa) rfl
    (g := { method := m, pc := pc + 7, locals := ls, stack := .ref sa :: .ref T.heap.size :: .ref T.heap.size :: rest, locked := none }) rfl hsize rfl rfl (rest := rest) rfl
    (by rw [hb]; exact d7) (by rw [hb]; exact d10) hout hRframes (by simp only [List.map_cons, List.sum_cons, hcat]; omega) hlocks
  obtain ⟨f1, f2⟩ := vx_frame hsame
  rw [hhp] at f1 f2
  have hWs : s.WarmedH U.vm := State.WarmedH.trans hW0 hW
  have hcl : s.vm.findClass cls = some ce.cls := by
    have h9 := hO.cls
    rw [hvm] at h9
    exact h9
  have hall : s.sameButNew ({ U with vm := s.vm } : State) locs mc ms := by
    subst hA
    obtain ⟨e1, e2⟩ := hsame
    rw [State.setFrames_setFrames] at e1
    have h2 : (T.setVm s.vm).sameButNew ({ U with vm := s.vm } : State) [] (0 + 1) (0 + 6) := ⟨e1, e2⟩
    have h3 := X.same.trans h2
    rw [List.append_nil] at h3
    exact h3.mono hc hs
  refine ⟨U, ?_, .threw T.heap.size, hrun, hend, Or.inr ⟨T.heap.size, rfl, cls, ce, locs, hx U hWs.alike f1 (fun q hq => f2 q hq (fun z hz => nomatch hz)), hce, hO.vm, hcl, hWs, hall, hf⟩⟩
  refine st1 _ ?_
  show Steps p.tables e below (T1.setTop { method := m, pc := pc + 3, locals := ls, stack := .ref T.heap.size :: rest, locked := none }) _
  jvm_step X₁.here [X₁.here.top, hexec, d3', Value.category]
  exact X₁.ldcStringW hexec (own := own) (text := text) (index := is) (a := sa) hown' hstr'.1 hstr'.2
    (g := { method := m, pc := pc + 4, locals := ls, stack := .ref T.heap.size :: .ref T.heap.size :: rest, locked := none }) rfl d4' _ hsteps
end Ends
section Bodies
variable {l : Launch}
theorem vx_ofW {y : MethodName} {ws ws' : List Cond} {rm : Room} {Pc : Array Value → State → Prop} {Qc : Array Value → State → Outcome → State → Prop} {XC : String → State → State → Prop} {mc ms : Nat} {free : Addr → Prop} {cc : ByteArray} {maxL : Nat} {ret : Option FieldType}
    (hy : plainName y.cls = true) (hw : ws = Cond.code y cc maxL ret :: ws')
    (body : ∀ p e s m args below meth c s₁, BodyLoose p l y (headSpec ws rm) cc maxL ret e s m args below meth c s₁ → c.maxLocals = maxL → (∀ x ∈ c.exceptionTable.toList, False) → Pc args s →
      W p l e (headSpec ws rm).room s m args below meth c s.heap [] 0 0 (vx_MQ below Qc XC args s mc ms free) (entryFrame m args maxL)) : vx_Met l y ws rm Pc Qc XC mc ms free := by
  refine MetFree.of_bodyS (code := cc) (maxLocals := maxL) (ret := ret) hy ?_ ?_
  · intro args s m h hn
    obtain ⟨meth, c, h1, h2, h3, h4, h5, h6, -, -⟩ := Cond.code_spec hn (atoms_spec (ws := ws) h _ (by rw [hw]; exact List.mem_cons_self))
    exact ⟨meth, c, h1, h2, h3, h4, h5, h6⟩
  · intro p e s m args below meth c s₁ B hml hP _
    have hh0 : s₁.heap = s.heap := by rw [B.state]; rfl
    have ht : ∀ x ∈ c.exceptionTable.toList, False := by
      obtain ⟨meth9, c9, h1, h2, -, -, -, -, h7, -⟩ := Cond.code_spec B.named (atoms_spec (ws := ws) B.pre _ (by rw [hw]; exact List.mem_cons_self))
      cases Option.some.inj (h1.symm.trans B.method)
      cases Option.some.inj (h2.symm.trans (Stand.of_body B).code)
      intro x hx
      rw [Array.isEmpty_iff.mp h7] at hx
      cases hx
    obtain ⟨t, a1, o, b1, b2, b3⟩ := body p e s m args below meth c s₁ B hml ht hP s₁ hh0 (Stand.of_body B)
    exact ⟨t, o, a1, b1, b2, b3⟩
/-- the table of a body with handlers -/
theorem vx_table {p : Program} {x y : MethodName} {S : Spec} {cc bytes : ByteArray} {maxL maxL' : Nat} {ret ret' : Option FieldType} {e : Env} {s s₁ : State} {m : MethodId} {args : Array Value} {below : List Frame} {meth : Method} {c : Code} {hh : List (Nat × Nat × Nat × Nat)}
    (B : BodyLoose p l y S cc maxL ret e s m args below meth c s₁) (h : (Cond.codeWith y bytes maxL' ret' hh).before args s = true) : c.exceptionTable.toList = tableOf hh := by
  obtain ⟨m9, meth9, c9, hn9, h1, h2, -, -, h6, -⟩ := Cond.codeWith_spec h
  cases Option.some.inj (hn9.symm.trans B.named)
  cases Option.some.inj (h1.symm.trans B.method)
  cases Option.some.inj (h2.symm.trans (Stand.of_body B).code)
  rw [← h6, table_eq]
end Bodies
end VXA
/-! ===== END ===== -/
/-! ===== BEGIN a static call of a method with an exception table ===== -/
section VXS
variable {p : Program} {l : Launch} {e : Env} {R : Room} {s : State} {m : MethodId} {args : Array Value} {below : List Frame} {meth : Method} {c : Code} {T : State} {H : Heap} {locs : List Loc} {cells slots : Nat}
abbrev vx_CSW (R : Room) (s : State) (args : Array Value) (own : String) (index : Nat) (y : MethodName) (bytes : ByteArray) (maxL : Nat) (ret : Option FieldType) (hh : List (Nat × Nat × Nat × Nat)) (ws : List Cond) (rm : Room) (mc ms n : Nat) : Prop :=
  (rm.cells = mc ∧ rm.slots = ms ∧ rm.frames + 1 ≤ R.frames ∧ 8 + (maxL + 11) + rm.locals ≤ R.locals ∧ (∀ w ∈ ws, ∀ (a' : Array Value) (U : State), s.WarmedH U.vm → w.before a' U = true) ∧ Cond.codeWith y bytes maxL ret hh ∈ ws) ∧
  (Cond.codeWith y bytes maxL ret hh).before args s = true ∧ (Cond.initialized y.cls).before args s = true ∧ (y.cls ≠ "java/lang/invoke/MethodHandle" ∧ y.cls ≠ "java/lang/invoke/VarHandle") ∧
  (∀ sig, parseMethodDescriptor y.desc = some sig → n = sig.parameters.length) ∧ (Cond.methodLink own index y).before args s = true ∧ (Cond.static y).before args s = true
theorem vx_cwSW {own : String} {index maxL mc ms : Nat} {y : MethodName} {bytes : ByteArray} {ret : Option FieldType} {hh : List (Nat × Nat × Nat × Nat)} {Ts ws ws' : List Cond} {rm : Room} (n : Nat) (ht : ∀ w ∈ Ts, w.before args s = true) (hT : GoodIn Ts (va_wsS own index y ws)) (hw : ws = Cond.codeWith y bytes maxL ret hh :: ws') (hrc : rm.cells = mc) (hrs : rm.slots = ms)
    (hd : y.cls ≠ "java/lang/invoke/MethodHandle" ∧ y.cls ≠ "java/lang/invoke/VarHandle" ∧ (parseMethodDescriptor y.desc).map (fun d => d.parameters.length) = some n) (hR : rm.frames + 1 ≤ R.frames ∧ 8 + (maxL + 11) + rm.locals ≤ R.locals) :
    vx_CSW R s args own index y bytes maxL ret hh ws rm mc ms n := by
  have ok : ∀ w ∈ va_wsS own index y ws, w.before args s = true := fun w h => ht w (hT w h).1
  have hG : GoodIn Ts ws := fun w h => hT w (by unfold va_wsS; exact List.mem_append_right _ h)
  have hc : Cond.codeWith y bytes maxL ret hh ∈ ws := by rw [hw]; exact List.mem_cons_self
  refine ⟨⟨hrc, hrs, hR.1, hR.2, pay_in ht hG, hc⟩, ht _ (hG _ hc).1, ok _ (by simp [va_wsS]), ⟨hd.1, hd.2.1⟩, fun sig h => ?_, ok _ (by simp [va_wsS]), ok _ (by simp [va_wsS])⟩
  have h2 := hd.2.2
  rw [h] at h2
  exact (Option.some.inj h2).symm
theorem vx_callSW (X : Stand p l e R s m args below meth c T locs cells slots) (hexec : p.tables.exec = Jvm.exec) {own : String} {index : Nat} {y : MethodName} {bytes : ByteArray} {maxL : Nat} {ret : Option FieldType} {hh : List (Nat × Nat × Nat × Nat)}
    (hown : s.vm.findClass own = some m.cls) (hlink : (Cond.methodLink own index y).before args s = true) (hstat : (Cond.static y).before args s = true) (hinit : (Cond.initialized y.cls).before args s = true)
    (hcode : (Cond.codeWith y bytes maxL ret hh).before args s = true) (hy : y.cls ≠ "java/lang/invoke/MethodHandle" ∧ y.cls ≠ "java/lang/invoke/VarHandle")
    {W9 : Nat} {Pre : Pt → Array Value → Prop} {Post : Pt → Array Value → Option Value → Pt → Prop} (hK : Back l R p e below s args y 3 W9 Pre Post)
    {g : JFrame} (hg : g.method = m) (hsize : g.locals.size = c.maxLocals) {argsL rest : List Value} (hlen : ∀ sig, parseMethodDescriptor y.desc = some sig → argsL.length = sig.parameters.length)
    (hstack : g.stack = argsL.reverse ++ rest) (hW : 2 * g.monitorRoom + (rest.map fun v => v.category).sum ≤ W9) (hdg : decode c.code g.pc = .ok (.invokestatic index, 3))
    (hpre : ∀ vm₁, s.WarmedH vm₁ → Pre ⟨T.setVm vm₁, locs, cells, slots⟩ argsL.toArray) :
    ∃ (v : Option Value) (vm₁ : Vm) (B : Pt), s.WarmedH vm₁ ∧ Stand p l e R s m args below meth c B.U B.locs B.cells B.slots ∧ Post ⟨T.setVm vm₁, locs, cells, slots⟩ argsL.toArray v B ∧
      ∀ target, Steps p.tables e below (B.U.setTop { g with pc := g.pc + 3, stack := v.toList ++ rest }) target → Steps p.tables e below (T.setTop g) target := by
  obtain ⟨mk, methM, cM, hnamed, hmethM, -, -, -, -, -, -, hsigM⟩ := Cond.codeWith_spec hcode
  have hstatic : methM.isStatic = true := Cond.static_spec hnamed hmethM hstat
  obtain ⟨kP, hkP, -⟩ := className_of_methodNamed hnamed
  have hinitP : kP.init = .initialized := Cond.initialized_spec (findClass_of_methodNamed hnamed) hkP hinit
  obtain ⟨vm₁, X₁, hstep₁⟩ := X.invokestatic hexec hown hlink hnamed hmethM hstatic hkP hinitP hy (g := g) hg (argsL := argsL) (rest := rest) (hlen _ hsigM) hstack hdg
  obtain ⟨v, B, X', hpost, hsteps⟩ := hK m meth c ⟨T.setVm vm₁, locs, cells, slots⟩ { g with stack := rest } (.invokestatic index) mk argsL.toArray X₁ hg hsize hdg hW (X₁.named hnamed) (hpre vm₁ X₁.warmed)
  exact ⟨v, vm₁, B, X₁.warmed, X', hpost, fun target h => hstep₁ _ fun acts => by rw [doInvoke_state]; exact hsteps.trans h⟩
theorem vx_runSW {y : MethodName} {bytes cc : ByteArray} {maxL nL mc ms n index : Nat} {ret : Option FieldType} {hh : List (Nat × Nat × Nat × Nat)} {ws : List Cond} {rm : Room} {Pc : Array Value → State → Prop} {Qc : Array Value → State → Outcome → State → Prop} {free : Addr → Prop} {Ts : List Cond} {own : String} {As rest : List Value} {g : JFrame}
    (S : CallFix p m c cc nL s args Ts own) (hM : Met l y ws rm Pc Qc mc ms free) (cw : vx_CSW R s args own index y bytes maxL ret hh ws rm mc ms n) (hp : PreS s H Pc As)
    (hg : g.method = m) (hn : As.length = n) (hsize : g.locals.size = nL) (hstack : g.stack = As.reverse ++ rest) (hW : 2 * g.monitorRoom + (rest.map fun v => v.category).sum ≤ 8) (hdg : decode cc g.pc = .ok (.invokestatic index, 3)) (hf : cells + mc ≤ R.cells ∧ slots + ms ≤ R.slots) :
    va_Run p l e R s m args below meth c H locs cells slots mc ms g rest (Qc As.toArray) (free) := by
  obtain ⟨⟨hrc, hrs, hfr, hlo, hws, hcw⟩, hcode, hini, hy, hlen, hl, hstt⟩ := cw
  have hK : Back l R p e below s args y 3 8 (PreOf R mc ms Pc) (PostOf Qc mc ms free) := va_backW (hh := hh) (bytes := bytes) (maxL := maxL) (ret := ret) hM hp.1 hrc hrs hfr hlo hws hcw (fun a' U hW => word_at hW (Or.inl (by first | rfl | simp [Cond.onTables, Cond.keeps, Cond.steady])) hini)
  obtain ⟨hx, hb, hml, ho, -⟩ := S
  intro T hT X
  obtain ⟨v, vm₁, ⟨U', l2, c2, s2⟩, hW₁, X', ⟨g', mk, t, L, e1, e2, hq, h1, hL, h2, h3⟩, st⟩ := vx_callSW X hx (hh := hh) (bytes := bytes) (maxL := maxL) (ret := ret) ho hl hstt hini hcode hy hK hg (hsize.trans hml.symm) (argsL := As) (rest := rest) (fun sig h => hn.trans (hlen sig h)) hstack hW (by rw [hb]; exact hdg)
    (fun vm₁ hW₁ => ⟨hf.1, hf.2, hp.2 (T.setVm vm₁) hT hW₁⟩)
  dsimp only [Pt.U, Pt.locs, Pt.cells, Pt.slots] at X' e1 e2 h1 h2 h3 st
  subst h1; subst h2; subst h3
  exact ⟨v, (T.setVm vm₁).calling g' mk As.toArray, t, U', L, hT, X', hL, e1, e2, hq, st⟩
/-- not caught here, past rows that name other classes: it goes on to the caller -/
theorem vx_outP {p : Program} {l : Launch} {e : Env} {R : Room} {s : State} {m : MethodId} {args : Array Value} {below : List Frame} {meth : Method} {c : Code} {H : Heap} {locs : List Loc} {cells slots : Nat} {free : Addr → Prop} {ls : Array Slot} {rest : List Value} {Qc : Array Value → State → Outcome → State → Prop} {XC : String → State → State → Prop}
    {pc : Nat} {own E : String} {ce : Cell} {q : Addr} {mc ms : Nat} (hown : s.vm.findClass own = some m.cls) (hlocks : meth.locks = false)
    (hpass : ∀ z ∈ c.exceptionTable.toList, covers z pc = false ∨ (z.catchType ≠ 0 ∧ ∃ nm : String, (Cond.classLink own z.catchType nm).before args s = true ∧ va_Nc E nm s)) (hcell : H[q]? = some ce) (hv : ce.vm = .none) (hcl : s.vm.findClass E = some ce.cls)
    (hx : ∀ t : State, t.heap = H → s.vm.Alike t.vm → XC E s t) (hf : ∀ z ∈ locs, free z.base) (hc : cells ≤ mc) (hs : slots ≤ ms) :
    vx_W p l e R s m args below meth c H locs cells slots (vx_MQ below Qc XC args s mc ms free) (F0 m pc ls rest) q := by
  intro T hT X
  have hpl : e.platform.magicAccessors = ({} : Platform).magicAccessors := by rw [X.admits.platform]
  obtain ⟨vm', hW', X', st⟩ := X.outThrough hlocks q (g := F0 m pc ls rest) rfl rfl rfl (cell := ce) (by rw [hT]; exact hcell) (by rw [hv]; rfl)
    (by obtain ⟨k9, h9, -⟩ := Vm.findClass_spec hcl; exact ⟨k9, h9⟩) (fun z hz => by
      rcases hpass z hz with h | ⟨hz0, nm, hl1, hn1⟩
      · exact Or.inl h
      · obtain ⟨c6, hc6, hcl6⟩ := Cond.classLink_spec hown hl1 e.platform hpl
        obtain ⟨a8, b8, h1, h2, h3⟩ := hn1
        cases Option.some.inj (h1.symm.trans hcl)
        cases Option.some.inj (h2.symm.trans hc6)
        exact Or.inr ⟨hz0, _, hcl6, h3⟩)
  obtain ⟨g₀, hfr⟩ := X'.frames_eq
  have hcell9 : ((T.setVm vm').setFrames (.throwing q :: below)).heap[q]? = some ce := by
    show T.heap[q]? = some ce
    rw [hT]; exact hcell
  have hend : Ended ((T.setVm vm').setFrames (.throwing q :: below)) below (.threw q) := State.frames_setFrames _ (State.cur_lt_of_frames hfr)
  refine ⟨(T.setVm vm').setFrames (.throwing q :: below), ?_, .threw q, X'.here.running, hend, Or.inr ⟨q, rfl, E, ce, locs, hx _ hT (X'.ends _).1.alike, hcell9, hv, hcl, (X'.ends _).1, (X'.ends _).2.mono hc hs, hf⟩⟩
  rw [X.pushThrowing_eq]
  exact st
/-- a thing of a world lies in the heap -/
theorem vx_lt {D : va_G} {cl : List vw_C} {ws : va_W} {H1 : Heap} (h : va_P D cl ws H1) {k : Nat} {q : Nat × va_E} (hk : ws[k]? = some q) : q.1 < H1.size := (h k q hk).lt
end VXS
/-! ===== END ===== -/
/-! ===== BEGIN methods with a table of their own: called by a name, returning or throwing ===== -/
section VXH
/-! vx_backW, vx_callVX, vx_callSX, vx_callVW, vx_runVW, vx_runVX, vx_runSX, vx_ofWH follow the same proofs as their sisters above (Free/Laws.lean, Shelf42/LK1.lean); vx_outP calls Shelf42/NT130.lean (outThrough). -/
section
variable {l : Launch} {R : Room} {p : Program} {e : Env} {below : List Frame} {s : State} {sargs : Array Value} {y : MethodName} {len W9 : Nat}
theorem vx_backW {ws : List Cond} {rm : Room} {Pc : Array Value → State → Prop} {Qc : Array Value → State → Outcome → State → Prop} {XC : String → State → State → Prop} {mc ms : Nat} {free : Addr → Prop} {bytes : ByteArray} {maxL : Nat} {ret : Option FieldType} {hh : List (Nat × Nat × Nat × Nat)}
    (hM : vx_Met l y ws rm Pc Qc XC mc ms free) (hblind : FrameBlind Pc) (hrc : rm.cells = mc) (hrs : rm.slots = ms)
    (hframes : rm.frames + 1 ≤ R.frames) (hlocals : W9 + (maxL + 11) + rm.locals ≤ R.locals)
    (hws : ∀ w ∈ ws, ∀ a' U, s.WarmedH U.vm → w.before a' U = true) (hcode : Cond.codeWith y bytes maxL ret hh ∈ ws) (hinit : ∀ a' U, s.WarmedH U.vm → (Cond.initialized y.cls).before a' U = true) :
    vx_Back l R p e below s sargs y len W9 (PreOf R mc ms Pc) (PostOf Qc mc ms free) (vx_Post XC mc ms free) := by
  intro m meth c A g ig mk a X hg hsize hdg hW hn hp
  have h1 : (headSpec ws rm).pre.before a A.U = true := atoms_intro fun w hw => hws w hw _ _ X.warmed
  have h2 : (Cond.codeWith y bytes maxL ret hh).before a A.U = true := hws _ hcode _ _ X.warmed
  have h3 : (Cond.initialized y.cls).before a A.U = true := hinit _ _ X.warmed
  have h4 : A.cells + (headSpec ws rm).room.cells ≤ R.cells := by rw [show (headSpec ws rm).room.cells = mc from hrc]; exact hp.1
  have h5 : A.slots + (headSpec ws rm).room.slots ≤ R.slots := by rw [show (headSpec ws rm).room.slots = ms from hrs]; exact hp.2.1
  have hPc : Pc a (A.U.calling g mk a) := hblind _ _ _ _ hp.2.2
  obtain ⟨U, Ls, c0, s0⟩ := A
  dsimp only [Pt.U, Pt.locs, Pt.cells, Pt.slots] at h1 h2 h3 h4 h5 X hn hPc ⊢
  obtain ⟨m9, methY, cY, hn9, hmY, hcY, -, hlY, -⟩ := Cond.codeWith_spec h2
  cases Option.some.inj (hn9.symm.trans hn)
  obtain ⟨kY, hkY, -⟩ := className_of_methodNamed hn
  have hinitY : kY.init = .initialized := Cond.initialized_spec (findClass_of_methodNamed hn) hkY h3
  have h : At U g.method c below := by rw [hg]; exact X.here
  have hlocals9 : W9 + (maxL + 11) + (headSpec ws rm).room.locals ≤ R.locals := hlocals
  have happ : (headSpec ws rm).appliesLoose y e.platform (U.calling g mk a) = true :=
    Spec.appliesLoose_calling (g := g) h hdg hn hkY hinitY
      (X.room_calling (g := g) (R' := (headSpec ws rm).room) hsize hmY hcY hframes (by rw [hlY]; omega) h4 h5) h1
  obtain ⟨mid, hmid⟩ := h.above
  have hfr : (U.setTop g).frames = (.java g :: mid) ++ below := by rw [State.frames_setTop' g h.top, hmid]; rfl
  obtain ⟨o, s₂, hsteps, -, hend, hq⟩ := Steps.callFree hM p X.admits X.cas X.clock (acts := []) hfr happ hPc trivial
  have hq' : vx_Q Qc XC mc ms free a (U.calling g mk a) o s₂ := hq
  rw [State.frames_setTop' g h.top] at hend
  obtain ⟨g₀, hg0⟩ := Option.isSome_iff_exists.mp h.top
  obtain ⟨r, hr⟩ := State.topJava?_eq_some.mp hg0
  have hr' : (({ U with heap := s₂.heap, slotsUsed := s₂.slotsUsed } : State).setVm s₂.vm).frames = .java g₀ :: r := hr
  rcases hq' with ⟨hqc, L, hfe, hL⟩ | ⟨q, rfl, E, ce, L, hx, hce, hcv, hcl, hW₂, hsm, hL⟩
  · obtain ⟨⟨v, rfl⟩, hW₂, e2, q2, q3, q4, q5, q6⟩ := id hfe
    have e3 : s₂ = ({ (U.calling g mk a).setFrames s₂.frames with heap := s₂.heap, slotsUsed := s₂.slotsUsed } : State).setVm s₂.vm := by
      have : s₂ = ({ s₂ with vm := (U.calling g mk a).vm } : State).setVm s₂.vm := rfl
      rw [e2] at this
      exact this
    obtain ⟨c₂, i₂, len₂, hc₂, hd₂, hf₂⟩ := hend
    have hW' : U.WarmedH s₂.vm := hW₂
    have hcc : c₂ = c := by
      have h1 : s₂.code? g.method = U.code? g.method := by
        rw [State.code?_eq, State.code?_eq, hW'.alike.method?]
      exact Option.some.inj (hc₂.symm.trans (h1.trans h.code))
    subst hcc
    have hlen : len₂ = len := by rw [hdg] at hd₂; cases hd₂; rfl
    subst hlen
    have hs₂ : s₂ = (({ U with heap := s₂.heap, slotsUsed := s₂.slotsUsed } : State).setVm s₂.vm).setTop { g with pc := g.pc + len₂, stack := v.toList ++ g.stack } := by
      refine e3.trans ?_
      rw [hf₂, State.calling_eq h.top, State.setFrames_setFrames, State.setTop_of_frames _ hr', hr]
      rfl
    have hsame : U.sameButNew ({ U with heap := s₂.heap, slotsUsed := s₂.slotsUsed } : State) L mc ms := by
      refine ⟨?_, q2, q3, q4, q5, q6⟩
      obtain ⟨t, ht, -⟩ := State.frames_cons hr
      show ({ U with heap := s₂.heap, slotsUsed := s₂.slotsUsed } : State) = { U.setFrames U.frames with heap := s₂.heap, slotsUsed := s₂.slotsUsed }
      rw [State.setFrames_self ht]
    subst hg
    refine Or.inl ⟨v, ⟨(({ U with heap := s₂.heap, slotsUsed := s₂.slotsUsed } : State).setVm s₂.vm), Ls ++ L, c0 + mc, s0 + ms⟩,
      ⟨X.admits, X.cas, X.clock, X.frames, X.room, X.hears, X.method, X.code, (X.here.setHeapUsed s₂.heap s₂.slotsUsed).setVm hW'.alike, X.tail, State.WarmedH.trans X.warmed hW', X.limits, X.bytes, X.same.trans (hsame.setVm s.vm)⟩,
      ⟨g, mk, s₂, L, rfl, rfl, hqc, rfl, hL, rfl, rfl⟩, ?_⟩
    show Steps p.tables e below _ ((({ U with heap := s₂.heap, slotsUsed := s₂.slotsUsed } : State).setVm s₂.vm).setTop { g with pc := g.pc + len₂, stack := v.toList ++ g.stack })
    rw [← hs₂]
    exact hsteps
  · obtain ⟨e2, q2, q3, q4, q5, q6⟩ := id hsm
    have e3 : s₂ = ({ (U.calling g mk a).setFrames s₂.frames with heap := s₂.heap, slotsUsed := s₂.slotsUsed } : State).setVm s₂.vm := by
      have : s₂ = ({ s₂ with vm := (U.calling g mk a).vm } : State).setVm s₂.vm := rfl
      rw [e2] at this
      exact this
    have hf₂ : s₂.frames = .throwing q :: .java g :: U.frames.tail := hend
    have hW' : U.WarmedH s₂.vm := hW₂
    have hs₂ : s₂ = ((({ U with heap := s₂.heap, slotsUsed := s₂.slotsUsed } : State).setVm s₂.vm).setTop g).pushFrame (.throwing q) := by
      refine e3.trans ?_
      rw [hf₂, State.calling_eq h.top, State.setFrames_setFrames, State.pushFrame, State.frames_setTop _ hr', State.setTop_of_frames _ hr', State.setFrames_setFrames, hr]
      rfl
    have hsame : U.sameButNew ({ U with heap := s₂.heap, slotsUsed := s₂.slotsUsed } : State) L mc ms := by
      refine ⟨?_, q2, q3, q4, q5, q6⟩
      obtain ⟨t, ht, -⟩ := State.frames_cons hr
      show ({ U with heap := s₂.heap, slotsUsed := s₂.slotsUsed } : State) = { U.setFrames U.frames with heap := s₂.heap, slotsUsed := s₂.slotsUsed }
      rw [State.setFrames_self ht]
    subst hg
    refine Or.inr ⟨q, ⟨(({ U with heap := s₂.heap, slotsUsed := s₂.slotsUsed } : State).setVm s₂.vm), Ls ++ L, c0 + mc, s0 + ms⟩,
      ⟨X.admits, X.cas, X.clock, X.frames, X.room, X.hears, X.method, X.code, (X.here.setHeapUsed s₂.heap s₂.slotsUsed).setVm hW'.alike, X.tail, State.WarmedH.trans X.warmed hW', X.limits, X.bytes, X.same.trans (hsame.setVm s.vm)⟩,
      ⟨g, mk, s₂, L, E, ce, rfl, rfl, hx, hce, hcv, hcl, rfl, hL, rfl, rfl⟩, ?_⟩
    show Steps p.tables e below _ (((({ U with heap := s₂.heap, slotsUsed := s₂.slotsUsed } : State).setVm s₂.vm).setTop g).pushFrame (.throwing q))
    rw [← hs₂]
    exact hsteps
end
variable {p : Program} {l : Launch} {e : Env} {R : Room} {s : State} {m : MethodId} {args : Array Value} {below : List Frame} {meth : Method} {c : Code} {T : State} {H : Heap} {locs : List Loc} {cells slots : Nat}
theorem vx_callVX (X : Stand p l e R s m args below meth c T locs cells slots) (hexec : p.tables.exec = Jvm.exec) {own C : String} {index : Nat} {y : MethodName} {bytes : ByteArray} {maxL : Nat} {ret : Option FieldType} {hh : List (Nat × Nat × Nat × Nat)}
    (hown : s.vm.findClass own = some m.cls) (hlink : (Cond.methodLink own index y).before args s = true) (hinst : (Cond.instanceMethod y).before args s = true) (hsel : (Cond.selects C y y).before args s = true)
    (hcode : (Cond.codeWith y bytes maxL ret hh).before args s = true) (hy : y.cls ≠ "java/lang/invoke/MethodHandle" ∧ y.cls ≠ "java/lang/invoke/VarHandle")
    {W9 : Nat} {Pre : Pt → Array Value → Prop} {Post : Pt → Array Value → Option Value → Pt → Prop} {PostX : Pt → Array Value → Addr → Pt → Prop} (hK : vx_Back l R p e below s args y 3 W9 Pre Post PostX)
    {b : Addr} {cellB : Cell} (hcell : T.heap[b]? = some cellB) (hobj : cellB.vm.isStatics = false) (hcls : s.vm.findClass C = some cellB.cls)
    {g : JFrame} (hg : g.method = m) (hsize : g.locals.size = c.maxLocals) {argsL rest : List Value} (hlen : ∀ sig, parseMethodDescriptor y.desc = some sig → argsL.length = sig.parameters.length)
    (hstack : g.stack = argsL.reverse ++ .ref b :: rest) (hW : 2 * g.monitorRoom + (rest.map fun v => v.category).sum ≤ W9) (hdg : decode c.code g.pc = .ok (.invokevirtual index, 3))
    (hpre : ∀ vm₁, s.WarmedH vm₁ → Pre ⟨T.setVm vm₁, locs, cells, slots⟩ (Value.ref b :: argsL).toArray) :
    (∃ (v : Option Value) (vm₁ : Vm) (B : Pt), s.WarmedH vm₁ ∧ Stand p l e R s m args below meth c B.U B.locs B.cells B.slots ∧ Post ⟨T.setVm vm₁, locs, cells, slots⟩ (Value.ref b :: argsL).toArray v B ∧
      ∀ target, Steps p.tables e below (B.U.setTop { g with pc := g.pc + 3, stack := v.toList ++ rest }) target → Steps p.tables e below (T.setTop g) target) ∨
    (∃ (q : Addr) (vm₁ : Vm) (B : Pt), s.WarmedH vm₁ ∧ Stand p l e R s m args below meth c B.U B.locs B.cells B.slots ∧ PostX ⟨T.setVm vm₁, locs, cells, slots⟩ (Value.ref b :: argsL).toArray q B ∧
      Steps p.tables e below (T.setTop g) ((B.U.setTop { g with stack := rest }).pushFrame (.throwing q))) := by
  obtain ⟨mk, methM, hnamed, hmethM, hstM, habM⟩ := Cond.instanceMethod_spec hinst
  obtain ⟨m8, methM', cM, hn8, hmethM', -, -, -, -, -, -, hsigM⟩ := Cond.codeWith_spec hcode
  cases Option.some.inj (hn8.symm.trans hnamed)
  cases hmethM.symm.trans hmethM'
  obtain ⟨c2, r2, m2, q1, q2, q3, q4, kP, hkP, hkPi⟩ := Cond.selects_spec hsel
  cases hcls.symm.trans q1
  cases (State.methodFound?_of_named hnamed hy).symm.trans q2
  cases hnamed.symm.trans q3
  have hselP : selectMethod e.platform s.vm cellB.cls mk = .method mk := by rw [Launch.admits_selectMethod X.admits]; exact q4
  obtain ⟨vm₁, X₁, hstep₁⟩ := X.invokevirtual hexec hown hlink hnamed hmethM hstM hkP hkPi hy (a := b) (cell := cellB) hcell
    (fun z h => by rw [h] at hobj; cases hobj) hselP hmethM habM hkP hkPi (g := g) hg (argsL := argsL) (rest := rest) (hlen _ hsigM) hstack hdg
  rcases hK m meth c ⟨T.setVm vm₁, locs, cells, slots⟩ { g with stack := rest } (.invokevirtual index) mk (Value.ref b :: argsL).toArray X₁ hg hsize hdg hW (X₁.named hnamed) (hpre vm₁ X₁.warmed) with ⟨v, B, X', hpost, hsteps⟩ | ⟨q, B, X', hpost, hsteps⟩
  · exact Or.inl ⟨v, vm₁, B, X₁.warmed, X', hpost, fun target h => hstep₁ _ fun acts => by rw [doInvoke_state]; exact hsteps.trans h⟩
  · exact Or.inr ⟨q, vm₁, B, X₁.warmed, X', hpost, hstep₁ _ fun acts => by rw [doInvoke_state]; exact hsteps⟩
theorem vx_callSX (X : Stand p l e R s m args below meth c T locs cells slots) (hexec : p.tables.exec = Jvm.exec) {own : String} {index : Nat} {y : MethodName} {bytes : ByteArray} {maxL : Nat} {ret : Option FieldType} {hh : List (Nat × Nat × Nat × Nat)}
    (hown : s.vm.findClass own = some m.cls) (hlink : (Cond.methodLink own index y).before args s = true) (hstat : (Cond.static y).before args s = true) (hinit : (Cond.initialized y.cls).before args s = true)
    (hcode : (Cond.codeWith y bytes maxL ret hh).before args s = true) (hy : y.cls ≠ "java/lang/invoke/MethodHandle" ∧ y.cls ≠ "java/lang/invoke/VarHandle")
    {W9 : Nat} {Pre : Pt → Array Value → Prop} {Post : Pt → Array Value → Option Value → Pt → Prop} {PostX : Pt → Array Value → Addr → Pt → Prop} (hK : vx_Back l R p e below s args y 3 W9 Pre Post PostX)
    {g : JFrame} (hg : g.method = m) (hsize : g.locals.size = c.maxLocals) {argsL rest : List Value} (hlen : ∀ sig, parseMethodDescriptor y.desc = some sig → argsL.length = sig.parameters.length)
    (hstack : g.stack = argsL.reverse ++ rest) (hW : 2 * g.monitorRoom + (rest.map fun v => v.category).sum ≤ W9) (hdg : decode c.code g.pc = .ok (.invokestatic index, 3))
    (hpre : ∀ vm₁, s.WarmedH vm₁ → Pre ⟨T.setVm vm₁, locs, cells, slots⟩ argsL.toArray) :
    (∃ (v : Option Value) (vm₁ : Vm) (B : Pt), s.WarmedH vm₁ ∧ Stand p l e R s m args below meth c B.U B.locs B.cells B.slots ∧ Post ⟨T.setVm vm₁, locs, cells, slots⟩ argsL.toArray v B ∧
      ∀ target, Steps p.tables e below (B.U.setTop { g with pc := g.pc + 3, stack := v.toList ++ rest }) target → Steps p.tables e below (T.setTop g) target) ∨
    (∃ (q : Addr) (vm₁ : Vm) (B : Pt), s.WarmedH vm₁ ∧ Stand p l e R s m args below meth c B.U B.locs B.cells B.slots ∧ PostX ⟨T.setVm vm₁, locs, cells, slots⟩ argsL.toArray q B ∧
      Steps p.tables e below (T.setTop g) ((B.U.setTop { g with stack := rest }).pushFrame (.throwing q))) := by
  obtain ⟨mk, methM, cM, hnamed, hmethM, -, -, -, -, -, -, hsigM⟩ := Cond.codeWith_spec hcode
  have hstatic : methM.isStatic = true := Cond.static_spec hnamed hmethM hstat
  obtain ⟨kP, hkP, -⟩ := className_of_methodNamed hnamed
  have hinitP : kP.init = .initialized := Cond.initialized_spec (findClass_of_methodNamed hnamed) hkP hinit
  obtain ⟨vm₁, X₁, hstep₁⟩ := X.invokestatic hexec hown hlink hnamed hmethM hstatic hkP hinitP hy (g := g) hg (argsL := argsL) (rest := rest) (hlen _ hsigM) hstack hdg
  rcases hK m meth c ⟨T.setVm vm₁, locs, cells, slots⟩ { g with stack := rest } (.invokestatic index) mk argsL.toArray X₁ hg hsize hdg hW (X₁.named hnamed) (hpre vm₁ X₁.warmed) with ⟨v, B, X', hpost, hsteps⟩ | ⟨q, B, X', hpost, hsteps⟩
  · exact Or.inl ⟨v, vm₁, B, X₁.warmed, X', hpost, fun target h => hstep₁ _ fun acts => by rw [doInvoke_state]; exact hsteps.trans h⟩
  · exact Or.inr ⟨q, vm₁, B, X₁.warmed, X', hpost, hstep₁ _ fun acts => by rw [doInvoke_state]; exact hsteps⟩
theorem vx_callVW (X : Stand p l e R s m args below meth c T locs cells slots) (hexec : p.tables.exec = Jvm.exec) {own C : String} {index : Nat} {y : MethodName} {bytes : ByteArray} {maxL : Nat} {ret : Option FieldType} {hh : List (Nat × Nat × Nat × Nat)}
    (hown : s.vm.findClass own = some m.cls) (hlink : (Cond.methodLink own index y).before args s = true) (hinst : (Cond.instanceMethod y).before args s = true) (hsel : (Cond.selects C y y).before args s = true)
    (hcode : (Cond.codeWith y bytes maxL ret hh).before args s = true) (hy : y.cls ≠ "java/lang/invoke/MethodHandle" ∧ y.cls ≠ "java/lang/invoke/VarHandle")
    {W9 : Nat} {Pre : Pt → Array Value → Prop} {Post : Pt → Array Value → Option Value → Pt → Prop} (hK : Back l R p e below s args y 3 W9 Pre Post)
    {b : Addr} {cellB : Cell} (hcell : T.heap[b]? = some cellB) (hobj : cellB.vm.isStatics = false) (hcls : s.vm.findClass C = some cellB.cls)
    {g : JFrame} (hg : g.method = m) (hsize : g.locals.size = c.maxLocals) {argsL rest : List Value} (hlen : ∀ sig, parseMethodDescriptor y.desc = some sig → argsL.length = sig.parameters.length)
    (hstack : g.stack = argsL.reverse ++ .ref b :: rest) (hW : 2 * g.monitorRoom + (rest.map fun v => v.category).sum ≤ W9) (hdg : decode c.code g.pc = .ok (.invokevirtual index, 3))
    (hpre : ∀ vm₁, s.WarmedH vm₁ → Pre ⟨T.setVm vm₁, locs, cells, slots⟩ (Value.ref b :: argsL).toArray) :
    ∃ (v : Option Value) (vm₁ : Vm) (B : Pt), s.WarmedH vm₁ ∧ Stand p l e R s m args below meth c B.U B.locs B.cells B.slots ∧ Post ⟨T.setVm vm₁, locs, cells, slots⟩ (Value.ref b :: argsL).toArray v B ∧
      ∀ target, Steps p.tables e below (B.U.setTop { g with pc := g.pc + 3, stack := v.toList ++ rest }) target → Steps p.tables e below (T.setTop g) target := by
  obtain ⟨mk, methM, hnamed, hmethM, hstM, habM⟩ := Cond.instanceMethod_spec hinst
  obtain ⟨m8, methM', cM, hn8, hmethM', -, -, -, -, -, -, hsigM⟩ := Cond.codeWith_spec hcode
  cases Option.some.inj (hn8.symm.trans hnamed)
  cases hmethM.symm.trans hmethM'
  obtain ⟨c2, r2, m2, q1, q2, q3, q4, kP, hkP, hkPi⟩ := Cond.selects_spec hsel
  cases hcls.symm.trans q1
  cases (State.methodFound?_of_named hnamed hy).symm.trans q2
  cases hnamed.symm.trans q3
  have hselP : selectMethod e.platform s.vm cellB.cls mk = .method mk := by rw [Launch.admits_selectMethod X.admits]; exact q4
  obtain ⟨vm₁, X₁, hstep₁⟩ := X.invokevirtual hexec hown hlink hnamed hmethM hstM hkP hkPi hy (a := b) (cell := cellB) hcell
    (fun z h => by rw [h] at hobj; cases hobj) hselP hmethM habM hkP hkPi (g := g) hg (argsL := argsL) (rest := rest) (hlen _ hsigM) hstack hdg
  obtain ⟨v, B, X', hpost, hsteps⟩ := hK m meth c ⟨T.setVm vm₁, locs, cells, slots⟩ { g with stack := rest } (.invokevirtual index) mk (Value.ref b :: argsL).toArray X₁ hg hsize hdg hW (X₁.named hnamed) (hpre vm₁ X₁.warmed)
  exact ⟨v, vm₁, B, X₁.warmed, X', hpost, fun target h => hstep₁ _ fun acts => by rw [doInvoke_state]; exact hsteps.trans h⟩
abbrev vx_CVW (R : Room) (s : State) (args : Array Value) (own C : String) (index : Nat) (y : MethodName) (bytes : ByteArray) (maxL : Nat) (ret : Option FieldType) (hh : List (Nat × Nat × Nat × Nat)) (ws : List Cond) (rm : Room) (mc ms n : Nat) : Prop :=
  (rm.cells = mc ∧ rm.slots = ms ∧ rm.frames + 1 ≤ R.frames ∧ 8 + (maxL + 11) + rm.locals ≤ R.locals ∧ (∀ w ∈ ws, ∀ (a' : Array Value) (U : State), s.WarmedH U.vm → w.before a' U = true) ∧ Cond.codeWith y bytes maxL ret hh ∈ ws) ∧
  (Cond.codeWith y bytes maxL ret hh).before args s = true ∧ (Cond.initialized y.cls).before args s = true ∧ (y.cls ≠ "java/lang/invoke/MethodHandle" ∧ y.cls ≠ "java/lang/invoke/VarHandle") ∧
  (∀ sig, parseMethodDescriptor y.desc = some sig → n = sig.parameters.length) ∧ (Cond.methodLink own index y).before args s = true ∧ (Cond.instanceMethod y).before args s = true ∧ (Cond.selects C y y).before args s = true
theorem vx_cwVW {own C : String} {index maxL mc ms : Nat} {y : MethodName} {bytes : ByteArray} {ret : Option FieldType} {hh : List (Nat × Nat × Nat × Nat)} {Ts ws ws' : List Cond} {rm : Room} (n : Nat) (ht : ∀ w ∈ Ts, w.before args s = true) (hT : GoodIn Ts (wsV own index C y ws)) (hw : ws = Cond.codeWith y bytes maxL ret hh :: ws') (hrc : rm.cells = mc) (hrs : rm.slots = ms)
    (hd : y.cls = C ∧ y.cls ≠ "java/lang/invoke/MethodHandle" ∧ y.cls ≠ "java/lang/invoke/VarHandle" ∧ (parseMethodDescriptor y.desc).map (fun d => d.parameters.length) = some n) (hR : rm.frames + 1 ≤ R.frames ∧ 8 + (maxL + 11) + rm.locals ≤ R.locals) :
    vx_CVW R s args own C index y bytes maxL ret hh ws rm mc ms n := by
  obtain ⟨hC, hd⟩ := hd
  subst hC
  have ok : ∀ w ∈ wsV own index y.cls y ws, w.before args s = true := fun w h => ht w (hT w h).1
  have hG : GoodIn Ts ws := fun w h => hT w (by unfold wsV; exact List.mem_append_right _ h)
  have hc : Cond.codeWith y bytes maxL ret hh ∈ ws := by rw [hw]; exact List.mem_cons_self
  refine ⟨⟨hrc, hrs, hR.1, hR.2, pay_in ht hG, hc⟩, ht _ (hG _ hc).1, ok _ (by simp [wsV]), ⟨hd.1, hd.2.1⟩, fun sig h => ?_, ok _ (by simp [wsV]), ok _ (by simp [wsV]), ok _ (by simp [wsV])⟩
  have h2 := hd.2.2
  rw [h] at h2
  exact (Option.some.inj h2).symm
theorem vx_runVW {y : MethodName} {bytes cc : ByteArray} {maxL nL mc ms n index : Nat} {ret : Option FieldType} {hh : List (Nat × Nat × Nat × Nat)} {ws : List Cond} {rm : Room} {Pc : Array Value → State → Prop} {Qc : Array Value → State → Outcome → State → Prop} {free : Addr → Prop} {Ts : List Cond} {own C : String} {b : Addr} {As rest : List Value} {g : JFrame}
    (S : CallFix p m c cc nL s args Ts own) (hM : Met l y ws rm Pc Qc mc ms free) (cw : vx_CVW R s args own C index y bytes maxL ret hh ws rm mc ms n) (hp : PreV s H C b Pc As)
    (hg : g.method = m) (hn : As.length = n) (hsize : g.locals.size = nL) (hstack : g.stack = As.reverse ++ .ref b :: rest) (hW : 2 * g.monitorRoom + (rest.map fun v => v.category).sum ≤ 8) (hdg : decode cc g.pc = .ok (.invokevirtual index, 3)) (hf : cells + mc ≤ R.cells ∧ slots + ms ≤ R.slots) :
    va_Run p l e R s m args below meth c H locs cells slots mc ms g rest (Qc (Value.ref b :: As).toArray) free := by
  obtain ⟨⟨hrc, hrs, hfr, hlo, hws, hcw⟩, hcode, hini, hy, hlen, hl, hin, hse⟩ := cw
  have hK : Back l R p e below s args y 3 8 (PreOf R mc ms Pc) (PostOf Qc mc ms free) := va_backW (hh := hh) (bytes := bytes) (maxL := maxL) (ret := ret) hM hp.1 hrc hrs hfr hlo hws hcw (fun a' U hW => word_at hW (Or.inl (by first | rfl | simp [Cond.onTables, Cond.keeps, Cond.steady])) hini)
  obtain ⟨hx, hb, hml, ho, -⟩ := S
  obtain ⟨-, ⟨cellB, hcB, hoB, hclB⟩, hPc⟩ := hp
  intro T hT X
  obtain ⟨v, vm₁, ⟨U', l2, c2, s2⟩, hW₁, X', ⟨g', mk, t, L, e1, e2, hq, h1, hL, h2, h3⟩, st⟩ := vx_callVW X hx (C := C) (hh := hh) (bytes := bytes) (maxL := maxL) (ret := ret) ho hl hin hse hcode hy hK (by rw [hT]; exact hcB) hoB hclB hg (hsize.trans hml.symm) (argsL := As) (rest := rest) (fun sig h => hn.trans (hlen sig h)) hstack hW (by rw [hb]; exact hdg)
    (fun vm₁ hW₁ => ⟨hf.1, hf.2, hPc (T.setVm vm₁) hT hW₁⟩)
  dsimp only [Pt.U, Pt.locs, Pt.cells, Pt.slots] at X' e1 e2 h1 h2 h3 st
  subst h1; subst h2; subst h3
  exact ⟨v, (T.setVm vm₁).calling g' mk (Value.ref b :: As).toArray, t, U', L, hT, X', hL, e1, e2, hq, st⟩
section
variable {y : MethodName} {bytes cc : ByteArray} {maxL nL mc ms n index : Nat} {ret : Option FieldType} {ws : List Cond} {rm : Room} {Pc : Array Value → State → Prop} {Qc : Array Value → State → Outcome → State → Prop} {XC : String → State → State → Prop} {free : Addr → Prop} {Ts : List Cond} {own C : String} {b : Addr} {As rest : List Value} {g : JFrame}
theorem vx_runVX {hh : List (Nat × Nat × Nat × Nat)} (S : CallFix p m c cc nL s args Ts own) (hM : vx_Met l y ws rm Pc Qc XC mc ms free) (cw : vx_CVW R s args own C index y bytes maxL ret hh ws rm mc ms n) (hp : PreV s H C b Pc As)
    (hg : g.method = m) (hn : As.length = n) (hsize : g.locals.size = nL) (hstack : g.stack = As.reverse ++ .ref b :: rest) (hW : 2 * g.monitorRoom + (rest.map fun v => v.category).sum ≤ 8) (hdg : decode cc g.pc = .ok (.invokevirtual index, 3)) (hf : cells + mc ≤ R.cells ∧ slots + ms ≤ R.slots) :
    vx_Run p l e R s m args below meth c H locs cells slots mc ms g rest (Qc (Value.ref b :: As).toArray) XC free := by
  obtain ⟨⟨hrc, hrs, hfr, hlo, hws, hcw⟩, hcode, hini, hy, hlen, hl, hin, hse⟩ := cw
  have hK : vx_Back l R p e below s args y 3 8 (PreOf R mc ms Pc) (PostOf Qc mc ms free) (vx_Post XC mc ms free) := vx_backW (hh := hh) (bytes := bytes) (maxL := maxL) (ret := ret) hM hp.1 hrc hrs hfr hlo hws hcw (fun a' U hW => word_at hW (Or.inl (by first | rfl | simp [Cond.onTables, Cond.keeps, Cond.steady])) hini)
  obtain ⟨hx, hb, hml, ho, -⟩ := S
  obtain ⟨-, ⟨cellB, hcB, hoB, hclB⟩, hPc⟩ := hp
  intro T hT X
  rcases vx_callVX X hx (C := C) (hh := hh) (bytes := bytes) (maxL := maxL) (ret := ret) ho hl hin hse hcode hy hK (by rw [hT]; exact hcB) hoB hclB hg (hsize.trans hml.symm) (argsL := As) (rest := rest) (fun sig h => hn.trans (hlen sig h)) hstack hW (by rw [hb]; exact hdg)
    (fun vm₁ hW₁ => ⟨hf.1, hf.2, hPc (T.setVm vm₁) hT hW₁⟩) with ⟨v, vm₁, ⟨U', l2, c2, s2⟩, hW₁, X', ⟨g', mk, t, L, e1, e2, hq, h1, hL, h2, h3⟩, st⟩ | ⟨q, vm₁, ⟨U', l2, c2, s2⟩, hW₁, X', ⟨g', mk, t, L, E, ce, e1, e2, hq, hce, hcv, hcl, h1, hL, h2, h3⟩, st⟩
  · dsimp only [Pt.U, Pt.locs, Pt.cells, Pt.slots] at X' e1 e2 h1 h2 h3 st
    subst h1; subst h2; subst h3
    exact Or.inl ⟨v, (T.setVm vm₁).calling g' mk (Value.ref b :: As).toArray, t, U', L, hT, X', hL, e1, e2, hq, st⟩
  · dsimp only [Pt.U, Pt.locs, Pt.cells, Pt.slots] at X' e1 e2 h1 h2 h3 st hcl
    subst h1; subst h2; subst h3
    exact Or.inr ⟨q, (T.setVm vm₁).calling g' mk (Value.ref b :: As).toArray, t, U', L, E, ce, hT, X', hL, e1, e2, hq, hce, hcv, vx_cls hW₁ hcl, st⟩
theorem vx_runSX {hh : List (Nat × Nat × Nat × Nat)} (S : CallFix p m c cc nL s args Ts own) (hM : vx_Met l y ws rm Pc Qc XC mc ms free) (cw : vx_CSW R s args own index y bytes maxL ret hh ws rm mc ms n) (hp : PreS s H Pc As)
    (hg : g.method = m) (hn : As.length = n) (hsize : g.locals.size = nL) (hstack : g.stack = As.reverse ++ rest) (hW : 2 * g.monitorRoom + (rest.map fun v => v.category).sum ≤ 8) (hdg : decode cc g.pc = .ok (.invokestatic index, 3)) (hf : cells + mc ≤ R.cells ∧ slots + ms ≤ R.slots) :
    vx_Run p l e R s m args below meth c H locs cells slots mc ms g rest (Qc As.toArray) XC free := by
  obtain ⟨⟨hrc, hrs, hfr, hlo, hws, hcw⟩, hcode, hini, hy, hlen, hl, hstt⟩ := cw
  have hK : vx_Back l R p e below s args y 3 8 (PreOf R mc ms Pc) (PostOf Qc mc ms free) (vx_Post XC mc ms free) := vx_backW (hh := hh) (bytes := bytes) (maxL := maxL) (ret := ret) hM hp.1 hrc hrs hfr hlo hws hcw (fun a' U hW => word_at hW (Or.inl (by first | rfl | simp [Cond.onTables, Cond.keeps, Cond.steady])) hini)
  obtain ⟨hx, hb, hml, ho, -⟩ := S
  intro T hT X
  rcases vx_callSX X hx (hh := hh) (bytes := bytes) (maxL := maxL) (ret := ret) ho hl hstt hini hcode hy hK hg (hsize.trans hml.symm) (argsL := As) (rest := rest) (fun sig h => hn.trans (hlen sig h)) hstack hW (by rw [hb]; exact hdg)
    (fun vm₁ hW₁ => ⟨hf.1, hf.2, hp.2 (T.setVm vm₁) hT hW₁⟩) with ⟨v, vm₁, ⟨U', l2, c2, s2⟩, hW₁, X', ⟨g', mk, t, L, e1, e2, hq, h1, hL, h2, h3⟩, st⟩ | ⟨q, vm₁, ⟨U', l2, c2, s2⟩, hW₁, X', ⟨g', mk, t, L, E, ce, e1, e2, hq, hce, hcv, hcl, h1, hL, h2, h3⟩, st⟩
  · dsimp only [Pt.U, Pt.locs, Pt.cells, Pt.slots] at X' e1 e2 h1 h2 h3 st
    subst h1; subst h2; subst h3
    exact Or.inl ⟨v, (T.setVm vm₁).calling g' mk As.toArray, t, U', L, hT, X', hL, e1, e2, hq, st⟩
  · dsimp only [Pt.U, Pt.locs, Pt.cells, Pt.slots] at X' e1 e2 h1 h2 h3 st hcl
    subst h1; subst h2; subst h3
    exact Or.inr ⟨q, (T.setVm vm₁).calling g' mk As.toArray, t, U', L, E, ce, hT, X', hL, e1, e2, hq, hce, hcv, vx_cls hW₁ hcl, st⟩
end
end VXH
theorem vx_ofWH {l : Launch} {y : MethodName} {ws ws' : List Cond} {rm : Room} {Pc : Array Value → State → Prop} {Qc : Array Value → State → Outcome → State → Prop} {XC : String → State → State → Prop} {mc ms : Nat} {free : Addr → Prop} {cc : ByteArray} {maxL : Nat} {ret : Option FieldType} {hh : List (Nat × Nat × Nat × Nat)}
    (hy : plainName y.cls = true) (hw : ws = Cond.codeWith y cc maxL ret hh :: ws')
    (body : ∀ p e s m args below meth c s₁, BodyLoose p l y (headSpec ws rm) cc maxL ret e s m args below meth c s₁ → c.maxLocals = maxL → Pc args s →
      W p l e (headSpec ws rm).room s m args below meth c s.heap [] 0 0 (vx_MQ below Qc XC args s mc ms free) (entryFrame m args maxL)) : vx_Met l y ws rm Pc Qc XC mc ms free := by
  refine MetFree.of_bodyS (code := cc) (maxLocals := maxL) (ret := ret) hy ?_ ?_
  · intro args s m h hn
    obtain ⟨m9, meth, c, hn9, h1, h2, h3, h4, -, h5, h6, -⟩ := Cond.codeWith_spec (atoms_spec (ws := ws) h _ (by rw [hw]; exact List.mem_cons_self))
    cases hn.symm.trans hn9
    exact ⟨meth, c, h1, h2, h3, h4, h5, h6⟩
  · intro p e s m args below meth c s₁ B hml hP _
    have hh0 : s₁.heap = s.heap := by rw [B.state]; rfl
    obtain ⟨t, a1, o, b1, b2, b3⟩ := body p e s m args below meth c s₁ B hml hP s₁ hh0 (Stand.of_body B)
    exact ⟨t, o, a1, b1, b2, b3⟩
/-! ===== END ===== -/
end
section
/-! ===== BEGIN printed: names, fields, word lists, decode rows ===== -/
def RX0 : String := "BitMixer$ByteRow"
def TX0 : u_T := fun k => match k with
  | 0 => ("BitMixer$ByteRow", "bytes", "[I", true)
  | _ => ("BitMixer$ByteRow", "count", "I", false)
def tyX0 : Nat → FieldType := fun k => match k with
  | 0 => .array .int
  | _ => .int
abbrev wsX00 : List Cond := u_ws RX0 TX0 2
theorem nmX0 : ∀ a, a < 2 → ∀ b, b < 2 → a ≠ b → (TX0 a).2.1 ≠ (TX0 b).2.1 := by decide +kernel
theorem tyX0_ok : ∀ k, k < 2 → parseFieldDescriptor (TX0 k).2.2.1 = some (tyX0 k) := by decide +kernel
abbrev cX0_init : ByteArray := prog_2_method_1_code
def yX0_init : MethodName := ⟨RX0, "<init>", "(I)V"⟩
abbrev cX0_has : ByteArray := prog_2_method_2_code
def yX0_has : MethodName := ⟨RX0, "has", "(I)Z"⟩
abbrev cX0_at : ByteArray := prog_2_method_3_code
def yX0_at : MethodName := ⟨RX0, "at", "(I)I"⟩
abbrev cX0_put : ByteArray := prog_2_method_4_code
def yX0_put : MethodName := ⟨RX0, "put", "(II)V"⟩
abbrev cX0_append : ByteArray := prog_2_method_5_code
def yX0_append : MethodName := ⟨RX0, "append", "(I)V"⟩
abbrev cX0_clear : ByteArray := prog_2_method_6_code
def yX0_clear : MethodName := ⟨RX0, "clear", "()V"⟩
def RX1 : String := "BitMixer$Interval"
def TX1 : u_T := fun k => match k with
  | 0 => ("BitMixer$Interval", "low", "J", false)
  | 1 => ("BitMixer$Interval", "high", "J", false)
  | 2 => ("BitMixer$Interval", "x", "J", false)
  | _ => ("BitMixer$Interval", "next", "I", false)
def tyX1 : Nat → FieldType := fun k => match k with
  | 0 => .long
  | 1 => .long
  | 2 => .long
  | _ => .int
abbrev wsX10 : List Cond := u_ws RX1 TX1 4
theorem nmX1 : ∀ a, a < 4 → ∀ b, b < 4 → a ≠ b → (TX1 a).2.1 ≠ (TX1 b).2.1 := by decide +kernel
theorem tyX1_ok : ∀ k, k < 4 → parseFieldDescriptor (TX1 k).2.2.1 = some (tyX1 k) := by decide +kernel
abbrev cX1_init : ByteArray := prog_3_method_1_code
def yX1_init : MethodName := ⟨RX1, "<init>", "()V"⟩
abbrev cX1_open : ByteArray := prog_3_method_2_code
def yX1_open : MethodName := ⟨RX1, "open", "()V"⟩
abbrev cX1_load : ByteArray := prog_3_method_3_code
def yX1_load : MethodName := ⟨RX1, "load", "(LBitMixer$ByteRow;)V"⟩
abbrev cX1_pull : ByteArray := prog_3_method_4_code
def yX1_pull : MethodName := ⟨RX1, "pull", "(LBitMixer$ByteRow;)V"⟩
abbrev cX1_middle : ByteArray := prog_3_method_5_code
def yX1_middle : MethodName := ⟨RX1, "middle", "(I)J"⟩
abbrev cX1_narrow : ByteArray := prog_3_method_6_code
def yX1_narrow : MethodName := ⟨RX1, "narrow", "(ZJ)V"⟩
abbrev cX1_isSettled : ByteArray := prog_3_method_7_code
def yX1_isSettled : MethodName := ⟨RX1, "isSettled", "()Z"⟩
abbrev cX1_shift : ByteArray := prog_3_method_8_code
def yX1_shift : MethodName := ⟨RX1, "shift", "()I"⟩
abbrev cX1_topByte : ByteArray := prog_3_method_9_code
def yX1_topByte : MethodName := ⟨RX1, "topByte", "(J)I"⟩
def RX2 : String := "BitMixer$Model"
def TX2 : u_T := fun k => match k with
  | 0 => ("BitMixer$Model", "order", "I", false)
  | 1 => ("BitMixer$Model", "rate", "I", false)
  | 2 => ("BitMixer$Model", "t", "I", false)
  | 3 => ("BitMixer$Model", "counters", "[I", true)
  | 4 => ("BitMixer$Model", "seen", "[J", true)
  | 5 => ("BitMixer$Model", "weights", "[I", true)
  | 6 => ("BitMixer$Model", "collisionTotal", "I", false)
  | 7 => ("BitMixer$Model", "context", "I", false)
  | 8 => ("BitMixer$Model", "sight", "J", false)
  | _ => ("BitMixer$Model", "place", "I", false)
def tyX2 : Nat → FieldType := fun k => match k with
  | 0 => .int
  | 1 => .int
  | 2 => .int
  | 3 => .array .int
  | 4 => .array .long
  | 5 => .array .int
  | 6 => .int
  | 7 => .int
  | 8 => .long
  | _ => .int
abbrev wsX20 : List Cond := u_ws RX2 TX2 10
theorem nmX2 : ∀ a, a < 10 → ∀ b, b < 10 → a ≠ b → (TX2 a).2.1 ≠ (TX2 b).2.1 := by decide +kernel
theorem tyX2_ok : ∀ k, k < 10 → parseFieldDescriptor (TX2 k).2.2.1 = some (tyX2 k) := by decide +kernel
abbrev cX2_init : ByteArray := prog_4_method_1_code
def yX2_init : MethodName := ⟨RX2, "<init>", "()V"⟩
abbrev cX2_shape : ByteArray := prog_4_method_2_code
def yX2_shape : MethodName := ⟨RX2, "shape", "(III)V"⟩
abbrev cX2_tableSize : ByteArray := prog_4_method_3_code
def yX2_tableSize : MethodName := ⟨RX2, "tableSize", "()I"⟩
abbrev cX2_forget : ByteArray := prog_4_method_4_code
def yX2_forget : MethodName := ⟨RX2, "forget", "()V"⟩
abbrev cX2_readContext : ByteArray := prog_4_method_5_code
def yX2_readContext : MethodName := ⟨RX2, "readContext", "([I)V"⟩
abbrev cX2_aim : ByteArray := prog_4_method_6_code
def yX2_aim : MethodName := ⟨RX2, "aim", "(I)V"⟩
abbrev cX2_guess : ByteArray := prog_4_method_7_code
def yX2_guess : MethodName := ⟨RX2, "guess", "()I"⟩
abbrev cX2_adjustWeight : ByteArray := prog_4_method_8_code
def yX2_adjustWeight : MethodName := ⟨RX2, "adjustWeight", "(IZI)V"⟩
abbrev cX2_adjustCounter : ByteArray := prog_4_method_9_code
def yX2_adjustCounter : MethodName := ⟨RX2, "adjustCounter", "(Z)V"⟩
def RX3 : String := "BitMixer$Predictor"
def TX3 : u_T := fun k => match k with
  | 0 => ("BitMixer$Predictor", "models", "[LBitMixer$Model;", true)
  | 1 => ("BitMixer$Predictor", "modelTotal", "I", false)
  | 2 => ("BitMixer$Predictor", "latest", "[I", true)
  | 3 => ("BitMixer$Predictor", "treeNode", "I", false)
  | 4 => ("BitMixer$Predictor", "phase", "I", false)
  | 5 => ("BitMixer$Predictor", "bitTotal", "I", false)
  | _ => ("BitMixer$Predictor", "errorSum", "J", false)
def tyX3 : Nat → FieldType := fun k => match k with
  | 0 => .array (.object "BitMixer$Model")
  | 1 => .int
  | 2 => .array .int
  | 3 => .int
  | 4 => .int
  | 5 => .int
  | _ => .long
abbrev wsX30 : List Cond := u_ws RX3 TX3 7
theorem nmX3 : ∀ a, a < 7 → ∀ b, b < 7 → a ≠ b → (TX3 a).2.1 ≠ (TX3 b).2.1 := by decide +kernel
theorem tyX3_ok : ∀ k, k < 7 → parseFieldDescriptor (TX3 k).2.2.1 = some (tyX3 k) := by decide +kernel
abbrev cX3_init : ByteArray := prog_5_method_1_code
def yX3_init : MethodName := ⟨RX3, "<init>", "()V"⟩
abbrev cX3_takeModel : ByteArray := prog_5_method_2_code
def yX3_takeModel : MethodName := ⟨RX3, "takeModel", "(III)V"⟩
abbrev cX3_dropModel : ByteArray := prog_5_method_3_code
def yX3_dropModel : MethodName := ⟨RX3, "dropModel", "()V"⟩
abbrev cX3_restart : ByteArray := prog_5_method_4_code
def yX3_restart : MethodName := ⟨RX3, "restart", "()V"⟩
abbrev cX3_readContexts : ByteArray := prog_5_method_5_code
def yX3_readContexts : MethodName := ⟨RX3, "readContexts", "()V"⟩
abbrev cX3_aimModels : ByteArray := prog_5_method_6_code
def yX3_aimModels : MethodName := ⟨RX3, "aimModels", "()V"⟩
abbrev cX3_mixture : ByteArray := prog_5_method_7_code
def yX3_mixture : MethodName := ⟨RX3, "mixture", "()I"⟩
abbrev cX3_learn : ByteArray := prog_5_method_8_code
def yX3_learn : MethodName := ⟨RX3, "learn", "(ZI)V"⟩
abbrev cX3_step : ByteArray := prog_5_method_9_code
def yX3_step : MethodName := ⟨RX3, "step", "(Z)V"⟩
abbrev cX3_heaviest : ByteArray := prog_5_method_10_code
def yX3_heaviest : MethodName := ⟨RX3, "heaviest", "()I"⟩
def RX4 : String := "BitMixer"
def TX4 : u_T := fun k => match k with
  | 0 => ("BitMixer", "text", "LBitMixer$ByteRow;", true)
  | 1 => ("BitMixer", "encoded", "LBitMixer$ByteRow;", true)
  | 2 => ("BitMixer", "decoded", "LBitMixer$ByteRow;", true)
  | 3 => ("BitMixer", "predictor", "LBitMixer$Predictor;", true)
  | _ => ("BitMixer", "interval", "LBitMixer$Interval;", true)
def tyX4 : Nat → FieldType := fun k => match k with
  | 0 => .object "BitMixer$ByteRow"
  | 1 => .object "BitMixer$ByteRow"
  | 2 => .object "BitMixer$ByteRow"
  | 3 => .object "BitMixer$Predictor"
  | _ => .object "BitMixer$Interval"
abbrev wsX40 : List Cond := u_ws RX4 TX4 5
theorem nmX4 : ∀ a, a < 5 → ∀ b, b < 5 → a ≠ b → (TX4 a).2.1 ≠ (TX4 b).2.1 := by decide +kernel
theorem tyX4_ok : ∀ k, k < 5 → parseFieldDescriptor (TX4 k).2.2.1 = some (tyX4 k) := by decide +kernel
abbrev cX4_init : ByteArray := prog_1_method_1_code
def yX4_init : MethodName := ⟨RX4, "<init>", "()V"⟩
abbrev cX4_addModel : ByteArray := prog_1_method_2_code
def yX4_addModel : MethodName := ⟨RX4, "addModel", "(III)I"⟩
abbrev cX4_removeModel : ByteArray := prog_1_method_3_code
def yX4_removeModel : MethodName := ⟨RX4, "removeModel", "()I"⟩
abbrev cX4_setRate : ByteArray := prog_1_method_4_code
def yX4_setRate : MethodName := ⟨RX4, "setRate", "(II)I"⟩
abbrev cX4_modelCount : ByteArray := prog_1_method_5_code
def yX4_modelCount : MethodName := ⟨RX4, "modelCount", "()I"⟩
abbrev cX4_feed : ByteArray := prog_1_method_6_code
def yX4_feed : MethodName := ⟨RX4, "feed", "(JI)I"⟩
abbrev cX4_fill : ByteArray := prog_1_method_7_code
def yX4_fill : MethodName := ⟨RX4, "fill", "(II)I"⟩
abbrev cX4_cut : ByteArray := prog_1_method_8_code
def yX4_cut : MethodName := ⟨RX4, "cut", "(I)I"⟩
abbrev cX4_size : ByteArray := prog_1_method_9_code
def yX4_size : MethodName := ⟨RX4, "size", "()I"⟩
abbrev cX4_byteAt : ByteArray := prog_1_method_10_code
def yX4_byteAt : MethodName := ⟨RX4, "byteAt", "(I)I"⟩
abbrev cX4_reset : ByteArray := prog_1_method_11_code
def yX4_reset : MethodName := ⟨RX4, "reset", "()I"⟩
abbrev cX4_observe : ByteArray := prog_1_method_12_code
def yX4_observe : MethodName := ⟨RX4, "observe", "(Z)I"⟩
abbrev cX4_mixed : ByteArray := prog_1_method_13_code
def yX4_mixed : MethodName := ⟨RX4, "mixed", "()I"⟩
abbrev cX4_prediction : ByteArray := prog_1_method_14_code
def yX4_prediction : MethodName := ⟨RX4, "prediction", "(I)I"⟩
abbrev cX4_index : ByteArray := prog_1_method_15_code
def yX4_index : MethodName := ⟨RX4, "index", "(I)I"⟩
abbrev cX4_counter : ByteArray := prog_1_method_16_code
def yX4_counter : MethodName := ⟨RX4, "counter", "(II)I"⟩
abbrev cX4_weight : ByteArray := prog_1_method_17_code
def yX4_weight : MethodName := ⟨RX4, "weight", "(II)I"⟩
abbrev cX4_leader : ByteArray := prog_1_method_18_code
def yX4_leader : MethodName := ⟨RX4, "leader", "()I"⟩
abbrev cX4_collisions : ByteArray := prog_1_method_19_code
def yX4_collisions : MethodName := ⟨RX4, "collisions", "(I)I"⟩
abbrev cX4_history : ByteArray := prog_1_method_20_code
def yX4_history : MethodName := ⟨RX4, "history", "(I)I"⟩
abbrev cX4_node : ByteArray := prog_1_method_21_code
def yX4_node : MethodName := ⟨RX4, "node", "()I"⟩
abbrev cX4_observed : ByteArray := prog_1_method_22_code
def yX4_observed : MethodName := ⟨RX4, "observed", "()I"⟩
abbrev cX4_error : ByteArray := prog_1_method_23_code
def yX4_error : MethodName := ⟨RX4, "error", "()J"⟩
abbrev cX4_meanError : ByteArray := prog_1_method_24_code
def yX4_meanError : MethodName := ⟨RX4, "meanError", "()D"⟩
abbrev cX4_encode : ByteArray := prog_1_method_25_code
def yX4_encode : MethodName := ⟨RX4, "encode", "()I"⟩
abbrev cX4_codeSize : ByteArray := prog_1_method_26_code
def yX4_codeSize : MethodName := ⟨RX4, "codeSize", "()I"⟩
abbrev cX4_code : ByteArray := prog_1_method_27_code
def yX4_code : MethodName := ⟨RX4, "code", "(I)I"⟩
abbrev cX4_setCode : ByteArray := prog_1_method_28_code
def yX4_setCode : MethodName := ⟨RX4, "setCode", "(II)I"⟩
abbrev cX4_cutCode : ByteArray := prog_1_method_29_code
def yX4_cutCode : MethodName := ⟨RX4, "cutCode", "(I)I"⟩
abbrev cX4_decode : ByteArray := prog_1_method_30_code
def yX4_decode : MethodName := ⟨RX4, "decode", "(I)I"⟩
abbrev cX4_outputSize : ByteArray := prog_1_method_31_code
def yX4_outputSize : MethodName := ⟨RX4, "outputSize", "()I"⟩
abbrev cX4_output : ByteArray := prog_1_method_32_code
def yX4_output : MethodName := ⟨RX4, "output", "(I)I"⟩
abbrev cX4_ratio : ByteArray := prog_1_method_33_code
def yX4_ratio : MethodName := ⟨RX4, "ratio", "()D"⟩
abbrev cX4_digest : ByteArray := prog_1_method_34_code
def yX4_digest : MethodName := ⟨RX4, "digest", "()J"⟩
abbrev cX4_requireModel : ByteArray := prog_1_method_35_code
def yX4_requireModel : MethodName := ⟨RX4, "requireModel", "(I)LBitMixer$Model;"⟩
abbrev cX4_requireRate : ByteArray := prog_1_method_36_code
def yX4_requireRate : MethodName := ⟨RX4, "requireRate", "(I)V"⟩
abbrev cX4_requireByte : ByteArray := prog_1_method_37_code
def yX4_requireByte : MethodName := ⟨RX4, "requireByte", "(I)V"⟩
abbrev cX4_requireRoom : ByteArray := prog_1_method_38_code
def yX4_requireRoom : MethodName := ⟨RX4, "requireRoom", "(I)V"⟩
abbrev cX4_requirePlace : ByteArray := prog_1_method_39_code
def yX4_requirePlace : MethodName := ⟨RX4, "requirePlace", "(LBitMixer$ByteRow;I)I"⟩
abbrev cX4_shorten : ByteArray := prog_1_method_40_code
def yX4_shorten : MethodName := ⟨RX4, "shorten", "(LBitMixer$ByteRow;I)I"⟩
abbrev cX4_quality : ByteArray := prog_1_method_41_code
def yX4_quality : MethodName := ⟨RX4, "quality", "(IZ)I"⟩
abbrev cX4_encodeByte : ByteArray := prog_1_method_42_code
def yX4_encodeByte : MethodName := ⟨RX4, "encodeByte", "(I)V"⟩
abbrev cX4_decodeByte : ByteArray := prog_1_method_43_code
def yX4_decodeByte : MethodName := ⟨RX4, "decodeByte", "()I"⟩
abbrev cX4_differences : ByteArray := prog_1_method_44_code
def yX4_differences : MethodName := ⟨RX4, "differences", "()I"⟩
abbrev cX4_digestModels : ByteArray := prog_1_method_45_code
def yX4_digestModels : MethodName := ⟨RX4, "digestModels", "(J)J"⟩
abbrev cX4_digestBytes : ByteArray := prog_1_method_46_code
def yX4_digestBytes : MethodName := ⟨RX4, "digestBytes", "(JLBitMixer$ByteRow;)J"⟩
def RX5 : String := "BitMixerModel"
def TX5 : u_T := fun k => match k with
  | 0 => ("BitMixerModel", "thrown", "I", false)
  | 1 => ("BitMixerModel", "models", "I", false)
  | 2 => ("BitMixerModel", "orders", "[I", true)
  | 3 => ("BitMixerModel", "rates", "[I", true)
  | 4 => ("BitMixerModel", "logs", "[I", true)
  | 5 => ("BitMixerModel", "size", "I", false)
  | 6 => ("BitMixerModel", "text", "[I", true)
  | 7 => ("BitMixerModel", "counters", "[I", true)
  | 8 => ("BitMixerModel", "lastContexts", "[I", true)
  | 9 => ("BitMixerModel", "lastNodes", "[I", true)
  | 10 => ("BitMixerModel", "weights", "[I", true)
  | 11 => ("BitMixerModel", "collisions", "[I", true)
  | 12 => ("BitMixerModel", "history", "[I", true)
  | 13 => ("BitMixerModel", "node", "I", false)
  | 14 => ("BitMixerModel", "observed", "I", false)
  | 15 => ("BitMixerModel", "error", "J", false)
  | 16 => ("BitMixerModel", "codeSize", "I", false)
  | 17 => ("BitMixerModel", "code", "[I", true)
  | 18 => ("BitMixerModel", "made", "I", false)
  | 19 => ("BitMixerModel", "output", "[I", true)
  | 20 => ("BitMixerModel", "low", "J", false)
  | _ => ("BitMixerModel", "high", "J", false)
def tyX5 : Nat → FieldType := fun k => match k with
  | 0 => .int
  | 1 => .int
  | 2 => .array .int
  | 3 => .array .int
  | 4 => .array .int
  | 5 => .int
  | 6 => .array .int
  | 7 => .array .int
  | 8 => .array .int
  | 9 => .array .int
  | 10 => .array .int
  | 11 => .array .int
  | 12 => .array .int
  | 13 => .int
  | 14 => .int
  | 15 => .long
  | 16 => .int
  | 17 => .array .int
  | 18 => .int
  | 19 => .array .int
  | 20 => .long
  | _ => .long
abbrev wsX50 : List Cond := u_ws RX5 TX5 22
theorem nmX5 : ∀ a, a < 22 → ∀ b, b < 22 → a ≠ b → (TX5 a).2.1 ≠ (TX5 b).2.1 := by decide +kernel
theorem tyX5_ok : ∀ k, k < 22 → parseFieldDescriptor (TX5 k).2.2.1 = some (tyX5 k) := by decide +kernel
abbrev cX5_init : ByteArray := prog_7_method_1_code
def yX5_init : MethodName := ⟨RX5, "<init>", "()V"⟩
abbrev cX5_thrown : ByteArray := prog_7_method_2_code
def yX5_thrown : MethodName := ⟨RX5, "thrown", "()I"⟩
abbrev cX5_no : ByteArray := prog_7_method_3_code
def yX5_no : MethodName := ⟨RX5, "no", "(I)I"⟩
abbrev cX5_isIn : ByteArray := prog_7_method_4_code
def yX5_isIn : MethodName := ⟨RX5, "isIn", "(III)Z"⟩
abbrev cX5_isModel : ByteArray := prog_7_method_5_code
def yX5_isModel : MethodName := ⟨RX5, "isModel", "(I)Z"⟩
abbrev cX5_clear : ByteArray := prog_7_method_6_code
def yX5_clear : MethodName := ⟨RX5, "clear", "()V"⟩
abbrev cX5_addModel : ByteArray := prog_7_method_7_code
def yX5_addModel : MethodName := ⟨RX5, "addModel", "(III)I"⟩
abbrev cX5_removeModel : ByteArray := prog_7_method_8_code
def yX5_removeModel : MethodName := ⟨RX5, "removeModel", "()I"⟩
abbrev cX5_setRate : ByteArray := prog_7_method_9_code
def yX5_setRate : MethodName := ⟨RX5, "setRate", "(II)I"⟩
abbrev cX5_modelCount : ByteArray := prog_7_method_10_code
def yX5_modelCount : MethodName := ⟨RX5, "modelCount", "()I"⟩
abbrev cX5_feed : ByteArray := prog_7_method_11_code
def yX5_feed : MethodName := ⟨RX5, "feed", "(JI)I"⟩
abbrev cX5_fill : ByteArray := prog_7_method_12_code
def yX5_fill : MethodName := ⟨RX5, "fill", "(II)I"⟩
abbrev cX5_cut : ByteArray := prog_7_method_13_code
def yX5_cut : MethodName := ⟨RX5, "cut", "(I)I"⟩
abbrev cX5_size : ByteArray := prog_7_method_14_code
def yX5_size : MethodName := ⟨RX5, "size", "()I"⟩
abbrev cX5_byteAt : ByteArray := prog_7_method_15_code
def yX5_byteAt : MethodName := ⟨RX5, "byteAt", "(I)I"⟩
abbrev cX5_reset : ByteArray := prog_7_method_16_code
def yX5_reset : MethodName := ⟨RX5, "reset", "()I"⟩
abbrev cX5_phase : ByteArray := prog_7_method_17_code
def yX5_phase : MethodName := ⟨RX5, "phase", "()I"⟩
abbrev cX5_context : ByteArray := prog_7_method_18_code
def yX5_context : MethodName := ⟨RX5, "context", "(I)I"⟩
abbrev cX5_indexOf : ByteArray := prog_7_method_19_code
def yX5_indexOf : MethodName := ⟨RX5, "indexOf", "(I)I"⟩
abbrev cX5_predictionOf : ByteArray := prog_7_method_20_code
def yX5_predictionOf : MethodName := ⟨RX5, "predictionOf", "(I)I"⟩
abbrev cX5_mix : ByteArray := prog_7_method_21_code
def yX5_mix : MethodName := ⟨RX5, "mix", "()I"⟩
abbrev cX5_quality : ByteArray := prog_7_method_22_code
def yX5_quality : MethodName := ⟨RX5, "quality", "(IZ)I"⟩
abbrev cX5_learn : ByteArray := prog_7_method_23_code
def yX5_learn : MethodName := ⟨RX5, "learn", "(Z)I"⟩
abbrev cX5_observe : ByteArray := prog_7_method_24_code
def yX5_observe : MethodName := ⟨RX5, "observe", "(Z)I"⟩
abbrev cX5_mixed : ByteArray := prog_7_method_25_code
def yX5_mixed : MethodName := ⟨RX5, "mixed", "()I"⟩
abbrev cX5_prediction : ByteArray := prog_7_method_26_code
def yX5_prediction : MethodName := ⟨RX5, "prediction", "(I)I"⟩
abbrev cX5_index : ByteArray := prog_7_method_27_code
def yX5_index : MethodName := ⟨RX5, "index", "(I)I"⟩
abbrev cX5_counter : ByteArray := prog_7_method_28_code
def yX5_counter : MethodName := ⟨RX5, "counter", "(II)I"⟩
abbrev cX5_weight : ByteArray := prog_7_method_29_code
def yX5_weight : MethodName := ⟨RX5, "weight", "(II)I"⟩
abbrev cX5_leader : ByteArray := prog_7_method_30_code
def yX5_leader : MethodName := ⟨RX5, "leader", "()I"⟩
abbrev cX5_collisions : ByteArray := prog_7_method_31_code
def yX5_collisions : MethodName := ⟨RX5, "collisions", "(I)I"⟩
abbrev cX5_history : ByteArray := prog_7_method_32_code
def yX5_history : MethodName := ⟨RX5, "history", "(I)I"⟩
abbrev cX5_node : ByteArray := prog_7_method_33_code
def yX5_node : MethodName := ⟨RX5, "node", "()I"⟩
abbrev cX5_observed : ByteArray := prog_7_method_34_code
def yX5_observed : MethodName := ⟨RX5, "observed", "()I"⟩
abbrev cX5_error : ByteArray := prog_7_method_35_code
def yX5_error : MethodName := ⟨RX5, "error", "()J"⟩
abbrev cX5_meanError : ByteArray := prog_7_method_36_code
def yX5_meanError : MethodName := ⟨RX5, "meanError", "()D"⟩
abbrev cX5_put : ByteArray := prog_7_method_37_code
def yX5_put : MethodName := ⟨RX5, "put", "(I)V"⟩
abbrev cX5_middle : ByteArray := prog_7_method_38_code
def yX5_middle : MethodName := ⟨RX5, "middle", "()J"⟩
abbrev cX5_part : ByteArray := prog_7_method_39_code
def yX5_part : MethodName := ⟨RX5, "part", "(Z)V"⟩
abbrev cX5_areSame : ByteArray := prog_7_method_40_code
def yX5_areSame : MethodName := ⟨RX5, "areSame", "()Z"⟩
abbrev cX5_shift : ByteArray := prog_7_method_41_code
def yX5_shift : MethodName := ⟨RX5, "shift", "()V"⟩
abbrev cX5_encode : ByteArray := prog_7_method_42_code
def yX5_encode : MethodName := ⟨RX5, "encode", "()I"⟩
abbrev cX5_codeSize : ByteArray := prog_7_method_43_code
def yX5_codeSize : MethodName := ⟨RX5, "codeSize", "()I"⟩
abbrev cX5_code : ByteArray := prog_7_method_44_code
def yX5_code : MethodName := ⟨RX5, "code", "(I)I"⟩
abbrev cX5_setCode : ByteArray := prog_7_method_45_code
def yX5_setCode : MethodName := ⟨RX5, "setCode", "(II)I"⟩
abbrev cX5_cutCode : ByteArray := prog_7_method_46_code
def yX5_cutCode : MethodName := ⟨RX5, "cutCode", "(I)I"⟩
abbrev cX5_byteOfCode : ByteArray := prog_7_method_47_code
def yX5_byteOfCode : MethodName := ⟨RX5, "byteOfCode", "(I)I"⟩
abbrev cX5_decode : ByteArray := prog_7_method_48_code
def yX5_decode : MethodName := ⟨RX5, "decode", "(I)I"⟩
abbrev cX5_differences : ByteArray := prog_7_method_49_code
def yX5_differences : MethodName := ⟨RX5, "differences", "()I"⟩
abbrev cX5_outputSize : ByteArray := prog_7_method_50_code
def yX5_outputSize : MethodName := ⟨RX5, "outputSize", "()I"⟩
abbrev cX5_output : ByteArray := prog_7_method_51_code
def yX5_output : MethodName := ⟨RX5, "output", "(I)I"⟩
abbrev cX5_ratio : ByteArray := prog_7_method_52_code
def yX5_ratio : MethodName := ⟨RX5, "ratio", "()D"⟩
abbrev cX5_digest : ByteArray := prog_7_method_53_code
def yX5_digest : MethodName := ⟨RX5, "digest", "()J"⟩
def RJx145de : String := "java/io/Serializable"
def TJx145de : u_T := fun k => match k with
  | _ => ("", "", "", false)
def tyJx145de : Nat → FieldType := fun k => match k with
  | _ => .int
abbrev wsJx145de0 : List Cond := u_ws RJx145de TJx145de 0
theorem nmJx145de : ∀ a, a < 0 → ∀ b, b < 0 → a ≠ b → (TJx145de a).2.1 ≠ (TJx145de b).2.1 := by decide +kernel
theorem tyJx145de_ok : ∀ k, k < 0 → parseFieldDescriptor (TJx145de k).2.2.1 = some (tyJx145de k) := by decide +kernel
def RJ9 : String := "java/lang/Math"
def TJ9 : u_T := fun k => match k with
  | _ => ("", "", "", false)
def tyJ9 : Nat → FieldType := fun k => match k with
  | _ => .int
abbrev wsJ90 : List Cond := u_ws RJ9 TJ9 0
theorem nmJ9 : ∀ a, a < 0 → ∀ b, b < 0 → a ≠ b → (TJ9 a).2.1 ≠ (TJ9 b).2.1 := by decide +kernel
theorem tyJ9_ok : ∀ k, k < 0 → parseFieldDescriptor (TJ9 k).2.2.1 = some (tyJ9 k) := by decide +kernel
abbrev cJ9_abs_0f7a4 : ByteArray := prog_12_method_59_code
def yJ9_abs_0f7a4 : MethodName := ⟨RJ9, "abs", "(I)I"⟩
abbrev cJ9_max_7cf53 : ByteArray := prog_12_method_65_code
def yJ9_max_7cf53 : MethodName := ⟨RJ9, "max", "(II)I"⟩
abbrev cJ9_max_f86c9 : ByteArray := prog_12_method_66_code
def yJ9_max_f86c9 : MethodName := ⟨RJ9, "max", "(JJ)J"⟩
abbrev cJ9_min_7cf53 : ByteArray := prog_12_method_69_code
def yJ9_min_7cf53 : MethodName := ⟨RJ9, "min", "(II)I"⟩
abbrev cJ9_min_f86c9 : ByteArray := prog_12_method_70_code
def yJ9_min_f86c9 : MethodName := ⟨RJ9, "min", "(JJ)J"⟩
def RJ0 : String := "java/lang/String"
def TJ0 : u_T := fun k => match k with
  | _ => ("", "", "", false)
def tyJ0 : Nat → FieldType := fun k => match k with
  | _ => .int
abbrev wsJ00 : List Cond := u_ws RJ0 TJ0 0
theorem nmJ0 : ∀ a, a < 0 → ∀ b, b < 0 → a ≠ b → (TJ0 a).2.1 ≠ (TJ0 b).2.1 := by decide +kernel
theorem tyJ0_ok : ∀ k, k < 0 → parseFieldDescriptor (TJ0 k).2.2.1 = some (tyJ0 k) := by decide +kernel
def RJ7 : String := "java/util/Arrays"
def TJ7 : u_T := fun k => match k with
  | _ => ("", "", "", false)
def tyJ7 : Nat → FieldType := fun k => match k with
  | _ => .int
abbrev wsJ70 : List Cond := u_ws RJ7 TJ7 0
theorem nmJ7 : ∀ a, a < 0 → ∀ b, b < 0 → a ≠ b → (TJ7 a).2.1 ≠ (TJ7 b).2.1 := by decide +kernel
theorem tyJ7_ok : ∀ k, k < 0 → parseFieldDescriptor (TJ7 k).2.2.1 = some (tyJ7 k) := by decide +kernel
abbrev cJ7_fill_d0a16 : ByteArray := prog_16_method_101_code
def yJ7_fill_d0a16 : MethodName := ⟨RJ7, "fill", "([JJ)V"⟩
abbrev cJ7_fill_53178 : ByteArray := prog_16_method_103_code
def yJ7_fill_53178 : MethodName := ⟨RJ7, "fill", "([II)V"⟩
def RL : String := "BitMixerLaw"
abbrev cL_addModel : ByteArray := method_3_code
def yL_addModel : MethodName := ⟨RL, "addModel", "(LBitMixer;III[J)I"⟩
abbrev cL_removeModel : ByteArray := method_4_code
def yL_removeModel : MethodName := ⟨RL, "removeModel", "(LBitMixer;[J)I"⟩
abbrev cL_setRate : ByteArray := method_5_code
def yL_setRate : MethodName := ⟨RL, "setRate", "(LBitMixer;II[J)I"⟩
abbrev cL_feed : ByteArray := method_6_code
def yL_feed : MethodName := ⟨RL, "feed", "(LBitMixer;JI[J)I"⟩
abbrev cL_fill : ByteArray := method_7_code
def yL_fill : MethodName := ⟨RL, "fill", "(LBitMixer;II[J)I"⟩
abbrev cL_cut : ByteArray := method_8_code
def yL_cut : MethodName := ⟨RL, "cut", "(LBitMixer;I[J)I"⟩
abbrev cL_byteAt : ByteArray := method_9_code
def yL_byteAt : MethodName := ⟨RL, "byteAt", "(LBitMixer;I[J)I"⟩
abbrev cL_prediction : ByteArray := method_10_code
def yL_prediction : MethodName := ⟨RL, "prediction", "(LBitMixer;I[J)I"⟩
abbrev cL_index : ByteArray := method_11_code
def yL_index : MethodName := ⟨RL, "index", "(LBitMixer;I[J)I"⟩
abbrev cL_counter : ByteArray := method_12_code
def yL_counter : MethodName := ⟨RL, "counter", "(LBitMixer;II[J)I"⟩
abbrev cL_weight : ByteArray := method_13_code
def yL_weight : MethodName := ⟨RL, "weight", "(LBitMixer;II[J)I"⟩
abbrev cL_collisions : ByteArray := method_14_code
def yL_collisions : MethodName := ⟨RL, "collisions", "(LBitMixer;I[J)I"⟩
abbrev cL_history : ByteArray := method_15_code
def yL_history : MethodName := ⟨RL, "history", "(LBitMixer;I[J)I"⟩
abbrev cL_code : ByteArray := method_16_code
def yL_code : MethodName := ⟨RL, "code", "(LBitMixer;I[J)I"⟩
abbrev cL_setCode : ByteArray := method_17_code
def yL_setCode : MethodName := ⟨RL, "setCode", "(LBitMixer;II[J)I"⟩
abbrev cL_cutCode : ByteArray := method_18_code
def yL_cutCode : MethodName := ⟨RL, "cutCode", "(LBitMixer;I[J)I"⟩
abbrev cL_decode : ByteArray := method_19_code
def yL_decode : MethodName := ⟨RL, "decode", "(LBitMixer;I[J)I"⟩
abbrev cL_output : ByteArray := method_20_code
def yL_output : MethodName := ⟨RL, "output", "(LBitMixer;I[J)I"⟩
abbrev cL_law : ByteArray := code
def yL_law : MethodName := ⟨RL, "law", "([I)Z"⟩
def wsX0_init : List Cond := .code yX0_init cX0_init 2 none :: ([.methodLink RX0 1 objectInit, .instanceMethod objectInit, .code objectInit ⟨#[0xb1]⟩ 1 none, .methodLink RX0 7 Lib.Math.max.name, .static Lib.Math.max.name, .initialized "java/lang/Math", .code Lib.Math.max.name Lib.Math.max.code 2 (some .int), .arrayClass .int, .fieldLink RX0 13 "BitMixer$ByteRow" "bytes" "[I", .fieldLink RX0 19 "BitMixer$ByteRow" "count" "I"] ++ wsX00)
def wsX0_has : List Cond := .code yX0_has cX0_has 2 (some .boolean) :: ([.fieldLink RX0 19 "BitMixer$ByteRow" "count" "I", .fieldLink RX0 13 "BitMixer$ByteRow" "bytes" "[I"] ++ wsX00)
def wsX0_at : List Cond := .code yX0_at cX0_at 2 (some .int) :: ([.fieldLink RX0 13 "BitMixer$ByteRow" "bytes" "[I", .methodLink RX0 23 yX0_has, .instanceMethod yX0_has, .selects RX0 yX0_has yX0_has, .initialized RX0, .code yX0_has cX0_has 2 (some .boolean), .fieldLink RX0 19 "BitMixer$ByteRow" "count" "I"] ++ wsX00)
def wsX0_put : List Cond := .code yX0_put cX0_put 3 none :: ([.fieldLink RX0 13 "BitMixer$ByteRow" "bytes" "[I", .methodLink RX0 23 yX0_has, .instanceMethod yX0_has, .selects RX0 yX0_has yX0_has, .initialized RX0, .code yX0_has cX0_has 2 (some .boolean), .fieldLink RX0 19 "BitMixer$ByteRow" "count" "I"] ++ wsX00)
def wsX0_append : List Cond := .code yX0_append cX0_append 2 none :: ([.fieldLink RX0 19 "BitMixer$ByteRow" "count" "I", .fieldLink RX0 13 "BitMixer$ByteRow" "bytes" "[I"] ++ wsX00)
def wsX0_clear : List Cond := .code yX0_clear cX0_clear 1 none :: ([.fieldLink RX0 19 "BitMixer$ByteRow" "count" "I"] ++ wsX00)
def wsX1_open : List Cond := .code yX1_open cX1_open 1 none :: ([.fieldLink RX1 14 "BitMixer$Interval" "low" "J", .constantLong RX1 18 (4294967295), .fieldLink RX1 20 "BitMixer$Interval" "high" "J", .fieldLink RX1 23 "BitMixer$Interval" "x" "J", .fieldLink RX1 26 "BitMixer$Interval" "next" "I"] ++ wsX10)
def wsX1_init : List Cond := .code yX1_init cX1_init 1 none :: ([.methodLink RX1 3 objectInit, .instanceMethod objectInit, .code objectInit ⟨#[0xb1]⟩ 1 none, .methodLink RX1 9 yX1_open, .instanceMethod yX1_open, .selects RX1 yX1_open yX1_open, .initialized RX1, .code yX1_open cX1_open 1 none, .fieldLink RX1 14 "BitMixer$Interval" "low" "J", .constantLong RX1 18 (4294967295), .fieldLink RX1 20 "BitMixer$Interval" "high" "J", .fieldLink RX1 23 "BitMixer$Interval" "x" "J", .fieldLink RX1 26 "BitMixer$Interval" "next" "I"] ++ wsX10)
def wsX1_pull : List Cond := .code yX1_pull cX1_pull 2 none :: ([.fieldLink RX1 23 "BitMixer$Interval" "x" "J", .constantLong RX1 18 (4294967295), .fieldLink RX1 26 "BitMixer$Interval" "next" "I", .methodLink RX1 34 yX0_at, .instanceMethod yX0_at, .selects RX0 yX0_at yX0_at, .initialized RX0, .code yX0_at cX0_at 2 (some .int), .fieldLink RX0 13 "BitMixer$ByteRow" "bytes" "[I", .methodLink RX0 23 yX0_has, .instanceMethod yX0_has, .selects RX0 yX0_has yX0_has, .code yX0_has cX0_has 2 (some .boolean), .fieldLink RX0 19 "BitMixer$ByteRow" "count" "I"] ++ wsX10 ++ wsX00)
def wsX1_load : List Cond := .code yX1_load cX1_load 3 none :: ([.methodLink RX1 30 yX1_pull, .instanceMethod yX1_pull, .selects RX1 yX1_pull yX1_pull, .initialized RX1, .code yX1_pull cX1_pull 2 none, .fieldLink RX1 23 "BitMixer$Interval" "x" "J", .constantLong RX1 18 (4294967295), .fieldLink RX1 26 "BitMixer$Interval" "next" "I", .methodLink RX1 34 yX0_at, .instanceMethod yX0_at, .selects RX0 yX0_at yX0_at, .initialized RX0, .code yX0_at cX0_at 2 (some .int), .fieldLink RX0 13 "BitMixer$ByteRow" "bytes" "[I", .methodLink RX0 23 yX0_has, .instanceMethod yX0_has, .selects RX0 yX0_has yX0_has, .code yX0_has cX0_has 2 (some .boolean), .fieldLink RX0 19 "BitMixer$ByteRow" "count" "I"] ++ wsX10 ++ wsX00)
def wsX1_middle : List Cond := .code yX1_middle cX1_middle 2 (some .long) :: ([.fieldLink RX1 14 "BitMixer$Interval" "low" "J", .fieldLink RX1 20 "BitMixer$Interval" "high" "J", .constantLong RX1 40 (4096)] ++ wsX10)
def wsX1_narrow : List Cond := .code yX1_narrow cX1_narrow 4 none :: ([.fieldLink RX1 20 "BitMixer$Interval" "high" "J", .fieldLink RX1 14 "BitMixer$Interval" "low" "J"] ++ wsX10)
def wsX1_topByte : List Cond := .code yX1_topByte cX1_topByte 2 (some .int) :: ([])
def wsX1_isSettled : List Cond := .code yX1_isSettled cX1_isSettled 1 (some .boolean) :: ([.fieldLink RX1 14 "BitMixer$Interval" "low" "J", .fieldLink RX1 20 "BitMixer$Interval" "high" "J", .methodLink RX1 42 yX1_topByte, .static yX1_topByte, .initialized RX1, .code yX1_topByte cX1_topByte 2 (some .int)] ++ wsX10)
def wsX1_shift : List Cond := .code yX1_shift cX1_shift 2 (some .int) :: ([.fieldLink RX1 14 "BitMixer$Interval" "low" "J", .constantLong RX1 18 (4294967295), .fieldLink RX1 20 "BitMixer$Interval" "high" "J", .constantLong RX1 46 (255), .methodLink RX1 42 yX1_topByte, .static yX1_topByte, .initialized RX1, .code yX1_topByte cX1_topByte 2 (some .int)] ++ wsX10)
def wsX2_init : List Cond := .code yX2_init cX2_init 1 none :: ([.methodLink RX2 3 objectInit, .instanceMethod objectInit, .code objectInit ⟨#[0xb1]⟩ 1 none, .arrayClass .int, .fieldLink RX2 9 "BitMixer$Model" "counters" "[I", .arrayClass .long, .fieldLink RX2 15 "BitMixer$Model" "seen" "[J", .fieldLink RX2 19 "BitMixer$Model" "weights" "[I"] ++ wsX20)
def wsX2_shape : List Cond := .code yX2_shape cX2_shape 4 none :: ([.fieldLink RX2 22 "BitMixer$Model" "order" "I", .fieldLink RX2 26 "BitMixer$Model" "rate" "I", .fieldLink RX2 29 "BitMixer$Model" "t" "I"] ++ wsX20)
def wsX2_tableSize : List Cond := .code yX2_tableSize cX2_tableSize 1 (some .int) :: ([.fieldLink RX2 29 "BitMixer$Model" "t" "I", .methodLink RX2 32 Lib.Math.min.name, .static Lib.Math.min.name, .initialized "java/lang/Math", .code Lib.Math.min.name Lib.Math.min.code 2 (some .int)] ++ wsX20)
def wsJ7_fill_53178 : List Cond := .code yJ7_fill_53178 cJ7_fill_53178 4 none :: ([])
def wsJ7_fill_d0a16 : List Cond := .code yJ7_fill_d0a16 cJ7_fill_d0a16 5 none :: ([])
def wsX2_forget : List Cond := .code yX2_forget cX2_forget 1 none :: ([.fieldLink RX2 9 "BitMixer$Model" "counters" "[I", .fieldLink RX2 15 "BitMixer$Model" "seen" "[J", .fieldLink RX2 19 "BitMixer$Model" "weights" "[I", .fieldLink RX2 47 "BitMixer$Model" "collisionTotal" "I", .methodLink RX2 38 yJ7_fill_53178, .static yJ7_fill_53178, .initialized RJ7, .code yJ7_fill_53178 cJ7_fill_53178 4 none, .methodLink RX2 44 yJ7_fill_d0a16, .static yJ7_fill_d0a16, .code yJ7_fill_d0a16 cJ7_fill_d0a16 5 none] ++ wsX20)
def wsX2_readContext : List Cond := .code yX2_readContext cX2_readContext 4 none :: ([.fieldLink RX2 22 "BitMixer$Model" "order" "I", .fieldLink RX2 50 "BitMixer$Model" "context" "I"] ++ wsX20)
def wsX2_aim : List Cond := .code yX2_aim cX2_aim 2 none :: ([.constantLong RX2 53 (256), .fieldLink RX2 50 "BitMixer$Model" "context" "I", .fieldLink RX2 55 "BitMixer$Model" "sight" "J", .fieldLink RX2 63 "BitMixer$Model" "place" "I", .methodLink RX2 59 yX2_tableSize, .instanceMethod yX2_tableSize, .selects RX2 yX2_tableSize yX2_tableSize, .initialized RX2, .code yX2_tableSize cX2_tableSize 1 (some .int), .fieldLink RX2 29 "BitMixer$Model" "t" "I", .methodLink RX2 32 Lib.Math.min.name, .static Lib.Math.min.name, .initialized "java/lang/Math", .code Lib.Math.min.name Lib.Math.min.code 2 (some .int)] ++ wsX20)
def wsX2_guess : List Cond := .code yX2_guess cX2_guess 1 (some .int) :: ([.fieldLink RX2 9 "BitMixer$Model" "counters" "[I", .fieldLink RX2 63 "BitMixer$Model" "place" "I"] ++ wsX20)
def wsX4_quality : List Cond := .code yX4_quality cX4_quality 2 (some .int) :: ([])
def wsX2_adjustWeight : List Cond := .code yX2_adjustWeight cX2_adjustWeight 6 none :: ([.fieldLink RX2 19 "BitMixer$Model" "weights" "[I", .constant RX2 73 (60000), .methodLink RX2 32 Lib.Math.min.name, .static Lib.Math.min.name, .initialized "java/lang/Math", .code Lib.Math.min.name Lib.Math.min.code 2 (some .int), .methodLink RX2 74 Lib.Math.max.name, .static Lib.Math.max.name, .code Lib.Math.max.name Lib.Math.max.code 2 (some .int), .methodLink RX2 66 yX2_guess, .instanceMethod yX2_guess, .selects RX2 yX2_guess yX2_guess, .initialized RX2, .code yX2_guess cX2_guess 1 (some .int), .fieldLink RX2 9 "BitMixer$Model" "counters" "[I", .fieldLink RX2 63 "BitMixer$Model" "place" "I", .static yX4_quality, .initialized RX4, .code yX4_quality cX4_quality 2 (some .int)] ++ wsX20)
def wsX2_adjustCounter : List Cond := .code yX2_adjustCounter cX2_adjustCounter 3 none :: ([.fieldLink RX2 9 "BitMixer$Model" "counters" "[I", .fieldLink RX2 63 "BitMixer$Model" "place" "I", .fieldLink RX2 26 "BitMixer$Model" "rate" "I", .fieldLink RX2 15 "BitMixer$Model" "seen" "[J", .fieldLink RX2 55 "BitMixer$Model" "sight" "J", .fieldLink RX2 47 "BitMixer$Model" "collisionTotal" "I"] ++ wsX20)
def wsX3_readContexts : List Cond := .code yX3_readContexts cX3_readContexts 2 none :: ([.fieldLink RX3 18 "BitMixer$Predictor" "modelTotal" "I", .fieldLink RX3 11 "BitMixer$Predictor" "models" "[LBitMixer$Model;", .fieldLink RX3 22 "BitMixer$Predictor" "latest" "[I", .methodLink RX3 61 yX2_readContext, .instanceMethod yX2_readContext, .selects RX2 yX2_readContext yX2_readContext, .initialized RX2, .code yX2_readContext cX2_readContext 4 none, .fieldLink RX2 22 "BitMixer$Model" "order" "I", .fieldLink RX2 50 "BitMixer$Model" "context" "I"] ++ wsX30 ++ wsX20)
def wsX3_aimModels : List Cond := .code yX3_aimModels cX3_aimModels 2 none :: ([.fieldLink RX3 18 "BitMixer$Predictor" "modelTotal" "I", .fieldLink RX3 11 "BitMixer$Predictor" "models" "[LBitMixer$Model;", .fieldLink RX3 42 "BitMixer$Predictor" "treeNode" "I", .methodLink RX3 65 yX2_aim, .instanceMethod yX2_aim, .selects RX2 yX2_aim yX2_aim, .initialized RX2, .code yX2_aim cX2_aim 2 none, .constantLong RX2 53 (256), .fieldLink RX2 50 "BitMixer$Model" "context" "I", .fieldLink RX2 55 "BitMixer$Model" "sight" "J", .fieldLink RX2 63 "BitMixer$Model" "place" "I", .methodLink RX2 59 yX2_tableSize, .instanceMethod yX2_tableSize, .selects RX2 yX2_tableSize yX2_tableSize, .code yX2_tableSize cX2_tableSize 1 (some .int), .fieldLink RX2 29 "BitMixer$Model" "t" "I", .methodLink RX2 32 Lib.Math.min.name, .static Lib.Math.min.name, .initialized "java/lang/Math", .code Lib.Math.min.name Lib.Math.min.code 2 (some .int)] ++ wsX30 ++ wsX20)
def wsX3_restart_r1 : List Cond := [Cond.fieldLink RX3 18 "BitMixer$Predictor" "modelTotal" "I", Cond.fieldLink RX3 11 "BitMixer$Predictor" "models" "[LBitMixer$Model;", Cond.fieldLink RX3 22 "BitMixer$Predictor" "latest" "[I", Cond.fieldLink RX3 42 "BitMixer$Predictor" "treeNode" "I", Cond.fieldLink RX3 45 "BitMixer$Predictor" "phase" "I", Cond.fieldLink RX3 48 "BitMixer$Predictor" "bitTotal" "I", Cond.fieldLink RX3 51 "BitMixer$Predictor" "errorSum" "J", Cond.methodLink RX3 33 yX2_forget, Cond.instanceMethod yX2_forget, Cond.selects RX2 yX2_forget yX2_forget, Cond.initialized RX2, Cond.code yX2_forget cX2_forget 1 none, Cond.fieldLink RX2 9 "BitMixer$Model" "counters" "[I", Cond.fieldLink RX2 15 "BitMixer$Model" "seen" "[J", Cond.fieldLink RX2 19 "BitMixer$Model" "weights" "[I", Cond.fieldLink RX2 47 "BitMixer$Model" "collisionTotal" "I", Cond.methodLink RX2 38 yJ7_fill_53178, Cond.static yJ7_fill_53178, Cond.initialized RJ7, Cond.code yJ7_fill_53178 cJ7_fill_53178 4 none, Cond.methodLink RX2 44 yJ7_fill_d0a16, Cond.static yJ7_fill_d0a16, Cond.code yJ7_fill_d0a16 cJ7_fill_d0a16 5 none, Cond.methodLink RX3 36 yJ7_fill_53178]
def wsX3_restart_r2 : List Cond := [Cond.methodLink RX3 55 yX3_readContexts, Cond.instanceMethod yX3_readContexts, Cond.selects RX3 yX3_readContexts yX3_readContexts, Cond.initialized RX3, Cond.code yX3_readContexts cX3_readContexts 2 none, Cond.methodLink RX3 61 yX2_readContext, Cond.instanceMethod yX2_readContext, Cond.selects RX2 yX2_readContext yX2_readContext, Cond.code yX2_readContext cX2_readContext 4 none, Cond.fieldLink RX2 22 "BitMixer$Model" "order" "I", Cond.fieldLink RX2 50 "BitMixer$Model" "context" "I", Cond.methodLink RX3 58 yX3_aimModels, Cond.instanceMethod yX3_aimModels, Cond.selects RX3 yX3_aimModels yX3_aimModels, Cond.code yX3_aimModels cX3_aimModels 2 none, Cond.methodLink RX3 65 yX2_aim, Cond.instanceMethod yX2_aim, Cond.selects RX2 yX2_aim yX2_aim, Cond.code yX2_aim cX2_aim 2 none, Cond.constantLong RX2 53 (256), Cond.fieldLink RX2 55 "BitMixer$Model" "sight" "J", Cond.fieldLink RX2 63 "BitMixer$Model" "place" "I", Cond.methodLink RX2 59 yX2_tableSize, Cond.instanceMethod yX2_tableSize]
def wsX3_restart_r3 : List Cond := [Cond.selects RX2 yX2_tableSize yX2_tableSize, Cond.code yX2_tableSize cX2_tableSize 1 (some .int), Cond.fieldLink RX2 29 "BitMixer$Model" "t" "I", Cond.methodLink RX2 32 Lib.Math.min.name, Cond.static Lib.Math.min.name, Cond.initialized "java/lang/Math", Cond.code Lib.Math.min.name Lib.Math.min.code 2 (some .int)]
def wsX3_restart : List Cond := .code yX3_restart cX3_restart 2 none :: ((wsX3_restart_r1 ++ (wsX3_restart_r2 ++ wsX3_restart_r3)) ++ wsX30 ++ wsX20)
def wsX3_init_r1 : List Cond := [Cond.methodLink RX3 3 objectInit, Cond.instanceMethod objectInit, Cond.code objectInit ⟨#[0xb1]⟩ 1 none, Cond.classLink RX3 9 RX2, Cond.fieldLink RX3 11 "BitMixer$Predictor" "models" "[LBitMixer$Model;", Cond.instantiable RX2 10, Cond.initialized RX2, Cond.fieldLink RX3 18 "BitMixer$Predictor" "modelTotal" "I", Cond.arrayClass .int, Cond.fieldLink RX3 22 "BitMixer$Predictor" "latest" "[I", Cond.methodLink RX3 17 yX2_init, Cond.instanceMethod yX2_init, Cond.code yX2_init cX2_init 1 none, Cond.methodLink RX2 3 objectInit, Cond.fieldLink RX2 9 "BitMixer$Model" "counters" "[I", Cond.arrayClass .long, Cond.fieldLink RX2 15 "BitMixer$Model" "seen" "[J", Cond.fieldLink RX2 19 "BitMixer$Model" "weights" "[I", Cond.methodLink RX3 26 yX3_restart, Cond.instanceMethod yX3_restart, Cond.selects RX3 yX3_restart yX3_restart, Cond.initialized RX3, Cond.code yX3_restart cX3_restart 2 none, Cond.fieldLink RX3 42 "BitMixer$Predictor" "treeNode" "I"]
def wsX3_init_r2 : List Cond := [Cond.fieldLink RX3 45 "BitMixer$Predictor" "phase" "I", Cond.fieldLink RX3 48 "BitMixer$Predictor" "bitTotal" "I", Cond.fieldLink RX3 51 "BitMixer$Predictor" "errorSum" "J", Cond.methodLink RX3 33 yX2_forget, Cond.instanceMethod yX2_forget, Cond.selects RX2 yX2_forget yX2_forget, Cond.code yX2_forget cX2_forget 1 none, Cond.fieldLink RX2 47 "BitMixer$Model" "collisionTotal" "I", Cond.methodLink RX2 38 yJ7_fill_53178, Cond.static yJ7_fill_53178, Cond.initialized RJ7, Cond.code yJ7_fill_53178 cJ7_fill_53178 4 none, Cond.methodLink RX2 44 yJ7_fill_d0a16, Cond.static yJ7_fill_d0a16, Cond.code yJ7_fill_d0a16 cJ7_fill_d0a16 5 none, Cond.methodLink RX3 36 yJ7_fill_53178, Cond.methodLink RX3 55 yX3_readContexts, Cond.instanceMethod yX3_readContexts, Cond.selects RX3 yX3_readContexts yX3_readContexts, Cond.code yX3_readContexts cX3_readContexts 2 none, Cond.methodLink RX3 61 yX2_readContext, Cond.instanceMethod yX2_readContext, Cond.selects RX2 yX2_readContext yX2_readContext, Cond.code yX2_readContext cX2_readContext 4 none]
def wsX3_init_r3 : List Cond := [Cond.fieldLink RX2 22 "BitMixer$Model" "order" "I", Cond.fieldLink RX2 50 "BitMixer$Model" "context" "I", Cond.methodLink RX3 58 yX3_aimModels, Cond.instanceMethod yX3_aimModels, Cond.selects RX3 yX3_aimModels yX3_aimModels, Cond.code yX3_aimModels cX3_aimModels 2 none, Cond.methodLink RX3 65 yX2_aim, Cond.instanceMethod yX2_aim, Cond.selects RX2 yX2_aim yX2_aim, Cond.code yX2_aim cX2_aim 2 none, Cond.constantLong RX2 53 (256), Cond.fieldLink RX2 55 "BitMixer$Model" "sight" "J", Cond.fieldLink RX2 63 "BitMixer$Model" "place" "I", Cond.methodLink RX2 59 yX2_tableSize, Cond.instanceMethod yX2_tableSize, Cond.selects RX2 yX2_tableSize yX2_tableSize, Cond.code yX2_tableSize cX2_tableSize 1 (some .int), Cond.fieldLink RX2 29 "BitMixer$Model" "t" "I", Cond.methodLink RX2 32 Lib.Math.min.name, Cond.static Lib.Math.min.name, Cond.initialized "java/lang/Math", Cond.code Lib.Math.min.name Lib.Math.min.code 2 (some .int)]
def wsX3_init : List Cond := .code yX3_init cX3_init 2 none :: ((wsX3_init_r1 ++ (wsX3_init_r2 ++ wsX3_init_r3)) ++ wsX30 ++ wsX20)
def wsX3_takeModel_r1 : List Cond := [Cond.fieldLink RX3 18 "BitMixer$Predictor" "modelTotal" "I", Cond.fieldLink RX3 11 "BitMixer$Predictor" "models" "[LBitMixer$Model;", Cond.methodLink RX3 29 yX2_shape, Cond.instanceMethod yX2_shape, Cond.selects RX2 yX2_shape yX2_shape, Cond.initialized RX2, Cond.code yX2_shape cX2_shape 4 none, Cond.fieldLink RX2 22 "BitMixer$Model" "order" "I", Cond.fieldLink RX2 26 "BitMixer$Model" "rate" "I", Cond.fieldLink RX2 29 "BitMixer$Model" "t" "I", Cond.methodLink RX3 26 yX3_restart, Cond.instanceMethod yX3_restart, Cond.selects RX3 yX3_restart yX3_restart, Cond.initialized RX3, Cond.code yX3_restart cX3_restart 2 none, Cond.fieldLink RX3 22 "BitMixer$Predictor" "latest" "[I", Cond.fieldLink RX3 42 "BitMixer$Predictor" "treeNode" "I", Cond.fieldLink RX3 45 "BitMixer$Predictor" "phase" "I", Cond.fieldLink RX3 48 "BitMixer$Predictor" "bitTotal" "I", Cond.fieldLink RX3 51 "BitMixer$Predictor" "errorSum" "J", Cond.methodLink RX3 33 yX2_forget, Cond.instanceMethod yX2_forget, Cond.selects RX2 yX2_forget yX2_forget, Cond.code yX2_forget cX2_forget 1 none]
def wsX3_takeModel_r2 : List Cond := [Cond.fieldLink RX2 9 "BitMixer$Model" "counters" "[I", Cond.fieldLink RX2 15 "BitMixer$Model" "seen" "[J", Cond.fieldLink RX2 19 "BitMixer$Model" "weights" "[I", Cond.fieldLink RX2 47 "BitMixer$Model" "collisionTotal" "I", Cond.methodLink RX2 38 yJ7_fill_53178, Cond.static yJ7_fill_53178, Cond.initialized RJ7, Cond.code yJ7_fill_53178 cJ7_fill_53178 4 none, Cond.methodLink RX2 44 yJ7_fill_d0a16, Cond.static yJ7_fill_d0a16, Cond.code yJ7_fill_d0a16 cJ7_fill_d0a16 5 none, Cond.methodLink RX3 36 yJ7_fill_53178, Cond.methodLink RX3 55 yX3_readContexts, Cond.instanceMethod yX3_readContexts, Cond.selects RX3 yX3_readContexts yX3_readContexts, Cond.code yX3_readContexts cX3_readContexts 2 none, Cond.methodLink RX3 61 yX2_readContext, Cond.instanceMethod yX2_readContext, Cond.selects RX2 yX2_readContext yX2_readContext, Cond.code yX2_readContext cX2_readContext 4 none, Cond.fieldLink RX2 50 "BitMixer$Model" "context" "I", Cond.methodLink RX3 58 yX3_aimModels, Cond.instanceMethod yX3_aimModels, Cond.selects RX3 yX3_aimModels yX3_aimModels]
def wsX3_takeModel_r3 : List Cond := [Cond.code yX3_aimModels cX3_aimModels 2 none, Cond.methodLink RX3 65 yX2_aim, Cond.instanceMethod yX2_aim, Cond.selects RX2 yX2_aim yX2_aim, Cond.code yX2_aim cX2_aim 2 none, Cond.constantLong RX2 53 (256), Cond.fieldLink RX2 55 "BitMixer$Model" "sight" "J", Cond.fieldLink RX2 63 "BitMixer$Model" "place" "I", Cond.methodLink RX2 59 yX2_tableSize, Cond.instanceMethod yX2_tableSize, Cond.selects RX2 yX2_tableSize yX2_tableSize, Cond.code yX2_tableSize cX2_tableSize 1 (some .int), Cond.methodLink RX2 32 Lib.Math.min.name, Cond.static Lib.Math.min.name, Cond.initialized "java/lang/Math", Cond.code Lib.Math.min.name Lib.Math.min.code 2 (some .int)]
def wsX3_takeModel : List Cond := .code yX3_takeModel cX3_takeModel 4 none :: ((wsX3_takeModel_r1 ++ (wsX3_takeModel_r2 ++ wsX3_takeModel_r3)) ++ wsX30 ++ wsX20)
def wsX3_dropModel_r1 : List Cond := [Cond.fieldLink RX3 18 "BitMixer$Predictor" "modelTotal" "I", Cond.methodLink RX3 26 yX3_restart, Cond.instanceMethod yX3_restart, Cond.selects RX3 yX3_restart yX3_restart, Cond.initialized RX3, Cond.code yX3_restart cX3_restart 2 none, Cond.fieldLink RX3 11 "BitMixer$Predictor" "models" "[LBitMixer$Model;", Cond.fieldLink RX3 22 "BitMixer$Predictor" "latest" "[I", Cond.fieldLink RX3 42 "BitMixer$Predictor" "treeNode" "I", Cond.fieldLink RX3 45 "BitMixer$Predictor" "phase" "I", Cond.fieldLink RX3 48 "BitMixer$Predictor" "bitTotal" "I", Cond.fieldLink RX3 51 "BitMixer$Predictor" "errorSum" "J", Cond.methodLink RX3 33 yX2_forget, Cond.instanceMethod yX2_forget, Cond.selects RX2 yX2_forget yX2_forget, Cond.initialized RX2, Cond.code yX2_forget cX2_forget 1 none, Cond.fieldLink RX2 9 "BitMixer$Model" "counters" "[I", Cond.fieldLink RX2 15 "BitMixer$Model" "seen" "[J", Cond.fieldLink RX2 19 "BitMixer$Model" "weights" "[I", Cond.fieldLink RX2 47 "BitMixer$Model" "collisionTotal" "I", Cond.methodLink RX2 38 yJ7_fill_53178, Cond.static yJ7_fill_53178, Cond.initialized RJ7]
def wsX3_dropModel_r2 : List Cond := [Cond.code yJ7_fill_53178 cJ7_fill_53178 4 none, Cond.methodLink RX2 44 yJ7_fill_d0a16, Cond.static yJ7_fill_d0a16, Cond.code yJ7_fill_d0a16 cJ7_fill_d0a16 5 none, Cond.methodLink RX3 36 yJ7_fill_53178, Cond.methodLink RX3 55 yX3_readContexts, Cond.instanceMethod yX3_readContexts, Cond.selects RX3 yX3_readContexts yX3_readContexts, Cond.code yX3_readContexts cX3_readContexts 2 none, Cond.methodLink RX3 61 yX2_readContext, Cond.instanceMethod yX2_readContext, Cond.selects RX2 yX2_readContext yX2_readContext, Cond.code yX2_readContext cX2_readContext 4 none, Cond.fieldLink RX2 22 "BitMixer$Model" "order" "I", Cond.fieldLink RX2 50 "BitMixer$Model" "context" "I", Cond.methodLink RX3 58 yX3_aimModels, Cond.instanceMethod yX3_aimModels, Cond.selects RX3 yX3_aimModels yX3_aimModels, Cond.code yX3_aimModels cX3_aimModels 2 none, Cond.methodLink RX3 65 yX2_aim, Cond.instanceMethod yX2_aim, Cond.selects RX2 yX2_aim yX2_aim, Cond.code yX2_aim cX2_aim 2 none, Cond.constantLong RX2 53 (256)]
def wsX3_dropModel_r3 : List Cond := [Cond.fieldLink RX2 55 "BitMixer$Model" "sight" "J", Cond.fieldLink RX2 63 "BitMixer$Model" "place" "I", Cond.methodLink RX2 59 yX2_tableSize, Cond.instanceMethod yX2_tableSize, Cond.selects RX2 yX2_tableSize yX2_tableSize, Cond.code yX2_tableSize cX2_tableSize 1 (some .int), Cond.fieldLink RX2 29 "BitMixer$Model" "t" "I", Cond.methodLink RX2 32 Lib.Math.min.name, Cond.static Lib.Math.min.name, Cond.initialized "java/lang/Math", Cond.code Lib.Math.min.name Lib.Math.min.code 2 (some .int)]
def wsX3_dropModel : List Cond := .code yX3_dropModel cX3_dropModel 1 none :: ((wsX3_dropModel_r1 ++ (wsX3_dropModel_r2 ++ wsX3_dropModel_r3)) ++ wsX30 ++ wsX20)
def wsX3_mixture : List Cond := .code yX3_mixture cX3_mixture 5 (some .int) :: ([.fieldLink RX3 18 "BitMixer$Predictor" "modelTotal" "I", .fieldLink RX3 11 "BitMixer$Predictor" "models" "[LBitMixer$Model;", .fieldLink RX3 69 "BitMixer$Model" "weights" "[I", .fieldLink RX3 45 "BitMixer$Predictor" "phase" "I", .methodLink RX3 76 Lib.Math.min.name, .static Lib.Math.min.name, .initialized "java/lang/Math", .code Lib.Math.min.name Lib.Math.min.code 2 (some .int), .methodLink RX3 82 Lib.Math.max.name, .static Lib.Math.max.name, .code Lib.Math.max.name Lib.Math.max.code 2 (some .int), .methodLink RX3 72 yX2_guess, .instanceMethod yX2_guess, .selects RX2 yX2_guess yX2_guess, .initialized RX2, .code yX2_guess cX2_guess 1 (some .int), .fieldLink RX2 9 "BitMixer$Model" "counters" "[I", .fieldLink RX2 63 "BitMixer$Model" "place" "I"] ++ wsX30 ++ wsX20)
def wsX3_step : List Cond := .code yX3_step cX3_step 3 none :: ([.fieldLink RX3 42 "BitMixer$Predictor" "treeNode" "I", .fieldLink RX3 45 "BitMixer$Predictor" "phase" "I", .fieldLink RX3 22 "BitMixer$Predictor" "latest" "[I", .methodLink RX3 55 yX3_readContexts, .instanceMethod yX3_readContexts, .selects RX3 yX3_readContexts yX3_readContexts, .initialized RX3, .code yX3_readContexts cX3_readContexts 2 none, .fieldLink RX3 18 "BitMixer$Predictor" "modelTotal" "I", .fieldLink RX3 11 "BitMixer$Predictor" "models" "[LBitMixer$Model;", .methodLink RX3 61 yX2_readContext, .instanceMethod yX2_readContext, .selects RX2 yX2_readContext yX2_readContext, .initialized RX2, .code yX2_readContext cX2_readContext 4 none, .fieldLink RX2 22 "BitMixer$Model" "order" "I", .fieldLink RX2 50 "BitMixer$Model" "context" "I"] ++ wsX30 ++ wsX20)
def wsX3_learn_r1 : List Cond := [Cond.fieldLink RX3 51 "BitMixer$Predictor" "errorSum" "J", Cond.fieldLink RX3 18 "BitMixer$Predictor" "modelTotal" "I", Cond.fieldLink RX3 11 "BitMixer$Predictor" "models" "[LBitMixer$Model;", Cond.fieldLink RX3 45 "BitMixer$Predictor" "phase" "I", Cond.fieldLink RX3 48 "BitMixer$Predictor" "bitTotal" "I", Cond.static yX4_quality, Cond.initialized RX4, Cond.code yX4_quality cX4_quality 2 (some .int), Cond.methodLink RX3 89 yX2_adjustWeight, Cond.instanceMethod yX2_adjustWeight, Cond.selects RX2 yX2_adjustWeight yX2_adjustWeight, Cond.initialized RX2, Cond.code yX2_adjustWeight cX2_adjustWeight 6 none, Cond.fieldLink RX2 19 "BitMixer$Model" "weights" "[I", Cond.constant RX2 73 (60000), Cond.methodLink RX2 32 Lib.Math.min.name, Cond.static Lib.Math.min.name, Cond.initialized "java/lang/Math", Cond.code Lib.Math.min.name Lib.Math.min.code 2 (some .int), Cond.methodLink RX2 74 Lib.Math.max.name, Cond.static Lib.Math.max.name, Cond.code Lib.Math.max.name Lib.Math.max.code 2 (some .int), Cond.methodLink RX2 66 yX2_guess, Cond.instanceMethod yX2_guess]
def wsX3_learn_r2 : List Cond := [Cond.selects RX2 yX2_guess yX2_guess, Cond.code yX2_guess cX2_guess 1 (some .int), Cond.fieldLink RX2 9 "BitMixer$Model" "counters" "[I", Cond.fieldLink RX2 63 "BitMixer$Model" "place" "I", Cond.methodLink RX3 93 yX2_adjustCounter, Cond.instanceMethod yX2_adjustCounter, Cond.selects RX2 yX2_adjustCounter yX2_adjustCounter, Cond.code yX2_adjustCounter cX2_adjustCounter 3 none, Cond.fieldLink RX2 26 "BitMixer$Model" "rate" "I", Cond.fieldLink RX2 15 "BitMixer$Model" "seen" "[J", Cond.fieldLink RX2 55 "BitMixer$Model" "sight" "J", Cond.fieldLink RX2 47 "BitMixer$Model" "collisionTotal" "I", Cond.methodLink RX3 97 yX3_step, Cond.instanceMethod yX3_step, Cond.selects RX3 yX3_step yX3_step, Cond.initialized RX3, Cond.code yX3_step cX3_step 3 none, Cond.fieldLink RX3 42 "BitMixer$Predictor" "treeNode" "I", Cond.fieldLink RX3 22 "BitMixer$Predictor" "latest" "[I", Cond.methodLink RX3 55 yX3_readContexts, Cond.instanceMethod yX3_readContexts, Cond.selects RX3 yX3_readContexts yX3_readContexts, Cond.code yX3_readContexts cX3_readContexts 2 none, Cond.methodLink RX3 61 yX2_readContext]
def wsX3_learn_r3 : List Cond := [Cond.instanceMethod yX2_readContext, Cond.selects RX2 yX2_readContext yX2_readContext, Cond.code yX2_readContext cX2_readContext 4 none, Cond.fieldLink RX2 22 "BitMixer$Model" "order" "I", Cond.fieldLink RX2 50 "BitMixer$Model" "context" "I", Cond.methodLink RX3 58 yX3_aimModels, Cond.instanceMethod yX3_aimModels, Cond.selects RX3 yX3_aimModels yX3_aimModels, Cond.code yX3_aimModels cX3_aimModels 2 none, Cond.methodLink RX3 65 yX2_aim, Cond.instanceMethod yX2_aim, Cond.selects RX2 yX2_aim yX2_aim, Cond.code yX2_aim cX2_aim 2 none, Cond.constantLong RX2 53 (256), Cond.methodLink RX2 59 yX2_tableSize, Cond.instanceMethod yX2_tableSize, Cond.selects RX2 yX2_tableSize yX2_tableSize, Cond.code yX2_tableSize cX2_tableSize 1 (some .int), Cond.fieldLink RX2 29 "BitMixer$Model" "t" "I"]
def wsX3_learn : List Cond := .code yX3_learn cX3_learn 5 none :: ((wsX3_learn_r1 ++ (wsX3_learn_r2 ++ wsX3_learn_r3)) ++ wsX30 ++ wsX20)
def wsX3_heaviest : List Cond := .code yX3_heaviest cX3_heaviest 4 (some .int) :: ([.fieldLink RX3 18 "BitMixer$Predictor" "modelTotal" "I", .fieldLink RX3 11 "BitMixer$Predictor" "models" "[LBitMixer$Model;", .fieldLink RX3 69 "BitMixer$Model" "weights" "[I", .fieldLink RX3 45 "BitMixer$Predictor" "phase" "I"] ++ wsX30 ++ wsX20)
def wsX4_init_r1 : List Cond := [Cond.methodLink RX4 3 objectInit, Cond.instanceMethod objectInit, Cond.code objectInit ⟨#[0xb1]⟩ 1 none, Cond.classLink RX4 9 RX0, Cond.instantiable RX0 2, Cond.initialized RX0, Cond.fieldLink RX4 14 "BitMixer" "text" "LBitMixer$ByteRow;", Cond.fieldLink RX4 18 "BitMixer" "encoded" "LBitMixer$ByteRow;", Cond.fieldLink RX4 21 "BitMixer" "decoded" "LBitMixer$ByteRow;", Cond.classLink RX4 24 RX3, Cond.instantiable RX3 7, Cond.initialized RX3, Cond.fieldLink RX4 27 "BitMixer" "predictor" "LBitMixer$Predictor;", Cond.classLink RX4 31 RX1, Cond.instantiable RX1 4, Cond.initialized RX1, Cond.fieldLink RX4 34 "BitMixer" "interval" "LBitMixer$Interval;", Cond.methodLink RX4 11 yX0_init, Cond.instanceMethod yX0_init, Cond.code yX0_init cX0_init 2 none, Cond.methodLink RX0 1 objectInit, Cond.methodLink RX0 7 Lib.Math.max.name, Cond.static Lib.Math.max.name, Cond.initialized "java/lang/Math"]
def wsX4_init_r2 : List Cond := [Cond.code Lib.Math.max.name Lib.Math.max.code 2 (some .int), Cond.arrayClass .int, Cond.fieldLink RX0 13 "BitMixer$ByteRow" "bytes" "[I", Cond.fieldLink RX0 19 "BitMixer$ByteRow" "count" "I", Cond.methodLink RX4 26 yX3_init, Cond.instanceMethod yX3_init, Cond.code yX3_init cX3_init 2 none, Cond.methodLink RX3 3 objectInit, Cond.classLink RX3 9 RX2, Cond.fieldLink RX3 11 "BitMixer$Predictor" "models" "[LBitMixer$Model;", Cond.instantiable RX2 10, Cond.initialized RX2, Cond.fieldLink RX3 18 "BitMixer$Predictor" "modelTotal" "I", Cond.fieldLink RX3 22 "BitMixer$Predictor" "latest" "[I", Cond.methodLink RX3 17 yX2_init, Cond.instanceMethod yX2_init, Cond.code yX2_init cX2_init 1 none, Cond.methodLink RX2 3 objectInit, Cond.fieldLink RX2 9 "BitMixer$Model" "counters" "[I", Cond.arrayClass .long, Cond.fieldLink RX2 15 "BitMixer$Model" "seen" "[J", Cond.fieldLink RX2 19 "BitMixer$Model" "weights" "[I", Cond.methodLink RX3 26 yX3_restart, Cond.instanceMethod yX3_restart]
def wsX4_init_r3 : List Cond := [Cond.selects RX3 yX3_restart yX3_restart, Cond.code yX3_restart cX3_restart 2 none, Cond.fieldLink RX3 42 "BitMixer$Predictor" "treeNode" "I", Cond.fieldLink RX3 45 "BitMixer$Predictor" "phase" "I", Cond.fieldLink RX3 48 "BitMixer$Predictor" "bitTotal" "I", Cond.fieldLink RX3 51 "BitMixer$Predictor" "errorSum" "J", Cond.methodLink RX3 33 yX2_forget, Cond.instanceMethod yX2_forget, Cond.selects RX2 yX2_forget yX2_forget, Cond.code yX2_forget cX2_forget 1 none, Cond.fieldLink RX2 47 "BitMixer$Model" "collisionTotal" "I", Cond.methodLink RX2 38 yJ7_fill_53178, Cond.static yJ7_fill_53178, Cond.initialized RJ7, Cond.code yJ7_fill_53178 cJ7_fill_53178 4 none, Cond.methodLink RX2 44 yJ7_fill_d0a16, Cond.static yJ7_fill_d0a16, Cond.code yJ7_fill_d0a16 cJ7_fill_d0a16 5 none, Cond.methodLink RX3 36 yJ7_fill_53178, Cond.methodLink RX3 55 yX3_readContexts, Cond.instanceMethod yX3_readContexts, Cond.selects RX3 yX3_readContexts yX3_readContexts, Cond.code yX3_readContexts cX3_readContexts 2 none, Cond.methodLink RX3 61 yX2_readContext]
def wsX4_init_r4 : List Cond := [Cond.instanceMethod yX2_readContext, Cond.selects RX2 yX2_readContext yX2_readContext, Cond.code yX2_readContext cX2_readContext 4 none, Cond.fieldLink RX2 22 "BitMixer$Model" "order" "I", Cond.fieldLink RX2 50 "BitMixer$Model" "context" "I", Cond.methodLink RX3 58 yX3_aimModels, Cond.instanceMethod yX3_aimModels, Cond.selects RX3 yX3_aimModels yX3_aimModels, Cond.code yX3_aimModels cX3_aimModels 2 none, Cond.methodLink RX3 65 yX2_aim, Cond.instanceMethod yX2_aim, Cond.selects RX2 yX2_aim yX2_aim, Cond.code yX2_aim cX2_aim 2 none, Cond.constantLong RX2 53 (256), Cond.fieldLink RX2 55 "BitMixer$Model" "sight" "J", Cond.fieldLink RX2 63 "BitMixer$Model" "place" "I", Cond.methodLink RX2 59 yX2_tableSize, Cond.instanceMethod yX2_tableSize, Cond.selects RX2 yX2_tableSize yX2_tableSize, Cond.code yX2_tableSize cX2_tableSize 1 (some .int), Cond.fieldLink RX2 29 "BitMixer$Model" "t" "I", Cond.methodLink RX2 32 Lib.Math.min.name, Cond.static Lib.Math.min.name, Cond.code Lib.Math.min.name Lib.Math.min.code 2 (some .int)]
def wsX4_init_r5 : List Cond := [Cond.methodLink RX4 33 yX1_init, Cond.instanceMethod yX1_init, Cond.code yX1_init cX1_init 1 none, Cond.methodLink RX1 3 objectInit, Cond.methodLink RX1 9 yX1_open, Cond.instanceMethod yX1_open, Cond.selects RX1 yX1_open yX1_open, Cond.code yX1_open cX1_open 1 none, Cond.fieldLink RX1 14 "BitMixer$Interval" "low" "J", Cond.constantLong RX1 18 (4294967295), Cond.fieldLink RX1 20 "BitMixer$Interval" "high" "J", Cond.fieldLink RX1 23 "BitMixer$Interval" "x" "J", Cond.fieldLink RX1 26 "BitMixer$Interval" "next" "I"]
def wsX4_init : List Cond := .code yX4_init cX4_init 1 none :: ((wsX4_init_r1 ++ (wsX4_init_r2 ++ (wsX4_init_r3 ++ (wsX4_init_r4 ++ wsX4_init_r5)))) ++ wsX00 ++ wsX40 ++ wsX30 ++ wsX10 ++ wsX20)
def wsX4_requireRate : List Cond := .code yX4_requireRate cX4_requireRate 1 none :: ([.classLink RX4 38 "java/lang/IllegalArgumentException", .initialized "java/lang/IllegalArgumentException"] ++ (vx_atS RX4 42 "java/lang/IllegalArgumentException" ["java/lang/RuntimeException", "java/lang/Exception"]).filter goodWord)
def wsX4_addModel_r1 : List Cond := [Cond.classLink RX4 38 "java/lang/IllegalArgumentException", Cond.initialized "java/lang/IllegalArgumentException", Cond.classLink RX4 54 "java/lang/IllegalStateException", Cond.initialized "java/lang/IllegalStateException", Cond.fieldLink RX4 27 "BitMixer" "predictor" "LBitMixer$Predictor;", Cond.fieldLink RX4 50 "BitMixer$Predictor" "modelTotal" "I", Cond.methodLink RX4 45 yX4_requireRate, Cond.static yX4_requireRate, Cond.initialized RX4, Cond.code yX4_requireRate cX4_requireRate 1 none, Cond.methodLink RX4 59 yX3_takeModel, Cond.instanceMethod yX3_takeModel, Cond.selects RX3 yX3_takeModel yX3_takeModel, Cond.initialized RX3, Cond.code yX3_takeModel cX3_takeModel 4 none, Cond.fieldLink RX3 18 "BitMixer$Predictor" "modelTotal" "I", Cond.fieldLink RX3 11 "BitMixer$Predictor" "models" "[LBitMixer$Model;", Cond.methodLink RX3 29 yX2_shape, Cond.instanceMethod yX2_shape, Cond.selects RX2 yX2_shape yX2_shape, Cond.initialized RX2, Cond.code yX2_shape cX2_shape 4 none, Cond.fieldLink RX2 22 "BitMixer$Model" "order" "I", Cond.fieldLink RX2 26 "BitMixer$Model" "rate" "I"]
def wsX4_addModel_r2 : List Cond := [Cond.fieldLink RX2 29 "BitMixer$Model" "t" "I", Cond.methodLink RX3 26 yX3_restart, Cond.instanceMethod yX3_restart, Cond.selects RX3 yX3_restart yX3_restart, Cond.code yX3_restart cX3_restart 2 none, Cond.fieldLink RX3 22 "BitMixer$Predictor" "latest" "[I", Cond.fieldLink RX3 42 "BitMixer$Predictor" "treeNode" "I", Cond.fieldLink RX3 45 "BitMixer$Predictor" "phase" "I", Cond.fieldLink RX3 48 "BitMixer$Predictor" "bitTotal" "I", Cond.fieldLink RX3 51 "BitMixer$Predictor" "errorSum" "J", Cond.methodLink RX3 33 yX2_forget, Cond.instanceMethod yX2_forget, Cond.selects RX2 yX2_forget yX2_forget, Cond.code yX2_forget cX2_forget 1 none, Cond.fieldLink RX2 9 "BitMixer$Model" "counters" "[I", Cond.fieldLink RX2 15 "BitMixer$Model" "seen" "[J", Cond.fieldLink RX2 19 "BitMixer$Model" "weights" "[I", Cond.fieldLink RX2 47 "BitMixer$Model" "collisionTotal" "I", Cond.methodLink RX2 38 yJ7_fill_53178, Cond.static yJ7_fill_53178, Cond.initialized RJ7, Cond.code yJ7_fill_53178 cJ7_fill_53178 4 none, Cond.methodLink RX2 44 yJ7_fill_d0a16, Cond.static yJ7_fill_d0a16]
def wsX4_addModel_r3 : List Cond := [Cond.code yJ7_fill_d0a16 cJ7_fill_d0a16 5 none, Cond.methodLink RX3 36 yJ7_fill_53178, Cond.methodLink RX3 55 yX3_readContexts, Cond.instanceMethod yX3_readContexts, Cond.selects RX3 yX3_readContexts yX3_readContexts, Cond.code yX3_readContexts cX3_readContexts 2 none, Cond.methodLink RX3 61 yX2_readContext, Cond.instanceMethod yX2_readContext, Cond.selects RX2 yX2_readContext yX2_readContext, Cond.code yX2_readContext cX2_readContext 4 none, Cond.fieldLink RX2 50 "BitMixer$Model" "context" "I", Cond.methodLink RX3 58 yX3_aimModels, Cond.instanceMethod yX3_aimModels, Cond.selects RX3 yX3_aimModels yX3_aimModels, Cond.code yX3_aimModels cX3_aimModels 2 none, Cond.methodLink RX3 65 yX2_aim, Cond.instanceMethod yX2_aim, Cond.selects RX2 yX2_aim yX2_aim, Cond.code yX2_aim cX2_aim 2 none, Cond.constantLong RX2 53 (256), Cond.fieldLink RX2 55 "BitMixer$Model" "sight" "J", Cond.fieldLink RX2 63 "BitMixer$Model" "place" "I", Cond.methodLink RX2 59 yX2_tableSize, Cond.instanceMethod yX2_tableSize]
def wsX4_addModel_r4 : List Cond := [Cond.selects RX2 yX2_tableSize yX2_tableSize, Cond.code yX2_tableSize cX2_tableSize 1 (some .int), Cond.methodLink RX2 32 Lib.Math.min.name, Cond.static Lib.Math.min.name, Cond.initialized "java/lang/Math", Cond.code Lib.Math.min.name Lib.Math.min.code 2 (some .int)]
def wsX4_addModel : List Cond := .code yX4_addModel cX4_addModel 4 (some .int) :: ((wsX4_addModel_r1 ++ (wsX4_addModel_r2 ++ (wsX4_addModel_r3 ++ wsX4_addModel_r4))) ++ wsX40 ++ wsX30 ++ wsX20 ++ (vx_atS RX4 42 "java/lang/IllegalArgumentException" ["java/lang/RuntimeException", "java/lang/Exception"]).filter goodWord ++ (vx_atS RX4 58 "java/lang/IllegalStateException" ["java/lang/RuntimeException", "java/lang/Exception"]).filter goodWord)
def wsX4_removeModel_r1 : List Cond := [Cond.classLink RX4 54 "java/lang/IllegalStateException", Cond.initialized "java/lang/IllegalStateException", Cond.fieldLink RX4 27 "BitMixer" "predictor" "LBitMixer$Predictor;", Cond.fieldLink RX4 50 "BitMixer$Predictor" "modelTotal" "I", Cond.methodLink RX4 65 yX3_dropModel, Cond.instanceMethod yX3_dropModel, Cond.selects RX3 yX3_dropModel yX3_dropModel, Cond.initialized RX3, Cond.code yX3_dropModel cX3_dropModel 1 none, Cond.fieldLink RX3 18 "BitMixer$Predictor" "modelTotal" "I", Cond.methodLink RX3 26 yX3_restart, Cond.instanceMethod yX3_restart, Cond.selects RX3 yX3_restart yX3_restart, Cond.code yX3_restart cX3_restart 2 none, Cond.fieldLink RX3 11 "BitMixer$Predictor" "models" "[LBitMixer$Model;", Cond.fieldLink RX3 22 "BitMixer$Predictor" "latest" "[I", Cond.fieldLink RX3 42 "BitMixer$Predictor" "treeNode" "I", Cond.fieldLink RX3 45 "BitMixer$Predictor" "phase" "I", Cond.fieldLink RX3 48 "BitMixer$Predictor" "bitTotal" "I", Cond.fieldLink RX3 51 "BitMixer$Predictor" "errorSum" "J", Cond.methodLink RX3 33 yX2_forget, Cond.instanceMethod yX2_forget, Cond.selects RX2 yX2_forget yX2_forget, Cond.initialized RX2]
def wsX4_removeModel_r2 : List Cond := [Cond.code yX2_forget cX2_forget 1 none, Cond.fieldLink RX2 9 "BitMixer$Model" "counters" "[I", Cond.fieldLink RX2 15 "BitMixer$Model" "seen" "[J", Cond.fieldLink RX2 19 "BitMixer$Model" "weights" "[I", Cond.fieldLink RX2 47 "BitMixer$Model" "collisionTotal" "I", Cond.methodLink RX2 38 yJ7_fill_53178, Cond.static yJ7_fill_53178, Cond.initialized RJ7, Cond.code yJ7_fill_53178 cJ7_fill_53178 4 none, Cond.methodLink RX2 44 yJ7_fill_d0a16, Cond.static yJ7_fill_d0a16, Cond.code yJ7_fill_d0a16 cJ7_fill_d0a16 5 none, Cond.methodLink RX3 36 yJ7_fill_53178, Cond.methodLink RX3 55 yX3_readContexts, Cond.instanceMethod yX3_readContexts, Cond.selects RX3 yX3_readContexts yX3_readContexts, Cond.code yX3_readContexts cX3_readContexts 2 none, Cond.methodLink RX3 61 yX2_readContext, Cond.instanceMethod yX2_readContext, Cond.selects RX2 yX2_readContext yX2_readContext, Cond.code yX2_readContext cX2_readContext 4 none, Cond.fieldLink RX2 22 "BitMixer$Model" "order" "I", Cond.fieldLink RX2 50 "BitMixer$Model" "context" "I", Cond.methodLink RX3 58 yX3_aimModels]
def wsX4_removeModel_r3 : List Cond := [Cond.instanceMethod yX3_aimModels, Cond.selects RX3 yX3_aimModels yX3_aimModels, Cond.code yX3_aimModels cX3_aimModels 2 none, Cond.methodLink RX3 65 yX2_aim, Cond.instanceMethod yX2_aim, Cond.selects RX2 yX2_aim yX2_aim, Cond.code yX2_aim cX2_aim 2 none, Cond.constantLong RX2 53 (256), Cond.fieldLink RX2 55 "BitMixer$Model" "sight" "J", Cond.fieldLink RX2 63 "BitMixer$Model" "place" "I", Cond.methodLink RX2 59 yX2_tableSize, Cond.instanceMethod yX2_tableSize, Cond.selects RX2 yX2_tableSize yX2_tableSize, Cond.code yX2_tableSize cX2_tableSize 1 (some .int), Cond.fieldLink RX2 29 "BitMixer$Model" "t" "I", Cond.methodLink RX2 32 Lib.Math.min.name, Cond.static Lib.Math.min.name, Cond.initialized "java/lang/Math", Cond.code Lib.Math.min.name Lib.Math.min.code 2 (some .int)]
def wsX4_removeModel : List Cond := .code yX4_removeModel cX4_removeModel 1 (some .int) :: ((wsX4_removeModel_r1 ++ (wsX4_removeModel_r2 ++ wsX4_removeModel_r3)) ++ wsX40 ++ wsX30 ++ wsX20 ++ (vx_atS RX4 58 "java/lang/IllegalStateException" ["java/lang/RuntimeException", "java/lang/Exception"]).filter goodWord)
def wsX4_requireModel : List Cond := .code yX4_requireModel cX4_requireModel 2 (some (.object "BitMixer$Model")) :: ([.classLink RX4 127 "java/lang/IndexOutOfBoundsException", .initialized "java/lang/IndexOutOfBoundsException", .fieldLink RX4 27 "BitMixer" "predictor" "LBitMixer$Predictor;", .fieldLink RX4 50 "BitMixer$Predictor" "modelTotal" "I", .fieldLink RX4 207 "BitMixer$Predictor" "models" "[LBitMixer$Model;"] ++ wsX40 ++ wsX30 ++ (vx_atS RX4 131 "java/lang/IndexOutOfBoundsException" ["java/lang/RuntimeException", "java/lang/Exception"]).filter goodWord)
def wsX4_setRate_r1 : List Cond := [Cond.fieldLink RX4 72 "BitMixer$Model" "rate" "I", Cond.fieldLink RX4 27 "BitMixer" "predictor" "LBitMixer$Predictor;", Cond.methodLink RX4 68 yX4_requireModel, Cond.instanceMethod yX4_requireModel, Cond.selects RX4 yX4_requireModel yX4_requireModel, Cond.initialized RX4, Cond.code yX4_requireModel cX4_requireModel 2 (some (.object "BitMixer$Model")), Cond.classLink RX4 127 "java/lang/IndexOutOfBoundsException", Cond.initialized "java/lang/IndexOutOfBoundsException", Cond.fieldLink RX4 50 "BitMixer$Predictor" "modelTotal" "I", Cond.fieldLink RX4 207 "BitMixer$Predictor" "models" "[LBitMixer$Model;", Cond.methodLink RX4 45 yX4_requireRate, Cond.static yX4_requireRate, Cond.code yX4_requireRate cX4_requireRate 1 none, Cond.classLink RX4 38 "java/lang/IllegalArgumentException", Cond.initialized "java/lang/IllegalArgumentException", Cond.methodLink RX4 77 yX3_restart, Cond.instanceMethod yX3_restart, Cond.selects RX3 yX3_restart yX3_restart, Cond.initialized RX3, Cond.code yX3_restart cX3_restart 2 none, Cond.fieldLink RX3 18 "BitMixer$Predictor" "modelTotal" "I", Cond.fieldLink RX3 11 "BitMixer$Predictor" "models" "[LBitMixer$Model;", Cond.fieldLink RX3 22 "BitMixer$Predictor" "latest" "[I"]
def wsX4_setRate_r2 : List Cond := [Cond.fieldLink RX3 42 "BitMixer$Predictor" "treeNode" "I", Cond.fieldLink RX3 45 "BitMixer$Predictor" "phase" "I", Cond.fieldLink RX3 48 "BitMixer$Predictor" "bitTotal" "I", Cond.fieldLink RX3 51 "BitMixer$Predictor" "errorSum" "J", Cond.methodLink RX3 33 yX2_forget, Cond.instanceMethod yX2_forget, Cond.selects RX2 yX2_forget yX2_forget, Cond.initialized RX2, Cond.code yX2_forget cX2_forget 1 none, Cond.fieldLink RX2 9 "BitMixer$Model" "counters" "[I", Cond.fieldLink RX2 15 "BitMixer$Model" "seen" "[J", Cond.fieldLink RX2 19 "BitMixer$Model" "weights" "[I", Cond.fieldLink RX2 47 "BitMixer$Model" "collisionTotal" "I", Cond.methodLink RX2 38 yJ7_fill_53178, Cond.static yJ7_fill_53178, Cond.initialized RJ7, Cond.code yJ7_fill_53178 cJ7_fill_53178 4 none, Cond.methodLink RX2 44 yJ7_fill_d0a16, Cond.static yJ7_fill_d0a16, Cond.code yJ7_fill_d0a16 cJ7_fill_d0a16 5 none, Cond.methodLink RX3 36 yJ7_fill_53178, Cond.methodLink RX3 55 yX3_readContexts, Cond.instanceMethod yX3_readContexts, Cond.selects RX3 yX3_readContexts yX3_readContexts]
def wsX4_setRate_r3 : List Cond := [Cond.code yX3_readContexts cX3_readContexts 2 none, Cond.methodLink RX3 61 yX2_readContext, Cond.instanceMethod yX2_readContext, Cond.selects RX2 yX2_readContext yX2_readContext, Cond.code yX2_readContext cX2_readContext 4 none, Cond.fieldLink RX2 22 "BitMixer$Model" "order" "I", Cond.fieldLink RX2 50 "BitMixer$Model" "context" "I", Cond.methodLink RX3 58 yX3_aimModels, Cond.instanceMethod yX3_aimModels, Cond.selects RX3 yX3_aimModels yX3_aimModels, Cond.code yX3_aimModels cX3_aimModels 2 none, Cond.methodLink RX3 65 yX2_aim, Cond.instanceMethod yX2_aim, Cond.selects RX2 yX2_aim yX2_aim, Cond.code yX2_aim cX2_aim 2 none, Cond.constantLong RX2 53 (256), Cond.fieldLink RX2 55 "BitMixer$Model" "sight" "J", Cond.fieldLink RX2 63 "BitMixer$Model" "place" "I", Cond.methodLink RX2 59 yX2_tableSize, Cond.instanceMethod yX2_tableSize, Cond.selects RX2 yX2_tableSize yX2_tableSize, Cond.code yX2_tableSize cX2_tableSize 1 (some .int), Cond.fieldLink RX2 29 "BitMixer$Model" "t" "I", Cond.methodLink RX2 32 Lib.Math.min.name]
def wsX4_setRate_r4 : List Cond := [Cond.static Lib.Math.min.name, Cond.initialized "java/lang/Math", Cond.code Lib.Math.min.name Lib.Math.min.code 2 (some .int)]
def wsX4_setRate : List Cond := .code yX4_setRate cX4_setRate 5 (some .int) :: ((wsX4_setRate_r1 ++ (wsX4_setRate_r2 ++ (wsX4_setRate_r3 ++ wsX4_setRate_r4))) ++ wsX20 ++ wsX40 ++ wsX30 ++ (vx_atS RX4 131 "java/lang/IndexOutOfBoundsException" ["java/lang/RuntimeException", "java/lang/Exception"]).filter goodWord ++ (vx_atS RX4 42 "java/lang/IllegalArgumentException" ["java/lang/RuntimeException", "java/lang/Exception"]).filter goodWord)
def wsX4_modelCount : List Cond := .code yX4_modelCount cX4_modelCount 1 (some .int) :: ([.fieldLink RX4 27 "BitMixer" "predictor" "LBitMixer$Predictor;", .fieldLink RX4 50 "BitMixer$Predictor" "modelTotal" "I"] ++ wsX40 ++ wsX30)
def wsX4_requireRoom : List Cond := .code yX4_requireRoom cX4_requireRoom 2 none :: ([.classLink RX4 54 "java/lang/IllegalStateException", .initialized "java/lang/IllegalStateException", .fieldLink RX4 14 "BitMixer" "text" "LBitMixer$ByteRow;", .fieldLink RX4 88 "BitMixer$ByteRow" "count" "I"] ++ wsX40 ++ wsX00 ++ (vx_atS RX4 58 "java/lang/IllegalStateException" ["java/lang/RuntimeException", "java/lang/Exception"]).filter goodWord)
def wsX4_feed : List Cond := .code yX4_feed cX4_feed 5 (some .int) :: ([.classLink RX4 38 "java/lang/IllegalArgumentException", .initialized "java/lang/IllegalArgumentException", .fieldLink RX4 14 "BitMixer" "text" "LBitMixer$ByteRow;", .fieldLink RX4 88 "BitMixer$ByteRow" "count" "I", .methodLink RX4 82 yX4_requireRoom, .instanceMethod yX4_requireRoom, .selects RX4 yX4_requireRoom yX4_requireRoom, .initialized RX4, .code yX4_requireRoom cX4_requireRoom 2 none, .classLink RX4 54 "java/lang/IllegalStateException", .initialized "java/lang/IllegalStateException", .methodLink RX4 85 yX0_append, .instanceMethod yX0_append, .selects RX0 yX0_append yX0_append, .initialized RX0, .code yX0_append cX0_append 2 none, .fieldLink RX0 19 "BitMixer$ByteRow" "count" "I", .fieldLink RX0 13 "BitMixer$ByteRow" "bytes" "[I"] ++ wsX40 ++ wsX00 ++ (vx_atS RX4 42 "java/lang/IllegalArgumentException" ["java/lang/RuntimeException", "java/lang/Exception"]).filter goodWord ++ (vx_atS RX4 58 "java/lang/IllegalStateException" ["java/lang/RuntimeException", "java/lang/Exception"]).filter goodWord)
def wsX4_requireByte : List Cond := .code yX4_requireByte cX4_requireByte 1 none :: ([.classLink RX4 38 "java/lang/IllegalArgumentException", .initialized "java/lang/IllegalArgumentException"] ++ (vx_atS RX4 42 "java/lang/IllegalArgumentException" ["java/lang/RuntimeException", "java/lang/Exception"]).filter goodWord)
def wsX4_fill : List Cond := .code yX4_fill cX4_fill 4 (some .int) :: ([.classLink RX4 38 "java/lang/IllegalArgumentException", .initialized "java/lang/IllegalArgumentException", .fieldLink RX4 14 "BitMixer" "text" "LBitMixer$ByteRow;", .fieldLink RX4 88 "BitMixer$ByteRow" "count" "I", .methodLink RX4 91 yX4_requireByte, .static yX4_requireByte, .initialized RX4, .code yX4_requireByte cX4_requireByte 1 none, .methodLink RX4 82 yX4_requireRoom, .instanceMethod yX4_requireRoom, .selects RX4 yX4_requireRoom yX4_requireRoom, .code yX4_requireRoom cX4_requireRoom 2 none, .classLink RX4 54 "java/lang/IllegalStateException", .initialized "java/lang/IllegalStateException", .methodLink RX4 85 yX0_append, .instanceMethod yX0_append, .selects RX0 yX0_append yX0_append, .initialized RX0, .code yX0_append cX0_append 2 none, .fieldLink RX0 19 "BitMixer$ByteRow" "count" "I", .fieldLink RX0 13 "BitMixer$ByteRow" "bytes" "[I"] ++ wsX40 ++ wsX00 ++ (vx_atS RX4 42 "java/lang/IllegalArgumentException" ["java/lang/RuntimeException", "java/lang/Exception"]).filter goodWord ++ (vx_atS RX4 58 "java/lang/IllegalStateException" ["java/lang/RuntimeException", "java/lang/Exception"]).filter goodWord)
def wsX4_shorten : List Cond := .code yX4_shorten cX4_shorten 2 (some .int) :: ([.classLink RX4 38 "java/lang/IllegalArgumentException", .initialized "java/lang/IllegalArgumentException", .fieldLink RX4 88 "BitMixer$ByteRow" "count" "I"] ++ wsX00 ++ (vx_atS RX4 42 "java/lang/IllegalArgumentException" ["java/lang/RuntimeException", "java/lang/Exception"]).filter goodWord)
def wsX4_cut : List Cond := .code yX4_cut cX4_cut 2 (some .int) :: ([.fieldLink RX4 14 "BitMixer" "text" "LBitMixer$ByteRow;", .methodLink RX4 96 yX4_shorten, .static yX4_shorten, .initialized RX4, .code yX4_shorten cX4_shorten 2 (some .int), .classLink RX4 38 "java/lang/IllegalArgumentException", .initialized "java/lang/IllegalArgumentException", .fieldLink RX4 88 "BitMixer$ByteRow" "count" "I"] ++ wsX40 ++ wsX00 ++ (vx_atS RX4 42 "java/lang/IllegalArgumentException" ["java/lang/RuntimeException", "java/lang/Exception"]).filter goodWord)
def wsX4_size : List Cond := .code yX4_size cX4_size 1 (some .int) :: ([.fieldLink RX4 14 "BitMixer" "text" "LBitMixer$ByteRow;", .fieldLink RX4 88 "BitMixer$ByteRow" "count" "I"] ++ wsX40 ++ wsX00)
def wsX4_requirePlace : List Cond := .code yX4_requirePlace cX4_requirePlace 2 (some .int) :: ([.classLink RX4 127 "java/lang/IndexOutOfBoundsException", .initialized "java/lang/IndexOutOfBoundsException", .methodLink RX4 217 yX0_has, .instanceMethod yX0_has, .selects RX0 yX0_has yX0_has, .initialized RX0, .code yX0_has cX0_has 2 (some .boolean), .fieldLink RX0 19 "BitMixer$ByteRow" "count" "I", .fieldLink RX0 13 "BitMixer$ByteRow" "bytes" "[I", .methodLink RX4 167 yX0_at, .instanceMethod yX0_at, .selects RX0 yX0_at yX0_at, .code yX0_at cX0_at 2 (some .int), .methodLink RX0 23 yX0_has] ++ wsX00 ++ (vx_atS RX4 131 "java/lang/IndexOutOfBoundsException" ["java/lang/RuntimeException", "java/lang/Exception"]).filter goodWord)
def wsX4_byteAt : List Cond := .code yX4_byteAt cX4_byteAt 2 (some .int) :: ([.fieldLink RX4 14 "BitMixer" "text" "LBitMixer$ByteRow;", .methodLink RX4 100 yX4_requirePlace, .static yX4_requirePlace, .initialized RX4, .code yX4_requirePlace cX4_requirePlace 2 (some .int), .classLink RX4 127 "java/lang/IndexOutOfBoundsException", .initialized "java/lang/IndexOutOfBoundsException", .methodLink RX4 217 yX0_has, .instanceMethod yX0_has, .selects RX0 yX0_has yX0_has, .initialized RX0, .code yX0_has cX0_has 2 (some .boolean), .fieldLink RX0 19 "BitMixer$ByteRow" "count" "I", .fieldLink RX0 13 "BitMixer$ByteRow" "bytes" "[I", .methodLink RX4 167 yX0_at, .instanceMethod yX0_at, .selects RX0 yX0_at yX0_at, .code yX0_at cX0_at 2 (some .int), .methodLink RX0 23 yX0_has] ++ wsX40 ++ wsX00 ++ (vx_atS RX4 131 "java/lang/IndexOutOfBoundsException" ["java/lang/RuntimeException", "java/lang/Exception"]).filter goodWord)
def wsX4_reset_r1 : List Cond := [Cond.fieldLink RX4 27 "BitMixer" "predictor" "LBitMixer$Predictor;", Cond.fieldLink RX4 103 "BitMixer$Predictor" "bitTotal" "I", Cond.methodLink RX4 77 yX3_restart, Cond.instanceMethod yX3_restart, Cond.selects RX3 yX3_restart yX3_restart, Cond.initialized RX3, Cond.code yX3_restart cX3_restart 2 none, Cond.fieldLink RX3 18 "BitMixer$Predictor" "modelTotal" "I", Cond.fieldLink RX3 11 "BitMixer$Predictor" "models" "[LBitMixer$Model;", Cond.fieldLink RX3 22 "BitMixer$Predictor" "latest" "[I", Cond.fieldLink RX3 42 "BitMixer$Predictor" "treeNode" "I", Cond.fieldLink RX3 45 "BitMixer$Predictor" "phase" "I", Cond.fieldLink RX3 48 "BitMixer$Predictor" "bitTotal" "I", Cond.fieldLink RX3 51 "BitMixer$Predictor" "errorSum" "J", Cond.methodLink RX3 33 yX2_forget, Cond.instanceMethod yX2_forget, Cond.selects RX2 yX2_forget yX2_forget, Cond.initialized RX2, Cond.code yX2_forget cX2_forget 1 none, Cond.fieldLink RX2 9 "BitMixer$Model" "counters" "[I", Cond.fieldLink RX2 15 "BitMixer$Model" "seen" "[J", Cond.fieldLink RX2 19 "BitMixer$Model" "weights" "[I", Cond.fieldLink RX2 47 "BitMixer$Model" "collisionTotal" "I", Cond.methodLink RX2 38 yJ7_fill_53178]
def wsX4_reset_r2 : List Cond := [Cond.static yJ7_fill_53178, Cond.initialized RJ7, Cond.code yJ7_fill_53178 cJ7_fill_53178 4 none, Cond.methodLink RX2 44 yJ7_fill_d0a16, Cond.static yJ7_fill_d0a16, Cond.code yJ7_fill_d0a16 cJ7_fill_d0a16 5 none, Cond.methodLink RX3 36 yJ7_fill_53178, Cond.methodLink RX3 55 yX3_readContexts, Cond.instanceMethod yX3_readContexts, Cond.selects RX3 yX3_readContexts yX3_readContexts, Cond.code yX3_readContexts cX3_readContexts 2 none, Cond.methodLink RX3 61 yX2_readContext, Cond.instanceMethod yX2_readContext, Cond.selects RX2 yX2_readContext yX2_readContext, Cond.code yX2_readContext cX2_readContext 4 none, Cond.fieldLink RX2 22 "BitMixer$Model" "order" "I", Cond.fieldLink RX2 50 "BitMixer$Model" "context" "I", Cond.methodLink RX3 58 yX3_aimModels, Cond.instanceMethod yX3_aimModels, Cond.selects RX3 yX3_aimModels yX3_aimModels, Cond.code yX3_aimModels cX3_aimModels 2 none, Cond.methodLink RX3 65 yX2_aim, Cond.instanceMethod yX2_aim, Cond.selects RX2 yX2_aim yX2_aim]
def wsX4_reset_r3 : List Cond := [Cond.code yX2_aim cX2_aim 2 none, Cond.constantLong RX2 53 (256), Cond.fieldLink RX2 55 "BitMixer$Model" "sight" "J", Cond.fieldLink RX2 63 "BitMixer$Model" "place" "I", Cond.methodLink RX2 59 yX2_tableSize, Cond.instanceMethod yX2_tableSize, Cond.selects RX2 yX2_tableSize yX2_tableSize, Cond.code yX2_tableSize cX2_tableSize 1 (some .int), Cond.fieldLink RX2 29 "BitMixer$Model" "t" "I", Cond.methodLink RX2 32 Lib.Math.min.name, Cond.static Lib.Math.min.name, Cond.initialized "java/lang/Math", Cond.code Lib.Math.min.name Lib.Math.min.code 2 (some .int)]
def wsX4_reset : List Cond := .code yX4_reset cX4_reset 2 (some .int) :: ((wsX4_reset_r1 ++ (wsX4_reset_r2 ++ wsX4_reset_r3)) ++ wsX40 ++ wsX30 ++ wsX20)
def wsX4_observe_r1 : List Cond := [Cond.fieldLink RX4 27 "BitMixer" "predictor" "LBitMixer$Predictor;", Cond.methodLink RX4 106 yX3_mixture, Cond.instanceMethod yX3_mixture, Cond.selects RX3 yX3_mixture yX3_mixture, Cond.initialized RX3, Cond.code yX3_mixture cX3_mixture 5 (some .int), Cond.fieldLink RX3 18 "BitMixer$Predictor" "modelTotal" "I", Cond.fieldLink RX3 11 "BitMixer$Predictor" "models" "[LBitMixer$Model;", Cond.fieldLink RX3 69 "BitMixer$Model" "weights" "[I", Cond.fieldLink RX3 45 "BitMixer$Predictor" "phase" "I", Cond.methodLink RX3 76 Lib.Math.min.name, Cond.static Lib.Math.min.name, Cond.initialized "java/lang/Math", Cond.code Lib.Math.min.name Lib.Math.min.code 2 (some .int), Cond.methodLink RX3 82 Lib.Math.max.name, Cond.static Lib.Math.max.name, Cond.code Lib.Math.max.name Lib.Math.max.code 2 (some .int), Cond.methodLink RX3 72 yX2_guess, Cond.instanceMethod yX2_guess, Cond.selects RX2 yX2_guess yX2_guess, Cond.initialized RX2, Cond.code yX2_guess cX2_guess 1 (some .int), Cond.fieldLink RX2 9 "BitMixer$Model" "counters" "[I", Cond.fieldLink RX2 63 "BitMixer$Model" "place" "I"]
def wsX4_observe_r2 : List Cond := [Cond.methodLink RX4 110 yX3_learn, Cond.instanceMethod yX3_learn, Cond.selects RX3 yX3_learn yX3_learn, Cond.code yX3_learn cX3_learn 5 none, Cond.fieldLink RX3 51 "BitMixer$Predictor" "errorSum" "J", Cond.fieldLink RX3 48 "BitMixer$Predictor" "bitTotal" "I", Cond.static yX4_quality, Cond.initialized RX4, Cond.code yX4_quality cX4_quality 2 (some .int), Cond.methodLink RX3 89 yX2_adjustWeight, Cond.instanceMethod yX2_adjustWeight, Cond.selects RX2 yX2_adjustWeight yX2_adjustWeight, Cond.code yX2_adjustWeight cX2_adjustWeight 6 none, Cond.fieldLink RX2 19 "BitMixer$Model" "weights" "[I", Cond.constant RX2 73 (60000), Cond.methodLink RX2 32 Lib.Math.min.name, Cond.methodLink RX2 74 Lib.Math.max.name, Cond.methodLink RX2 66 yX2_guess, Cond.methodLink RX3 93 yX2_adjustCounter, Cond.instanceMethod yX2_adjustCounter, Cond.selects RX2 yX2_adjustCounter yX2_adjustCounter, Cond.code yX2_adjustCounter cX2_adjustCounter 3 none, Cond.fieldLink RX2 26 "BitMixer$Model" "rate" "I", Cond.fieldLink RX2 15 "BitMixer$Model" "seen" "[J"]
def wsX4_observe_r3 : List Cond := [Cond.fieldLink RX2 55 "BitMixer$Model" "sight" "J", Cond.fieldLink RX2 47 "BitMixer$Model" "collisionTotal" "I", Cond.methodLink RX3 97 yX3_step, Cond.instanceMethod yX3_step, Cond.selects RX3 yX3_step yX3_step, Cond.code yX3_step cX3_step 3 none, Cond.fieldLink RX3 42 "BitMixer$Predictor" "treeNode" "I", Cond.fieldLink RX3 22 "BitMixer$Predictor" "latest" "[I", Cond.methodLink RX3 55 yX3_readContexts, Cond.instanceMethod yX3_readContexts, Cond.selects RX3 yX3_readContexts yX3_readContexts, Cond.code yX3_readContexts cX3_readContexts 2 none, Cond.methodLink RX3 61 yX2_readContext, Cond.instanceMethod yX2_readContext, Cond.selects RX2 yX2_readContext yX2_readContext, Cond.code yX2_readContext cX2_readContext 4 none, Cond.fieldLink RX2 22 "BitMixer$Model" "order" "I", Cond.fieldLink RX2 50 "BitMixer$Model" "context" "I", Cond.methodLink RX3 58 yX3_aimModels, Cond.instanceMethod yX3_aimModels, Cond.selects RX3 yX3_aimModels yX3_aimModels, Cond.code yX3_aimModels cX3_aimModels 2 none, Cond.methodLink RX3 65 yX2_aim, Cond.instanceMethod yX2_aim]
def wsX4_observe_r4 : List Cond := [Cond.selects RX2 yX2_aim yX2_aim, Cond.code yX2_aim cX2_aim 2 none, Cond.constantLong RX2 53 (256), Cond.methodLink RX2 59 yX2_tableSize, Cond.instanceMethod yX2_tableSize, Cond.selects RX2 yX2_tableSize yX2_tableSize, Cond.code yX2_tableSize cX2_tableSize 1 (some .int), Cond.fieldLink RX2 29 "BitMixer$Model" "t" "I", Cond.methodLink RX4 114 yX4_quality]
def wsX4_observe : List Cond := .code yX4_observe cX4_observe 3 (some .int) :: ((wsX4_observe_r1 ++ (wsX4_observe_r2 ++ (wsX4_observe_r3 ++ wsX4_observe_r4))) ++ wsX40 ++ wsX30 ++ wsX20)
def wsX4_mixed : List Cond := .code yX4_mixed cX4_mixed 1 (some .int) :: ([.fieldLink RX4 27 "BitMixer" "predictor" "LBitMixer$Predictor;", .methodLink RX4 106 yX3_mixture, .instanceMethod yX3_mixture, .selects RX3 yX3_mixture yX3_mixture, .initialized RX3, .code yX3_mixture cX3_mixture 5 (some .int), .fieldLink RX3 18 "BitMixer$Predictor" "modelTotal" "I", .fieldLink RX3 11 "BitMixer$Predictor" "models" "[LBitMixer$Model;", .fieldLink RX3 69 "BitMixer$Model" "weights" "[I", .fieldLink RX3 45 "BitMixer$Predictor" "phase" "I", .methodLink RX3 76 Lib.Math.min.name, .static Lib.Math.min.name, .initialized "java/lang/Math", .code Lib.Math.min.name Lib.Math.min.code 2 (some .int), .methodLink RX3 82 Lib.Math.max.name, .static Lib.Math.max.name, .code Lib.Math.max.name Lib.Math.max.code 2 (some .int), .methodLink RX3 72 yX2_guess, .instanceMethod yX2_guess, .selects RX2 yX2_guess yX2_guess, .initialized RX2, .code yX2_guess cX2_guess 1 (some .int), .fieldLink RX2 9 "BitMixer$Model" "counters" "[I", .fieldLink RX2 63 "BitMixer$Model" "place" "I"] ++ wsX40 ++ wsX30 ++ wsX20)
def wsX4_prediction : List Cond := .code yX4_prediction cX4_prediction 2 (some .int) :: ([.methodLink RX4 68 yX4_requireModel, .instanceMethod yX4_requireModel, .selects RX4 yX4_requireModel yX4_requireModel, .initialized RX4, .code yX4_requireModel cX4_requireModel 2 (some (.object "BitMixer$Model")), .classLink RX4 127 "java/lang/IndexOutOfBoundsException", .initialized "java/lang/IndexOutOfBoundsException", .fieldLink RX4 27 "BitMixer" "predictor" "LBitMixer$Predictor;", .fieldLink RX4 50 "BitMixer$Predictor" "modelTotal" "I", .fieldLink RX4 207 "BitMixer$Predictor" "models" "[LBitMixer$Model;", .methodLink RX4 118 yX2_guess, .instanceMethod yX2_guess, .selects RX2 yX2_guess yX2_guess, .initialized RX2, .code yX2_guess cX2_guess 1 (some .int), .fieldLink RX2 9 "BitMixer$Model" "counters" "[I", .fieldLink RX2 63 "BitMixer$Model" "place" "I"] ++ wsX40 ++ wsX30 ++ wsX20 ++ (vx_atS RX4 131 "java/lang/IndexOutOfBoundsException" ["java/lang/RuntimeException", "java/lang/Exception"]).filter goodWord)
def wsX4_index : List Cond := .code yX4_index cX4_index 2 (some .int) :: ([.fieldLink RX4 121 "BitMixer$Model" "place" "I", .methodLink RX4 68 yX4_requireModel, .instanceMethod yX4_requireModel, .selects RX4 yX4_requireModel yX4_requireModel, .initialized RX4, .code yX4_requireModel cX4_requireModel 2 (some (.object "BitMixer$Model")), .classLink RX4 127 "java/lang/IndexOutOfBoundsException", .initialized "java/lang/IndexOutOfBoundsException", .fieldLink RX4 27 "BitMixer" "predictor" "LBitMixer$Predictor;", .fieldLink RX4 50 "BitMixer$Predictor" "modelTotal" "I", .fieldLink RX4 207 "BitMixer$Predictor" "models" "[LBitMixer$Model;"] ++ wsX20 ++ wsX40 ++ wsX30 ++ (vx_atS RX4 131 "java/lang/IndexOutOfBoundsException" ["java/lang/RuntimeException", "java/lang/Exception"]).filter goodWord)
def wsX4_counter : List Cond := .code yX4_counter cX4_counter 4 (some .int) :: ([.classLink RX4 127 "java/lang/IndexOutOfBoundsException", .initialized "java/lang/IndexOutOfBoundsException", .fieldLink RX4 132 "BitMixer$Model" "counters" "[I", .methodLink RX4 68 yX4_requireModel, .instanceMethod yX4_requireModel, .selects RX4 yX4_requireModel yX4_requireModel, .initialized RX4, .code yX4_requireModel cX4_requireModel 2 (some (.object "BitMixer$Model")), .fieldLink RX4 27 "BitMixer" "predictor" "LBitMixer$Predictor;", .fieldLink RX4 50 "BitMixer$Predictor" "modelTotal" "I", .fieldLink RX4 207 "BitMixer$Predictor" "models" "[LBitMixer$Model;", .methodLink RX4 124 yX2_tableSize, .instanceMethod yX2_tableSize, .selects RX2 yX2_tableSize yX2_tableSize, .initialized RX2, .code yX2_tableSize cX2_tableSize 1 (some .int), .fieldLink RX2 29 "BitMixer$Model" "t" "I", .methodLink RX2 32 Lib.Math.min.name, .static Lib.Math.min.name, .initialized "java/lang/Math", .code Lib.Math.min.name Lib.Math.min.code 2 (some .int)] ++ wsX20 ++ wsX40 ++ wsX30 ++ (vx_atS RX4 131 "java/lang/IndexOutOfBoundsException" ["java/lang/RuntimeException", "java/lang/Exception"]).filter goodWord)
def wsX4_weight : List Cond := .code yX4_weight cX4_weight 4 (some .int) :: ([.classLink RX4 127 "java/lang/IndexOutOfBoundsException", .initialized "java/lang/IndexOutOfBoundsException", .fieldLink RX4 138 "BitMixer$Model" "weights" "[I", .methodLink RX4 68 yX4_requireModel, .instanceMethod yX4_requireModel, .selects RX4 yX4_requireModel yX4_requireModel, .initialized RX4, .code yX4_requireModel cX4_requireModel 2 (some (.object "BitMixer$Model")), .fieldLink RX4 27 "BitMixer" "predictor" "LBitMixer$Predictor;", .fieldLink RX4 50 "BitMixer$Predictor" "modelTotal" "I", .fieldLink RX4 207 "BitMixer$Predictor" "models" "[LBitMixer$Model;"] ++ wsX20 ++ wsX40 ++ wsX30 ++ (vx_atS RX4 131 "java/lang/IndexOutOfBoundsException" ["java/lang/RuntimeException", "java/lang/Exception"]).filter goodWord)
def wsX4_leader : List Cond := .code yX4_leader cX4_leader 1 (some .int) :: ([.fieldLink RX4 27 "BitMixer" "predictor" "LBitMixer$Predictor;", .methodLink RX4 141 yX3_heaviest, .instanceMethod yX3_heaviest, .selects RX3 yX3_heaviest yX3_heaviest, .initialized RX3, .code yX3_heaviest cX3_heaviest 4 (some .int), .fieldLink RX3 18 "BitMixer$Predictor" "modelTotal" "I", .fieldLink RX3 11 "BitMixer$Predictor" "models" "[LBitMixer$Model;", .fieldLink RX3 69 "BitMixer$Model" "weights" "[I", .fieldLink RX3 45 "BitMixer$Predictor" "phase" "I"] ++ wsX40 ++ wsX30 ++ wsX20)
def wsX4_collisions : List Cond := .code yX4_collisions cX4_collisions 2 (some .int) :: ([.fieldLink RX4 144 "BitMixer$Model" "collisionTotal" "I", .methodLink RX4 68 yX4_requireModel, .instanceMethod yX4_requireModel, .selects RX4 yX4_requireModel yX4_requireModel, .initialized RX4, .code yX4_requireModel cX4_requireModel 2 (some (.object "BitMixer$Model")), .classLink RX4 127 "java/lang/IndexOutOfBoundsException", .initialized "java/lang/IndexOutOfBoundsException", .fieldLink RX4 27 "BitMixer" "predictor" "LBitMixer$Predictor;", .fieldLink RX4 50 "BitMixer$Predictor" "modelTotal" "I", .fieldLink RX4 207 "BitMixer$Predictor" "models" "[LBitMixer$Model;"] ++ wsX20 ++ wsX40 ++ wsX30 ++ (vx_atS RX4 131 "java/lang/IndexOutOfBoundsException" ["java/lang/RuntimeException", "java/lang/Exception"]).filter goodWord)
def wsX4_history : List Cond := .code yX4_history cX4_history 2 (some .int) :: ([.classLink RX4 127 "java/lang/IndexOutOfBoundsException", .initialized "java/lang/IndexOutOfBoundsException", .fieldLink RX4 27 "BitMixer" "predictor" "LBitMixer$Predictor;", .fieldLink RX4 149 "BitMixer$Predictor" "latest" "[I"] ++ wsX40 ++ wsX30 ++ (vx_atS RX4 131 "java/lang/IndexOutOfBoundsException" ["java/lang/RuntimeException", "java/lang/Exception"]).filter goodWord)
def wsX4_node : List Cond := .code yX4_node cX4_node 1 (some .int) :: ([.fieldLink RX4 27 "BitMixer" "predictor" "LBitMixer$Predictor;", .fieldLink RX4 152 "BitMixer$Predictor" "treeNode" "I"] ++ wsX40 ++ wsX30)
def wsX4_observed : List Cond := .code yX4_observed cX4_observed 1 (some .int) :: ([.fieldLink RX4 27 "BitMixer" "predictor" "LBitMixer$Predictor;", .fieldLink RX4 103 "BitMixer$Predictor" "bitTotal" "I"] ++ wsX40 ++ wsX30)
def wsX4_error : List Cond := .code yX4_error cX4_error 1 (some .long) :: ([.fieldLink RX4 27 "BitMixer" "predictor" "LBitMixer$Predictor;", .fieldLink RX4 155 "BitMixer$Predictor" "errorSum" "J"] ++ wsX40 ++ wsX30)
def wsX4_meanError : List Cond := .code yX4_meanError cX4_meanError 1 (some .double) :: ([.fieldLink RX4 27 "BitMixer" "predictor" "LBitMixer$Predictor;", .fieldLink RX4 103 "BitMixer$Predictor" "bitTotal" "I", .fieldLink RX4 155 "BitMixer$Predictor" "errorSum" "J", .constantDouble RX4 159 (4661225614328463360)] ++ wsX40 ++ wsX30)
def wsX4_encodeByte_r1 : List Cond := [Cond.fieldLink RX4 27 "BitMixer" "predictor" "LBitMixer$Predictor;", Cond.fieldLink RX4 34 "BitMixer" "interval" "LBitMixer$Interval;", Cond.fieldLink RX4 18 "BitMixer" "encoded" "LBitMixer$ByteRow;", Cond.methodLink RX4 106 yX3_mixture, Cond.instanceMethod yX3_mixture, Cond.selects RX3 yX3_mixture yX3_mixture, Cond.initialized RX3, Cond.code yX3_mixture cX3_mixture 5 (some .int), Cond.fieldLink RX3 18 "BitMixer$Predictor" "modelTotal" "I", Cond.fieldLink RX3 11 "BitMixer$Predictor" "models" "[LBitMixer$Model;", Cond.fieldLink RX3 69 "BitMixer$Model" "weights" "[I", Cond.fieldLink RX3 45 "BitMixer$Predictor" "phase" "I", Cond.methodLink RX3 76 Lib.Math.min.name, Cond.static Lib.Math.min.name, Cond.initialized "java/lang/Math", Cond.code Lib.Math.min.name Lib.Math.min.code 2 (some .int), Cond.methodLink RX3 82 Lib.Math.max.name, Cond.static Lib.Math.max.name, Cond.code Lib.Math.max.name Lib.Math.max.code 2 (some .int), Cond.methodLink RX3 72 yX2_guess, Cond.instanceMethod yX2_guess, Cond.selects RX2 yX2_guess yX2_guess, Cond.initialized RX2, Cond.code yX2_guess cX2_guess 1 (some .int)]
def wsX4_encodeByte_r2 : List Cond := [Cond.fieldLink RX2 9 "BitMixer$Model" "counters" "[I", Cond.fieldLink RX2 63 "BitMixer$Model" "place" "I", Cond.methodLink RX4 225 yX1_middle, Cond.instanceMethod yX1_middle, Cond.selects RX1 yX1_middle yX1_middle, Cond.initialized RX1, Cond.code yX1_middle cX1_middle 2 (some .long), Cond.fieldLink RX1 14 "BitMixer$Interval" "low" "J", Cond.fieldLink RX1 20 "BitMixer$Interval" "high" "J", Cond.constantLong RX1 40 (4096), Cond.methodLink RX4 229 yX1_narrow, Cond.instanceMethod yX1_narrow, Cond.selects RX1 yX1_narrow yX1_narrow, Cond.code yX1_narrow cX1_narrow 4 none, Cond.methodLink RX4 233 yX1_isSettled, Cond.instanceMethod yX1_isSettled, Cond.selects RX1 yX1_isSettled yX1_isSettled, Cond.code yX1_isSettled cX1_isSettled 1 (some .boolean), Cond.methodLink RX1 42 yX1_topByte, Cond.static yX1_topByte, Cond.code yX1_topByte cX1_topByte 2 (some .int), Cond.methodLink RX4 174 yX1_shift, Cond.instanceMethod yX1_shift, Cond.selects RX1 yX1_shift yX1_shift]
def wsX4_encodeByte_r3 : List Cond := [Cond.code yX1_shift cX1_shift 2 (some .int), Cond.constantLong RX1 18 (4294967295), Cond.constantLong RX1 46 (255), Cond.methodLink RX4 85 yX0_append, Cond.instanceMethod yX0_append, Cond.selects RX0 yX0_append yX0_append, Cond.initialized RX0, Cond.code yX0_append cX0_append 2 none, Cond.fieldLink RX0 19 "BitMixer$ByteRow" "count" "I", Cond.fieldLink RX0 13 "BitMixer$ByteRow" "bytes" "[I", Cond.methodLink RX4 110 yX3_learn, Cond.instanceMethod yX3_learn, Cond.selects RX3 yX3_learn yX3_learn, Cond.code yX3_learn cX3_learn 5 none, Cond.fieldLink RX3 51 "BitMixer$Predictor" "errorSum" "J", Cond.fieldLink RX3 48 "BitMixer$Predictor" "bitTotal" "I", Cond.static yX4_quality, Cond.initialized RX4, Cond.code yX4_quality cX4_quality 2 (some .int), Cond.methodLink RX3 89 yX2_adjustWeight, Cond.instanceMethod yX2_adjustWeight, Cond.selects RX2 yX2_adjustWeight yX2_adjustWeight, Cond.code yX2_adjustWeight cX2_adjustWeight 6 none, Cond.fieldLink RX2 19 "BitMixer$Model" "weights" "[I"]
def wsX4_encodeByte_r4 : List Cond := [Cond.constant RX2 73 (60000), Cond.methodLink RX2 32 Lib.Math.min.name, Cond.methodLink RX2 74 Lib.Math.max.name, Cond.methodLink RX2 66 yX2_guess, Cond.methodLink RX3 93 yX2_adjustCounter, Cond.instanceMethod yX2_adjustCounter, Cond.selects RX2 yX2_adjustCounter yX2_adjustCounter, Cond.code yX2_adjustCounter cX2_adjustCounter 3 none, Cond.fieldLink RX2 26 "BitMixer$Model" "rate" "I", Cond.fieldLink RX2 15 "BitMixer$Model" "seen" "[J", Cond.fieldLink RX2 55 "BitMixer$Model" "sight" "J", Cond.fieldLink RX2 47 "BitMixer$Model" "collisionTotal" "I", Cond.methodLink RX3 97 yX3_step, Cond.instanceMethod yX3_step, Cond.selects RX3 yX3_step yX3_step, Cond.code yX3_step cX3_step 3 none, Cond.fieldLink RX3 42 "BitMixer$Predictor" "treeNode" "I", Cond.fieldLink RX3 22 "BitMixer$Predictor" "latest" "[I", Cond.methodLink RX3 55 yX3_readContexts, Cond.instanceMethod yX3_readContexts, Cond.selects RX3 yX3_readContexts yX3_readContexts, Cond.code yX3_readContexts cX3_readContexts 2 none, Cond.methodLink RX3 61 yX2_readContext, Cond.instanceMethod yX2_readContext]
def wsX4_encodeByte_r5 : List Cond := [Cond.selects RX2 yX2_readContext yX2_readContext, Cond.code yX2_readContext cX2_readContext 4 none, Cond.fieldLink RX2 22 "BitMixer$Model" "order" "I", Cond.fieldLink RX2 50 "BitMixer$Model" "context" "I", Cond.methodLink RX3 58 yX3_aimModels, Cond.instanceMethod yX3_aimModels, Cond.selects RX3 yX3_aimModels yX3_aimModels, Cond.code yX3_aimModels cX3_aimModels 2 none, Cond.methodLink RX3 65 yX2_aim, Cond.instanceMethod yX2_aim, Cond.selects RX2 yX2_aim yX2_aim, Cond.code yX2_aim cX2_aim 2 none, Cond.constantLong RX2 53 (256), Cond.methodLink RX2 59 yX2_tableSize, Cond.instanceMethod yX2_tableSize, Cond.selects RX2 yX2_tableSize yX2_tableSize, Cond.code yX2_tableSize cX2_tableSize 1 (some .int), Cond.fieldLink RX2 29 "BitMixer$Model" "t" "I"]
def wsX4_encodeByte : List Cond := .code yX4_encodeByte cX4_encodeByte 6 none :: ((wsX4_encodeByte_r1 ++ (wsX4_encodeByte_r2 ++ (wsX4_encodeByte_r3 ++ (wsX4_encodeByte_r4 ++ wsX4_encodeByte_r5)))) ++ wsX40 ++ wsX30 ++ wsX20 ++ wsX10 ++ wsX00)
def wsX4_encode_r1 : List Cond := [Cond.fieldLink RX4 27 "BitMixer" "predictor" "LBitMixer$Predictor;", Cond.fieldLink RX4 34 "BitMixer" "interval" "LBitMixer$Interval;", Cond.fieldLink RX4 18 "BitMixer" "encoded" "LBitMixer$ByteRow;", Cond.fieldLink RX4 14 "BitMixer" "text" "LBitMixer$ByteRow;", Cond.fieldLink RX4 88 "BitMixer$ByteRow" "count" "I", Cond.methodLink RX4 77 yX3_restart, Cond.instanceMethod yX3_restart, Cond.selects RX3 yX3_restart yX3_restart, Cond.initialized RX3, Cond.code yX3_restart cX3_restart 2 none, Cond.fieldLink RX3 18 "BitMixer$Predictor" "modelTotal" "I", Cond.fieldLink RX3 11 "BitMixer$Predictor" "models" "[LBitMixer$Model;", Cond.fieldLink RX3 22 "BitMixer$Predictor" "latest" "[I", Cond.fieldLink RX3 42 "BitMixer$Predictor" "treeNode" "I", Cond.fieldLink RX3 45 "BitMixer$Predictor" "phase" "I", Cond.fieldLink RX3 48 "BitMixer$Predictor" "bitTotal" "I", Cond.fieldLink RX3 51 "BitMixer$Predictor" "errorSum" "J", Cond.methodLink RX3 33 yX2_forget, Cond.instanceMethod yX2_forget, Cond.selects RX2 yX2_forget yX2_forget, Cond.initialized RX2, Cond.code yX2_forget cX2_forget 1 none, Cond.fieldLink RX2 9 "BitMixer$Model" "counters" "[I", Cond.fieldLink RX2 15 "BitMixer$Model" "seen" "[J"]
def wsX4_encode_r2 : List Cond := [Cond.fieldLink RX2 19 "BitMixer$Model" "weights" "[I", Cond.fieldLink RX2 47 "BitMixer$Model" "collisionTotal" "I", Cond.methodLink RX2 38 yJ7_fill_53178, Cond.static yJ7_fill_53178, Cond.initialized RJ7, Cond.code yJ7_fill_53178 cJ7_fill_53178 4 none, Cond.methodLink RX2 44 yJ7_fill_d0a16, Cond.static yJ7_fill_d0a16, Cond.code yJ7_fill_d0a16 cJ7_fill_d0a16 5 none, Cond.methodLink RX3 36 yJ7_fill_53178, Cond.methodLink RX3 55 yX3_readContexts, Cond.instanceMethod yX3_readContexts, Cond.selects RX3 yX3_readContexts yX3_readContexts, Cond.code yX3_readContexts cX3_readContexts 2 none, Cond.methodLink RX3 61 yX2_readContext, Cond.instanceMethod yX2_readContext, Cond.selects RX2 yX2_readContext yX2_readContext, Cond.code yX2_readContext cX2_readContext 4 none, Cond.fieldLink RX2 22 "BitMixer$Model" "order" "I", Cond.fieldLink RX2 50 "BitMixer$Model" "context" "I", Cond.methodLink RX3 58 yX3_aimModels, Cond.instanceMethod yX3_aimModels, Cond.selects RX3 yX3_aimModels yX3_aimModels, Cond.code yX3_aimModels cX3_aimModels 2 none]
def wsX4_encode_r3 : List Cond := [Cond.methodLink RX3 65 yX2_aim, Cond.instanceMethod yX2_aim, Cond.selects RX2 yX2_aim yX2_aim, Cond.code yX2_aim cX2_aim 2 none, Cond.constantLong RX2 53 (256), Cond.fieldLink RX2 55 "BitMixer$Model" "sight" "J", Cond.fieldLink RX2 63 "BitMixer$Model" "place" "I", Cond.methodLink RX2 59 yX2_tableSize, Cond.instanceMethod yX2_tableSize, Cond.selects RX2 yX2_tableSize yX2_tableSize, Cond.code yX2_tableSize cX2_tableSize 1 (some .int), Cond.fieldLink RX2 29 "BitMixer$Model" "t" "I", Cond.methodLink RX2 32 Lib.Math.min.name, Cond.static Lib.Math.min.name, Cond.initialized "java/lang/Math", Cond.code Lib.Math.min.name Lib.Math.min.code 2 (some .int), Cond.methodLink RX4 161 yX1_open, Cond.instanceMethod yX1_open, Cond.selects RX1 yX1_open yX1_open, Cond.initialized RX1, Cond.code yX1_open cX1_open 1 none, Cond.fieldLink RX1 14 "BitMixer$Interval" "low" "J", Cond.constantLong RX1 18 (4294967295), Cond.fieldLink RX1 20 "BitMixer$Interval" "high" "J"]
def wsX4_encode_r4 : List Cond := [Cond.fieldLink RX1 23 "BitMixer$Interval" "x" "J", Cond.fieldLink RX1 26 "BitMixer$Interval" "next" "I", Cond.methodLink RX4 164 yX0_clear, Cond.instanceMethod yX0_clear, Cond.selects RX0 yX0_clear yX0_clear, Cond.initialized RX0, Cond.code yX0_clear cX0_clear 1 none, Cond.fieldLink RX0 19 "BitMixer$ByteRow" "count" "I", Cond.methodLink RX4 167 yX0_at, Cond.instanceMethod yX0_at, Cond.selects RX0 yX0_at yX0_at, Cond.code yX0_at cX0_at 2 (some .int), Cond.fieldLink RX0 13 "BitMixer$ByteRow" "bytes" "[I", Cond.methodLink RX0 23 yX0_has, Cond.instanceMethod yX0_has, Cond.selects RX0 yX0_has yX0_has, Cond.code yX0_has cX0_has 2 (some .boolean), Cond.methodLink RX4 171 yX4_encodeByte, Cond.instanceMethod yX4_encodeByte, Cond.selects RX4 yX4_encodeByte yX4_encodeByte, Cond.initialized RX4, Cond.code yX4_encodeByte cX4_encodeByte 6 none, Cond.methodLink RX4 106 yX3_mixture, Cond.instanceMethod yX3_mixture]
def wsX4_encode_r5 : List Cond := [Cond.selects RX3 yX3_mixture yX3_mixture, Cond.code yX3_mixture cX3_mixture 5 (some .int), Cond.fieldLink RX3 69 "BitMixer$Model" "weights" "[I", Cond.methodLink RX3 76 Lib.Math.min.name, Cond.methodLink RX3 82 Lib.Math.max.name, Cond.static Lib.Math.max.name, Cond.code Lib.Math.max.name Lib.Math.max.code 2 (some .int), Cond.methodLink RX3 72 yX2_guess, Cond.instanceMethod yX2_guess, Cond.selects RX2 yX2_guess yX2_guess, Cond.code yX2_guess cX2_guess 1 (some .int), Cond.methodLink RX4 225 yX1_middle, Cond.instanceMethod yX1_middle, Cond.selects RX1 yX1_middle yX1_middle, Cond.code yX1_middle cX1_middle 2 (some .long), Cond.constantLong RX1 40 (4096), Cond.methodLink RX4 229 yX1_narrow, Cond.instanceMethod yX1_narrow, Cond.selects RX1 yX1_narrow yX1_narrow, Cond.code yX1_narrow cX1_narrow 4 none, Cond.methodLink RX4 233 yX1_isSettled, Cond.instanceMethod yX1_isSettled, Cond.selects RX1 yX1_isSettled yX1_isSettled, Cond.code yX1_isSettled cX1_isSettled 1 (some .boolean)]
def wsX4_encode_r6 : List Cond := [Cond.methodLink RX1 42 yX1_topByte, Cond.static yX1_topByte, Cond.code yX1_topByte cX1_topByte 2 (some .int), Cond.methodLink RX4 174 yX1_shift, Cond.instanceMethod yX1_shift, Cond.selects RX1 yX1_shift yX1_shift, Cond.code yX1_shift cX1_shift 2 (some .int), Cond.constantLong RX1 46 (255), Cond.methodLink RX4 85 yX0_append, Cond.instanceMethod yX0_append, Cond.selects RX0 yX0_append yX0_append, Cond.code yX0_append cX0_append 2 none, Cond.methodLink RX4 110 yX3_learn, Cond.instanceMethod yX3_learn, Cond.selects RX3 yX3_learn yX3_learn, Cond.code yX3_learn cX3_learn 5 none, Cond.static yX4_quality, Cond.code yX4_quality cX4_quality 2 (some .int), Cond.methodLink RX3 89 yX2_adjustWeight, Cond.instanceMethod yX2_adjustWeight, Cond.selects RX2 yX2_adjustWeight yX2_adjustWeight, Cond.code yX2_adjustWeight cX2_adjustWeight 6 none, Cond.constant RX2 73 (60000), Cond.methodLink RX2 74 Lib.Math.max.name]
def wsX4_encode_r7 : List Cond := [Cond.methodLink RX2 66 yX2_guess, Cond.methodLink RX3 93 yX2_adjustCounter, Cond.instanceMethod yX2_adjustCounter, Cond.selects RX2 yX2_adjustCounter yX2_adjustCounter, Cond.code yX2_adjustCounter cX2_adjustCounter 3 none, Cond.fieldLink RX2 26 "BitMixer$Model" "rate" "I", Cond.methodLink RX3 97 yX3_step, Cond.instanceMethod yX3_step, Cond.selects RX3 yX3_step yX3_step, Cond.code yX3_step cX3_step 3 none]
def wsX4_encode : List Cond := .code yX4_encode cX4_encode 2 (some .int) :: ((wsX4_encode_r1 ++ (wsX4_encode_r2 ++ (wsX4_encode_r3 ++ (wsX4_encode_r4 ++ (wsX4_encode_r5 ++ (wsX4_encode_r6 ++ wsX4_encode_r7)))))) ++ wsX40 ++ wsX00 ++ wsX30 ++ wsX20 ++ wsX10)
def wsX4_codeSize : List Cond := .code yX4_codeSize cX4_codeSize 1 (some .int) :: ([.fieldLink RX4 18 "BitMixer" "encoded" "LBitMixer$ByteRow;", .fieldLink RX4 88 "BitMixer$ByteRow" "count" "I"] ++ wsX40 ++ wsX00)
def wsX4_code : List Cond := .code yX4_code cX4_code 2 (some .int) :: ([.fieldLink RX4 18 "BitMixer" "encoded" "LBitMixer$ByteRow;", .methodLink RX4 100 yX4_requirePlace, .static yX4_requirePlace, .initialized RX4, .code yX4_requirePlace cX4_requirePlace 2 (some .int), .classLink RX4 127 "java/lang/IndexOutOfBoundsException", .initialized "java/lang/IndexOutOfBoundsException", .methodLink RX4 217 yX0_has, .instanceMethod yX0_has, .selects RX0 yX0_has yX0_has, .initialized RX0, .code yX0_has cX0_has 2 (some .boolean), .fieldLink RX0 19 "BitMixer$ByteRow" "count" "I", .fieldLink RX0 13 "BitMixer$ByteRow" "bytes" "[I", .methodLink RX4 167 yX0_at, .instanceMethod yX0_at, .selects RX0 yX0_at yX0_at, .code yX0_at cX0_at 2 (some .int), .methodLink RX0 23 yX0_has] ++ wsX40 ++ wsX00 ++ (vx_atS RX4 131 "java/lang/IndexOutOfBoundsException" ["java/lang/RuntimeException", "java/lang/Exception"]).filter goodWord)
def wsX4_setCode_r1 : List Cond := [Cond.fieldLink RX4 18 "BitMixer" "encoded" "LBitMixer$ByteRow;", Cond.methodLink RX4 100 yX4_requirePlace, Cond.static yX4_requirePlace, Cond.initialized RX4, Cond.code yX4_requirePlace cX4_requirePlace 2 (some .int), Cond.classLink RX4 127 "java/lang/IndexOutOfBoundsException", Cond.initialized "java/lang/IndexOutOfBoundsException", Cond.methodLink RX4 217 yX0_has, Cond.instanceMethod yX0_has, Cond.selects RX0 yX0_has yX0_has, Cond.initialized RX0, Cond.code yX0_has cX0_has 2 (some .boolean), Cond.fieldLink RX0 19 "BitMixer$ByteRow" "count" "I", Cond.fieldLink RX0 13 "BitMixer$ByteRow" "bytes" "[I", Cond.methodLink RX4 167 yX0_at, Cond.instanceMethod yX0_at, Cond.selects RX0 yX0_at yX0_at, Cond.code yX0_at cX0_at 2 (some .int), Cond.methodLink RX0 23 yX0_has, Cond.methodLink RX4 91 yX4_requireByte, Cond.static yX4_requireByte, Cond.code yX4_requireByte cX4_requireByte 1 none, Cond.classLink RX4 38 "java/lang/IllegalArgumentException", Cond.initialized "java/lang/IllegalArgumentException"]
def wsX4_setCode_r2 : List Cond := [Cond.methodLink RX4 177 yX0_put, Cond.instanceMethod yX0_put, Cond.selects RX0 yX0_put yX0_put, Cond.code yX0_put cX0_put 3 none]
def wsX4_setCode : List Cond := .code yX4_setCode cX4_setCode 4 (some .int) :: ((wsX4_setCode_r1 ++ wsX4_setCode_r2) ++ wsX40 ++ wsX00 ++ (vx_atS RX4 131 "java/lang/IndexOutOfBoundsException" ["java/lang/RuntimeException", "java/lang/Exception"]).filter goodWord ++ (vx_atS RX4 42 "java/lang/IllegalArgumentException" ["java/lang/RuntimeException", "java/lang/Exception"]).filter goodWord)
def wsX4_cutCode : List Cond := .code yX4_cutCode cX4_cutCode 2 (some .int) :: ([.fieldLink RX4 18 "BitMixer" "encoded" "LBitMixer$ByteRow;", .methodLink RX4 96 yX4_shorten, .static yX4_shorten, .initialized RX4, .code yX4_shorten cX4_shorten 2 (some .int), .classLink RX4 38 "java/lang/IllegalArgumentException", .initialized "java/lang/IllegalArgumentException", .fieldLink RX4 88 "BitMixer$ByteRow" "count" "I"] ++ wsX40 ++ wsX00 ++ (vx_atS RX4 42 "java/lang/IllegalArgumentException" ["java/lang/RuntimeException", "java/lang/Exception"]).filter goodWord)
def wsX4_decodeByte_r1 : List Cond := [Cond.fieldLink RX4 27 "BitMixer" "predictor" "LBitMixer$Predictor;", Cond.fieldLink RX4 34 "BitMixer" "interval" "LBitMixer$Interval;", Cond.fieldLink RX4 237 "BitMixer$Interval" "x" "J", Cond.fieldLink RX4 18 "BitMixer" "encoded" "LBitMixer$ByteRow;", Cond.methodLink RX4 106 yX3_mixture, Cond.instanceMethod yX3_mixture, Cond.selects RX3 yX3_mixture yX3_mixture, Cond.initialized RX3, Cond.code yX3_mixture cX3_mixture 5 (some .int), Cond.fieldLink RX3 18 "BitMixer$Predictor" "modelTotal" "I", Cond.fieldLink RX3 11 "BitMixer$Predictor" "models" "[LBitMixer$Model;", Cond.fieldLink RX3 69 "BitMixer$Model" "weights" "[I", Cond.fieldLink RX3 45 "BitMixer$Predictor" "phase" "I", Cond.methodLink RX3 76 Lib.Math.min.name, Cond.static Lib.Math.min.name, Cond.initialized "java/lang/Math", Cond.code Lib.Math.min.name Lib.Math.min.code 2 (some .int), Cond.methodLink RX3 82 Lib.Math.max.name, Cond.static Lib.Math.max.name, Cond.code Lib.Math.max.name Lib.Math.max.code 2 (some .int), Cond.methodLink RX3 72 yX2_guess, Cond.instanceMethod yX2_guess, Cond.selects RX2 yX2_guess yX2_guess, Cond.initialized RX2]
def wsX4_decodeByte_r2 : List Cond := [Cond.code yX2_guess cX2_guess 1 (some .int), Cond.fieldLink RX2 9 "BitMixer$Model" "counters" "[I", Cond.fieldLink RX2 63 "BitMixer$Model" "place" "I", Cond.methodLink RX4 225 yX1_middle, Cond.instanceMethod yX1_middle, Cond.selects RX1 yX1_middle yX1_middle, Cond.initialized RX1, Cond.code yX1_middle cX1_middle 2 (some .long), Cond.fieldLink RX1 14 "BitMixer$Interval" "low" "J", Cond.fieldLink RX1 20 "BitMixer$Interval" "high" "J", Cond.constantLong RX1 40 (4096), Cond.methodLink RX4 229 yX1_narrow, Cond.instanceMethod yX1_narrow, Cond.selects RX1 yX1_narrow yX1_narrow, Cond.code yX1_narrow cX1_narrow 4 none, Cond.methodLink RX4 233 yX1_isSettled, Cond.instanceMethod yX1_isSettled, Cond.selects RX1 yX1_isSettled yX1_isSettled, Cond.code yX1_isSettled cX1_isSettled 1 (some .boolean), Cond.methodLink RX1 42 yX1_topByte, Cond.static yX1_topByte, Cond.code yX1_topByte cX1_topByte 2 (some .int), Cond.methodLink RX4 174 yX1_shift, Cond.instanceMethod yX1_shift]
def wsX4_decodeByte_r3 : List Cond := [Cond.selects RX1 yX1_shift yX1_shift, Cond.code yX1_shift cX1_shift 2 (some .int), Cond.constantLong RX1 18 (4294967295), Cond.constantLong RX1 46 (255), Cond.methodLink RX4 240 yX1_pull, Cond.instanceMethod yX1_pull, Cond.selects RX1 yX1_pull yX1_pull, Cond.code yX1_pull cX1_pull 2 none, Cond.fieldLink RX1 23 "BitMixer$Interval" "x" "J", Cond.fieldLink RX1 26 "BitMixer$Interval" "next" "I", Cond.methodLink RX1 34 yX0_at, Cond.instanceMethod yX0_at, Cond.selects RX0 yX0_at yX0_at, Cond.initialized RX0, Cond.code yX0_at cX0_at 2 (some .int), Cond.fieldLink RX0 13 "BitMixer$ByteRow" "bytes" "[I", Cond.methodLink RX0 23 yX0_has, Cond.instanceMethod yX0_has, Cond.selects RX0 yX0_has yX0_has, Cond.code yX0_has cX0_has 2 (some .boolean), Cond.fieldLink RX0 19 "BitMixer$ByteRow" "count" "I", Cond.methodLink RX4 110 yX3_learn, Cond.instanceMethod yX3_learn, Cond.selects RX3 yX3_learn yX3_learn]
def wsX4_decodeByte_r4 : List Cond := [Cond.code yX3_learn cX3_learn 5 none, Cond.fieldLink RX3 51 "BitMixer$Predictor" "errorSum" "J", Cond.fieldLink RX3 48 "BitMixer$Predictor" "bitTotal" "I", Cond.static yX4_quality, Cond.initialized RX4, Cond.code yX4_quality cX4_quality 2 (some .int), Cond.methodLink RX3 89 yX2_adjustWeight, Cond.instanceMethod yX2_adjustWeight, Cond.selects RX2 yX2_adjustWeight yX2_adjustWeight, Cond.code yX2_adjustWeight cX2_adjustWeight 6 none, Cond.fieldLink RX2 19 "BitMixer$Model" "weights" "[I", Cond.constant RX2 73 (60000), Cond.methodLink RX2 32 Lib.Math.min.name, Cond.methodLink RX2 74 Lib.Math.max.name, Cond.methodLink RX2 66 yX2_guess, Cond.methodLink RX3 93 yX2_adjustCounter, Cond.instanceMethod yX2_adjustCounter, Cond.selects RX2 yX2_adjustCounter yX2_adjustCounter, Cond.code yX2_adjustCounter cX2_adjustCounter 3 none, Cond.fieldLink RX2 26 "BitMixer$Model" "rate" "I", Cond.fieldLink RX2 15 "BitMixer$Model" "seen" "[J", Cond.fieldLink RX2 55 "BitMixer$Model" "sight" "J", Cond.fieldLink RX2 47 "BitMixer$Model" "collisionTotal" "I", Cond.methodLink RX3 97 yX3_step]
def wsX4_decodeByte_r5 : List Cond := [Cond.instanceMethod yX3_step, Cond.selects RX3 yX3_step yX3_step, Cond.code yX3_step cX3_step 3 none, Cond.fieldLink RX3 42 "BitMixer$Predictor" "treeNode" "I", Cond.fieldLink RX3 22 "BitMixer$Predictor" "latest" "[I", Cond.methodLink RX3 55 yX3_readContexts, Cond.instanceMethod yX3_readContexts, Cond.selects RX3 yX3_readContexts yX3_readContexts, Cond.code yX3_readContexts cX3_readContexts 2 none, Cond.methodLink RX3 61 yX2_readContext, Cond.instanceMethod yX2_readContext, Cond.selects RX2 yX2_readContext yX2_readContext, Cond.code yX2_readContext cX2_readContext 4 none, Cond.fieldLink RX2 22 "BitMixer$Model" "order" "I", Cond.fieldLink RX2 50 "BitMixer$Model" "context" "I", Cond.methodLink RX3 58 yX3_aimModels, Cond.instanceMethod yX3_aimModels, Cond.selects RX3 yX3_aimModels yX3_aimModels, Cond.code yX3_aimModels cX3_aimModels 2 none, Cond.methodLink RX3 65 yX2_aim, Cond.instanceMethod yX2_aim, Cond.selects RX2 yX2_aim yX2_aim, Cond.code yX2_aim cX2_aim 2 none, Cond.constantLong RX2 53 (256)]
def wsX4_decodeByte_r6 : List Cond := [Cond.methodLink RX2 59 yX2_tableSize, Cond.instanceMethod yX2_tableSize, Cond.selects RX2 yX2_tableSize yX2_tableSize, Cond.code yX2_tableSize cX2_tableSize 1 (some .int), Cond.fieldLink RX2 29 "BitMixer$Model" "t" "I"]
def wsX4_decodeByte : List Cond := .code yX4_decodeByte cX4_decodeByte 8 (some .int) :: ((wsX4_decodeByte_r1 ++ (wsX4_decodeByte_r2 ++ (wsX4_decodeByte_r3 ++ (wsX4_decodeByte_r4 ++ (wsX4_decodeByte_r5 ++ wsX4_decodeByte_r6))))) ++ wsX40 ++ wsX10 ++ wsX30 ++ wsX20 ++ wsX00)
def wsX4_differences : List Cond := .code yX4_differences cX4_differences 5 (some .int) :: ([.fieldLink RX4 14 "BitMixer" "text" "LBitMixer$ByteRow;", .fieldLink RX4 88 "BitMixer$ByteRow" "count" "I", .fieldLink RX4 21 "BitMixer" "decoded" "LBitMixer$ByteRow;", .methodLink RX4 243 Lib.Math.max.name, .static Lib.Math.max.name, .initialized "java/lang/Math", .code Lib.Math.max.name Lib.Math.max.code 2 (some .int), .methodLink RX4 217 yX0_has, .instanceMethod yX0_has, .selects RX0 yX0_has yX0_has, .initialized RX0, .code yX0_has cX0_has 2 (some .boolean), .fieldLink RX0 19 "BitMixer$ByteRow" "count" "I", .fieldLink RX0 13 "BitMixer$ByteRow" "bytes" "[I", .methodLink RX4 167 yX0_at, .instanceMethod yX0_at, .selects RX0 yX0_at yX0_at, .code yX0_at cX0_at 2 (some .int), .methodLink RX0 23 yX0_has] ++ wsX40 ++ wsX00)
def wsX4_decode_r1 : List Cond := [Cond.classLink RX4 38 "java/lang/IllegalArgumentException", Cond.initialized "java/lang/IllegalArgumentException", Cond.fieldLink RX4 27 "BitMixer" "predictor" "LBitMixer$Predictor;", Cond.fieldLink RX4 34 "BitMixer" "interval" "LBitMixer$Interval;", Cond.fieldLink RX4 18 "BitMixer" "encoded" "LBitMixer$ByteRow;", Cond.fieldLink RX4 21 "BitMixer" "decoded" "LBitMixer$ByteRow;", Cond.methodLink RX4 77 yX3_restart, Cond.instanceMethod yX3_restart, Cond.selects RX3 yX3_restart yX3_restart, Cond.initialized RX3, Cond.code yX3_restart cX3_restart 2 none, Cond.fieldLink RX3 18 "BitMixer$Predictor" "modelTotal" "I", Cond.fieldLink RX3 11 "BitMixer$Predictor" "models" "[LBitMixer$Model;", Cond.fieldLink RX3 22 "BitMixer$Predictor" "latest" "[I", Cond.fieldLink RX3 42 "BitMixer$Predictor" "treeNode" "I", Cond.fieldLink RX3 45 "BitMixer$Predictor" "phase" "I", Cond.fieldLink RX3 48 "BitMixer$Predictor" "bitTotal" "I", Cond.fieldLink RX3 51 "BitMixer$Predictor" "errorSum" "J", Cond.methodLink RX3 33 yX2_forget, Cond.instanceMethod yX2_forget, Cond.selects RX2 yX2_forget yX2_forget, Cond.initialized RX2, Cond.code yX2_forget cX2_forget 1 none, Cond.fieldLink RX2 9 "BitMixer$Model" "counters" "[I"]
def wsX4_decode_r2 : List Cond := [Cond.fieldLink RX2 15 "BitMixer$Model" "seen" "[J", Cond.fieldLink RX2 19 "BitMixer$Model" "weights" "[I", Cond.fieldLink RX2 47 "BitMixer$Model" "collisionTotal" "I", Cond.methodLink RX2 38 yJ7_fill_53178, Cond.static yJ7_fill_53178, Cond.initialized RJ7, Cond.code yJ7_fill_53178 cJ7_fill_53178 4 none, Cond.methodLink RX2 44 yJ7_fill_d0a16, Cond.static yJ7_fill_d0a16, Cond.code yJ7_fill_d0a16 cJ7_fill_d0a16 5 none, Cond.methodLink RX3 36 yJ7_fill_53178, Cond.methodLink RX3 55 yX3_readContexts, Cond.instanceMethod yX3_readContexts, Cond.selects RX3 yX3_readContexts yX3_readContexts, Cond.code yX3_readContexts cX3_readContexts 2 none, Cond.methodLink RX3 61 yX2_readContext, Cond.instanceMethod yX2_readContext, Cond.selects RX2 yX2_readContext yX2_readContext, Cond.code yX2_readContext cX2_readContext 4 none, Cond.fieldLink RX2 22 "BitMixer$Model" "order" "I", Cond.fieldLink RX2 50 "BitMixer$Model" "context" "I", Cond.methodLink RX3 58 yX3_aimModels, Cond.instanceMethod yX3_aimModels, Cond.selects RX3 yX3_aimModels yX3_aimModels]
def wsX4_decode_r3 : List Cond := [Cond.code yX3_aimModels cX3_aimModels 2 none, Cond.methodLink RX3 65 yX2_aim, Cond.instanceMethod yX2_aim, Cond.selects RX2 yX2_aim yX2_aim, Cond.code yX2_aim cX2_aim 2 none, Cond.constantLong RX2 53 (256), Cond.fieldLink RX2 55 "BitMixer$Model" "sight" "J", Cond.fieldLink RX2 63 "BitMixer$Model" "place" "I", Cond.methodLink RX2 59 yX2_tableSize, Cond.instanceMethod yX2_tableSize, Cond.selects RX2 yX2_tableSize yX2_tableSize, Cond.code yX2_tableSize cX2_tableSize 1 (some .int), Cond.fieldLink RX2 29 "BitMixer$Model" "t" "I", Cond.methodLink RX2 32 Lib.Math.min.name, Cond.static Lib.Math.min.name, Cond.initialized "java/lang/Math", Cond.code Lib.Math.min.name Lib.Math.min.code 2 (some .int), Cond.methodLink RX4 161 yX1_open, Cond.instanceMethod yX1_open, Cond.selects RX1 yX1_open yX1_open, Cond.initialized RX1, Cond.code yX1_open cX1_open 1 none, Cond.fieldLink RX1 14 "BitMixer$Interval" "low" "J", Cond.constantLong RX1 18 (4294967295)]
def wsX4_decode_r4 : List Cond := [Cond.fieldLink RX1 20 "BitMixer$Interval" "high" "J", Cond.fieldLink RX1 23 "BitMixer$Interval" "x" "J", Cond.fieldLink RX1 26 "BitMixer$Interval" "next" "I", Cond.methodLink RX4 183 yX1_load, Cond.instanceMethod yX1_load, Cond.selects RX1 yX1_load yX1_load, Cond.code yX1_load cX1_load 3 none, Cond.methodLink RX1 30 yX1_pull, Cond.instanceMethod yX1_pull, Cond.selects RX1 yX1_pull yX1_pull, Cond.code yX1_pull cX1_pull 2 none, Cond.methodLink RX1 34 yX0_at, Cond.instanceMethod yX0_at, Cond.selects RX0 yX0_at yX0_at, Cond.initialized RX0, Cond.code yX0_at cX0_at 2 (some .int), Cond.fieldLink RX0 13 "BitMixer$ByteRow" "bytes" "[I", Cond.methodLink RX0 23 yX0_has, Cond.instanceMethod yX0_has, Cond.selects RX0 yX0_has yX0_has, Cond.code yX0_has cX0_has 2 (some .boolean), Cond.fieldLink RX0 19 "BitMixer$ByteRow" "count" "I", Cond.methodLink RX4 164 yX0_clear, Cond.instanceMethod yX0_clear]
def wsX4_decode_r5 : List Cond := [Cond.selects RX0 yX0_clear yX0_clear, Cond.code yX0_clear cX0_clear 1 none, Cond.methodLink RX4 187 yX4_decodeByte, Cond.instanceMethod yX4_decodeByte, Cond.selects RX4 yX4_decodeByte yX4_decodeByte, Cond.initialized RX4, Cond.code yX4_decodeByte cX4_decodeByte 8 (some .int), Cond.fieldLink RX4 237 "BitMixer$Interval" "x" "J", Cond.methodLink RX4 106 yX3_mixture, Cond.instanceMethod yX3_mixture, Cond.selects RX3 yX3_mixture yX3_mixture, Cond.code yX3_mixture cX3_mixture 5 (some .int), Cond.fieldLink RX3 69 "BitMixer$Model" "weights" "[I", Cond.methodLink RX3 76 Lib.Math.min.name, Cond.methodLink RX3 82 Lib.Math.max.name, Cond.static Lib.Math.max.name, Cond.code Lib.Math.max.name Lib.Math.max.code 2 (some .int), Cond.methodLink RX3 72 yX2_guess, Cond.instanceMethod yX2_guess, Cond.selects RX2 yX2_guess yX2_guess, Cond.code yX2_guess cX2_guess 1 (some .int), Cond.methodLink RX4 225 yX1_middle, Cond.instanceMethod yX1_middle, Cond.selects RX1 yX1_middle yX1_middle]
def wsX4_decode_r6 : List Cond := [Cond.code yX1_middle cX1_middle 2 (some .long), Cond.constantLong RX1 40 (4096), Cond.methodLink RX4 229 yX1_narrow, Cond.instanceMethod yX1_narrow, Cond.selects RX1 yX1_narrow yX1_narrow, Cond.code yX1_narrow cX1_narrow 4 none, Cond.methodLink RX4 233 yX1_isSettled, Cond.instanceMethod yX1_isSettled, Cond.selects RX1 yX1_isSettled yX1_isSettled, Cond.code yX1_isSettled cX1_isSettled 1 (some .boolean), Cond.methodLink RX1 42 yX1_topByte, Cond.static yX1_topByte, Cond.code yX1_topByte cX1_topByte 2 (some .int), Cond.methodLink RX4 174 yX1_shift, Cond.instanceMethod yX1_shift, Cond.selects RX1 yX1_shift yX1_shift, Cond.code yX1_shift cX1_shift 2 (some .int), Cond.constantLong RX1 46 (255), Cond.methodLink RX4 240 yX1_pull, Cond.methodLink RX4 110 yX3_learn, Cond.instanceMethod yX3_learn, Cond.selects RX3 yX3_learn yX3_learn, Cond.code yX3_learn cX3_learn 5 none, Cond.static yX4_quality]
def wsX4_decode_r7 : List Cond := [Cond.code yX4_quality cX4_quality 2 (some .int), Cond.methodLink RX3 89 yX2_adjustWeight, Cond.instanceMethod yX2_adjustWeight, Cond.selects RX2 yX2_adjustWeight yX2_adjustWeight, Cond.code yX2_adjustWeight cX2_adjustWeight 6 none, Cond.constant RX2 73 (60000), Cond.methodLink RX2 74 Lib.Math.max.name, Cond.methodLink RX2 66 yX2_guess, Cond.methodLink RX3 93 yX2_adjustCounter, Cond.instanceMethod yX2_adjustCounter, Cond.selects RX2 yX2_adjustCounter yX2_adjustCounter, Cond.code yX2_adjustCounter cX2_adjustCounter 3 none, Cond.fieldLink RX2 26 "BitMixer$Model" "rate" "I", Cond.methodLink RX3 97 yX3_step, Cond.instanceMethod yX3_step, Cond.selects RX3 yX3_step yX3_step, Cond.code yX3_step cX3_step 3 none, Cond.methodLink RX4 85 yX0_append, Cond.instanceMethod yX0_append, Cond.selects RX0 yX0_append yX0_append, Cond.code yX0_append cX0_append 2 none, Cond.methodLink RX4 190 yX4_differences, Cond.instanceMethod yX4_differences, Cond.selects RX4 yX4_differences yX4_differences]
def wsX4_decode_r8 : List Cond := [Cond.code yX4_differences cX4_differences 5 (some .int), Cond.fieldLink RX4 14 "BitMixer" "text" "LBitMixer$ByteRow;", Cond.fieldLink RX4 88 "BitMixer$ByteRow" "count" "I", Cond.methodLink RX4 243 Lib.Math.max.name, Cond.methodLink RX4 217 yX0_has, Cond.methodLink RX4 167 yX0_at]
def wsX4_decode : List Cond := .code yX4_decode cX4_decode 3 (some .int) :: ((wsX4_decode_r1 ++ (wsX4_decode_r2 ++ (wsX4_decode_r3 ++ (wsX4_decode_r4 ++ (wsX4_decode_r5 ++ (wsX4_decode_r6 ++ (wsX4_decode_r7 ++ wsX4_decode_r8))))))) ++ wsX40 ++ wsX30 ++ wsX20 ++ wsX10 ++ wsX00 ++ (vx_atS RX4 42 "java/lang/IllegalArgumentException" ["java/lang/RuntimeException", "java/lang/Exception"]).filter goodWord)
def wsX4_outputSize : List Cond := .code yX4_outputSize cX4_outputSize 1 (some .int) :: ([.fieldLink RX4 21 "BitMixer" "decoded" "LBitMixer$ByteRow;", .fieldLink RX4 88 "BitMixer$ByteRow" "count" "I"] ++ wsX40 ++ wsX00)
def wsX4_output : List Cond := .code yX4_output cX4_output 2 (some .int) :: ([.fieldLink RX4 21 "BitMixer" "decoded" "LBitMixer$ByteRow;", .methodLink RX4 100 yX4_requirePlace, .static yX4_requirePlace, .initialized RX4, .code yX4_requirePlace cX4_requirePlace 2 (some .int), .classLink RX4 127 "java/lang/IndexOutOfBoundsException", .initialized "java/lang/IndexOutOfBoundsException", .methodLink RX4 217 yX0_has, .instanceMethod yX0_has, .selects RX0 yX0_has yX0_has, .initialized RX0, .code yX0_has cX0_has 2 (some .boolean), .fieldLink RX0 19 "BitMixer$ByteRow" "count" "I", .fieldLink RX0 13 "BitMixer$ByteRow" "bytes" "[I", .methodLink RX4 167 yX0_at, .instanceMethod yX0_at, .selects RX0 yX0_at yX0_at, .code yX0_at cX0_at 2 (some .int), .methodLink RX0 23 yX0_has] ++ wsX40 ++ wsX00 ++ (vx_atS RX4 131 "java/lang/IndexOutOfBoundsException" ["java/lang/RuntimeException", "java/lang/Exception"]).filter goodWord)
def wsX4_ratio : List Cond := .code yX4_ratio cX4_ratio 1 (some .double) :: ([.fieldLink RX4 14 "BitMixer" "text" "LBitMixer$ByteRow;", .fieldLink RX4 88 "BitMixer$ByteRow" "count" "I", .fieldLink RX4 18 "BitMixer" "encoded" "LBitMixer$ByteRow;"] ++ wsX40 ++ wsX00)
def wsX4_digestModels : List Cond := .code yX4_digestModels cX4_digestModels 8 (some .long) :: ([.constantLong RX4 203 (31), .fieldLink RX4 27 "BitMixer" "predictor" "LBitMixer$Predictor;", .fieldLink RX4 50 "BitMixer$Predictor" "modelTotal" "I", .fieldLink RX4 207 "BitMixer$Predictor" "models" "[LBitMixer$Model;", .fieldLink RX4 249 "BitMixer$Model" "order" "I", .fieldLink RX4 72 "BitMixer$Model" "rate" "I", .fieldLink RX4 252 "BitMixer$Model" "t" "I", .fieldLink RX4 138 "BitMixer$Model" "weights" "[I", .fieldLink RX4 144 "BitMixer$Model" "collisionTotal" "I"] ++ wsX40 ++ wsX30 ++ wsX20)
def wsX4_digestBytes : List Cond := .code yX4_digestBytes cX4_digestBytes 6 (some .long) :: ([.constantLong RX4 203 (31), .fieldLink RX4 88 "BitMixer$ByteRow" "count" "I", .methodLink RX4 167 yX0_at, .instanceMethod yX0_at, .selects RX0 yX0_at yX0_at, .initialized RX0, .code yX0_at cX0_at 2 (some .int), .fieldLink RX0 13 "BitMixer$ByteRow" "bytes" "[I", .methodLink RX0 23 yX0_has, .instanceMethod yX0_has, .selects RX0 yX0_has yX0_has, .code yX0_has cX0_has 2 (some .boolean), .fieldLink RX0 19 "BitMixer$ByteRow" "count" "I"] ++ wsX00)
def wsX4_digest_r1 : List Cond := [Cond.constantLong RX4 193 (103), Cond.fieldLink RX4 14 "BitMixer" "text" "LBitMixer$ByteRow;", Cond.constantLong RX4 203 (31), Cond.fieldLink RX4 27 "BitMixer" "predictor" "LBitMixer$Predictor;", Cond.fieldLink RX4 152 "BitMixer$Predictor" "treeNode" "I", Cond.fieldLink RX4 103 "BitMixer$Predictor" "bitTotal" "I", Cond.fieldLink RX4 155 "BitMixer$Predictor" "errorSum" "J", Cond.fieldLink RX4 18 "BitMixer" "encoded" "LBitMixer$ByteRow;", Cond.fieldLink RX4 21 "BitMixer" "decoded" "LBitMixer$ByteRow;", Cond.methodLink RX4 195 yX4_digestModels, Cond.instanceMethod yX4_digestModels, Cond.selects RX4 yX4_digestModels yX4_digestModels, Cond.initialized RX4, Cond.code yX4_digestModels cX4_digestModels 8 (some .long), Cond.fieldLink RX4 50 "BitMixer$Predictor" "modelTotal" "I", Cond.fieldLink RX4 207 "BitMixer$Predictor" "models" "[LBitMixer$Model;", Cond.fieldLink RX4 249 "BitMixer$Model" "order" "I", Cond.fieldLink RX4 72 "BitMixer$Model" "rate" "I", Cond.fieldLink RX4 252 "BitMixer$Model" "t" "I", Cond.fieldLink RX4 138 "BitMixer$Model" "weights" "[I", Cond.fieldLink RX4 144 "BitMixer$Model" "collisionTotal" "I", Cond.methodLink RX4 199 yX4_digestBytes, Cond.static yX4_digestBytes, Cond.code yX4_digestBytes cX4_digestBytes 6 (some .long)]
def wsX4_digest_r2 : List Cond := [Cond.fieldLink RX4 88 "BitMixer$ByteRow" "count" "I", Cond.methodLink RX4 167 yX0_at, Cond.instanceMethod yX0_at, Cond.selects RX0 yX0_at yX0_at, Cond.initialized RX0, Cond.code yX0_at cX0_at 2 (some .int), Cond.fieldLink RX0 13 "BitMixer$ByteRow" "bytes" "[I", Cond.methodLink RX0 23 yX0_has, Cond.instanceMethod yX0_has, Cond.selects RX0 yX0_has yX0_has, Cond.code yX0_has cX0_has 2 (some .boolean), Cond.fieldLink RX0 19 "BitMixer$ByteRow" "count" "I"]
def wsX4_digest : List Cond := .code yX4_digest cX4_digest 3 (some .long) :: ((wsX4_digest_r1 ++ wsX4_digest_r2) ++ wsX40 ++ wsX30 ++ wsX20 ++ wsX00)
def wsX5_clear : List Cond := .code yX5_clear cX5_clear 2 none :: ([.fieldLink RX5 22 "BitMixerModel" "counters" "[I", .fieldLink RX5 28 "BitMixerModel" "lastNodes" "[I", .fieldLink RX5 31 "BitMixerModel" "weights" "[I", .fieldLink RX5 34 "BitMixerModel" "collisions" "[I", .fieldLink RX5 37 "BitMixerModel" "history" "[I", .fieldLink RX5 60 "BitMixerModel" "node" "I", .fieldLink RX5 63 "BitMixerModel" "observed" "I", .fieldLink RX5 66 "BitMixerModel" "error" "J"] ++ wsX50)
def wsX5_init : List Cond := .code yX5_init cX5_init 1 none :: ([.methodLink RX5 1 objectInit, .instanceMethod objectInit, .code objectInit ⟨#[0xb1]⟩ 1 none, .arrayClass .int, .fieldLink RX5 9 "BitMixerModel" "orders" "[I", .fieldLink RX5 13 "BitMixerModel" "rates" "[I", .fieldLink RX5 16 "BitMixerModel" "logs" "[I", .fieldLink RX5 19 "BitMixerModel" "text" "[I", .fieldLink RX5 22 "BitMixerModel" "counters" "[I", .fieldLink RX5 25 "BitMixerModel" "lastContexts" "[I", .fieldLink RX5 28 "BitMixerModel" "lastNodes" "[I", .fieldLink RX5 31 "BitMixerModel" "weights" "[I", .fieldLink RX5 34 "BitMixerModel" "collisions" "[I", .fieldLink RX5 37 "BitMixerModel" "history" "[I", .fieldLink RX5 40 "BitMixerModel" "code" "[I", .fieldLink RX5 43 "BitMixerModel" "output" "[I", .methodLink RX5 46 yX5_clear, .instanceMethod yX5_clear, .selects RX5 yX5_clear yX5_clear, .initialized RX5, .code yX5_clear cX5_clear 2 none, .fieldLink RX5 60 "BitMixerModel" "node" "I", .fieldLink RX5 63 "BitMixerModel" "observed" "I", .fieldLink RX5 66 "BitMixerModel" "error" "J"] ++ wsX50)
def wsX5_thrown : List Cond := .code yX5_thrown cX5_thrown 1 (some .int) :: ([.fieldLink RX5 49 "BitMixerModel" "thrown" "I"] ++ wsX50)
def wsX5_no : List Cond := .code yX5_no cX5_no 2 (some .int) :: ([.fieldLink RX5 49 "BitMixerModel" "thrown" "I"] ++ wsX50)
def wsX5_isIn : List Cond := .code yX5_isIn cX5_isIn 3 (some .boolean) :: ([])
def wsX5_isModel : List Cond := .code yX5_isModel cX5_isModel 2 (some .boolean) :: ([.fieldLink RX5 53 "BitMixerModel" "models" "I", .methodLink RX5 56 yX5_isIn, .static yX5_isIn, .initialized RX5, .code yX5_isIn cX5_isIn 3 (some .boolean)] ++ wsX50)
def wsX5_addModel_r1 : List Cond := [Cond.fieldLink RX5 49 "BitMixerModel" "thrown" "I", Cond.fieldLink RX5 53 "BitMixerModel" "models" "I", Cond.fieldLink RX5 9 "BitMixerModel" "orders" "[I", Cond.fieldLink RX5 13 "BitMixerModel" "rates" "[I", Cond.fieldLink RX5 16 "BitMixerModel" "logs" "[I", Cond.methodLink RX5 56 yX5_isIn, Cond.static yX5_isIn, Cond.initialized RX5, Cond.code yX5_isIn cX5_isIn 3 (some .boolean), Cond.methodLink RX5 70 yX5_no, Cond.instanceMethod yX5_no, Cond.selects RX5 yX5_no yX5_no, Cond.code yX5_no cX5_no 2 (some .int), Cond.methodLink RX5 46 yX5_clear, Cond.instanceMethod yX5_clear, Cond.selects RX5 yX5_clear yX5_clear, Cond.code yX5_clear cX5_clear 2 none, Cond.fieldLink RX5 22 "BitMixerModel" "counters" "[I", Cond.fieldLink RX5 28 "BitMixerModel" "lastNodes" "[I", Cond.fieldLink RX5 31 "BitMixerModel" "weights" "[I", Cond.fieldLink RX5 34 "BitMixerModel" "collisions" "[I", Cond.fieldLink RX5 37 "BitMixerModel" "history" "[I", Cond.fieldLink RX5 60 "BitMixerModel" "node" "I", Cond.fieldLink RX5 63 "BitMixerModel" "observed" "I"]
def wsX5_addModel_r2 : List Cond := [Cond.fieldLink RX5 66 "BitMixerModel" "error" "J"]
def wsX5_addModel : List Cond := .code yX5_addModel cX5_addModel 4 (some .int) :: ((wsX5_addModel_r1 ++ wsX5_addModel_r2) ++ wsX50)
def wsX5_removeModel : List Cond := .code yX5_removeModel cX5_removeModel 1 (some .int) :: ([.fieldLink RX5 49 "BitMixerModel" "thrown" "I", .fieldLink RX5 53 "BitMixerModel" "models" "I", .methodLink RX5 70 yX5_no, .instanceMethod yX5_no, .selects RX5 yX5_no yX5_no, .initialized RX5, .code yX5_no cX5_no 2 (some .int), .methodLink RX5 46 yX5_clear, .instanceMethod yX5_clear, .selects RX5 yX5_clear yX5_clear, .code yX5_clear cX5_clear 2 none, .fieldLink RX5 22 "BitMixerModel" "counters" "[I", .fieldLink RX5 28 "BitMixerModel" "lastNodes" "[I", .fieldLink RX5 31 "BitMixerModel" "weights" "[I", .fieldLink RX5 34 "BitMixerModel" "collisions" "[I", .fieldLink RX5 37 "BitMixerModel" "history" "[I", .fieldLink RX5 60 "BitMixerModel" "node" "I", .fieldLink RX5 63 "BitMixerModel" "observed" "I", .fieldLink RX5 66 "BitMixerModel" "error" "J"] ++ wsX50)
def wsX5_setRate_r1 : List Cond := [Cond.fieldLink RX5 49 "BitMixerModel" "thrown" "I", Cond.fieldLink RX5 13 "BitMixerModel" "rates" "[I", Cond.methodLink RX5 74 yX5_isModel, Cond.instanceMethod yX5_isModel, Cond.selects RX5 yX5_isModel yX5_isModel, Cond.initialized RX5, Cond.code yX5_isModel cX5_isModel 2 (some .boolean), Cond.fieldLink RX5 53 "BitMixerModel" "models" "I", Cond.methodLink RX5 56 yX5_isIn, Cond.static yX5_isIn, Cond.code yX5_isIn cX5_isIn 3 (some .boolean), Cond.methodLink RX5 70 yX5_no, Cond.instanceMethod yX5_no, Cond.selects RX5 yX5_no yX5_no, Cond.code yX5_no cX5_no 2 (some .int), Cond.methodLink RX5 46 yX5_clear, Cond.instanceMethod yX5_clear, Cond.selects RX5 yX5_clear yX5_clear, Cond.code yX5_clear cX5_clear 2 none, Cond.fieldLink RX5 22 "BitMixerModel" "counters" "[I", Cond.fieldLink RX5 28 "BitMixerModel" "lastNodes" "[I", Cond.fieldLink RX5 31 "BitMixerModel" "weights" "[I", Cond.fieldLink RX5 34 "BitMixerModel" "collisions" "[I", Cond.fieldLink RX5 37 "BitMixerModel" "history" "[I"]
def wsX5_setRate_r2 : List Cond := [Cond.fieldLink RX5 60 "BitMixerModel" "node" "I", Cond.fieldLink RX5 63 "BitMixerModel" "observed" "I", Cond.fieldLink RX5 66 "BitMixerModel" "error" "J"]
def wsX5_setRate : List Cond := .code yX5_setRate cX5_setRate 4 (some .int) :: ((wsX5_setRate_r1 ++ wsX5_setRate_r2) ++ wsX50)
def wsX5_modelCount : List Cond := .code yX5_modelCount cX5_modelCount 1 (some .int) :: ([.fieldLink RX5 49 "BitMixerModel" "thrown" "I", .fieldLink RX5 53 "BitMixerModel" "models" "I"] ++ wsX50)
def wsX5_feed : List Cond := .code yX5_feed cX5_feed 5 (some .int) :: ([.fieldLink RX5 49 "BitMixerModel" "thrown" "I", .fieldLink RX5 78 "BitMixerModel" "size" "I", .fieldLink RX5 19 "BitMixerModel" "text" "[I", .constantLong RX5 81 (255), .methodLink RX5 56 yX5_isIn, .static yX5_isIn, .initialized RX5, .code yX5_isIn cX5_isIn 3 (some .boolean), .methodLink RX5 70 yX5_no, .instanceMethod yX5_no, .selects RX5 yX5_no yX5_no, .code yX5_no cX5_no 2 (some .int)] ++ wsX50)
def wsX5_fill : List Cond := .code yX5_fill cX5_fill 4 (some .int) :: ([.fieldLink RX5 49 "BitMixerModel" "thrown" "I", .fieldLink RX5 78 "BitMixerModel" "size" "I", .fieldLink RX5 19 "BitMixerModel" "text" "[I", .methodLink RX5 56 yX5_isIn, .static yX5_isIn, .initialized RX5, .code yX5_isIn cX5_isIn 3 (some .boolean), .methodLink RX5 70 yX5_no, .instanceMethod yX5_no, .selects RX5 yX5_no yX5_no, .code yX5_no cX5_no 2 (some .int)] ++ wsX50)
def wsX5_cut : List Cond := .code yX5_cut cX5_cut 2 (some .int) :: ([.fieldLink RX5 49 "BitMixerModel" "thrown" "I", .fieldLink RX5 78 "BitMixerModel" "size" "I", .methodLink RX5 56 yX5_isIn, .static yX5_isIn, .initialized RX5, .code yX5_isIn cX5_isIn 3 (some .boolean), .methodLink RX5 70 yX5_no, .instanceMethod yX5_no, .selects RX5 yX5_no yX5_no, .code yX5_no cX5_no 2 (some .int)] ++ wsX50)
def wsX5_size : List Cond := .code yX5_size cX5_size 1 (some .int) :: ([.fieldLink RX5 49 "BitMixerModel" "thrown" "I", .fieldLink RX5 78 "BitMixerModel" "size" "I"] ++ wsX50)
def wsX5_byteAt : List Cond := .code yX5_byteAt cX5_byteAt 2 (some .int) :: ([.fieldLink RX5 49 "BitMixerModel" "thrown" "I", .fieldLink RX5 78 "BitMixerModel" "size" "I", .fieldLink RX5 19 "BitMixerModel" "text" "[I", .methodLink RX5 56 yX5_isIn, .static yX5_isIn, .initialized RX5, .code yX5_isIn cX5_isIn 3 (some .boolean), .methodLink RX5 70 yX5_no, .instanceMethod yX5_no, .selects RX5 yX5_no yX5_no, .code yX5_no cX5_no 2 (some .int)] ++ wsX50)
def wsX5_reset : List Cond := .code yX5_reset cX5_reset 2 (some .int) :: ([.fieldLink RX5 49 "BitMixerModel" "thrown" "I", .fieldLink RX5 63 "BitMixerModel" "observed" "I", .methodLink RX5 46 yX5_clear, .instanceMethod yX5_clear, .selects RX5 yX5_clear yX5_clear, .initialized RX5, .code yX5_clear cX5_clear 2 none, .fieldLink RX5 22 "BitMixerModel" "counters" "[I", .fieldLink RX5 28 "BitMixerModel" "lastNodes" "[I", .fieldLink RX5 31 "BitMixerModel" "weights" "[I", .fieldLink RX5 34 "BitMixerModel" "collisions" "[I", .fieldLink RX5 37 "BitMixerModel" "history" "[I", .fieldLink RX5 60 "BitMixerModel" "node" "I", .fieldLink RX5 66 "BitMixerModel" "error" "J"] ++ wsX50)
def wsX5_phase : List Cond := .code yX5_phase cX5_phase 2 (some .int) :: ([.fieldLink RX5 60 "BitMixerModel" "node" "I"] ++ wsX50)
def wsX5_context : List Cond := .code yX5_context cX5_context 4 (some .int) :: ([.fieldLink RX5 9 "BitMixerModel" "orders" "[I", .fieldLink RX5 37 "BitMixerModel" "history" "[I"] ++ wsX50)
def wsX5_indexOf : List Cond := .code yX5_indexOf cX5_indexOf 2 (some .int) :: ([.fieldLink RX5 60 "BitMixerModel" "node" "I", .fieldLink RX5 16 "BitMixerModel" "logs" "[I", .methodLink RX5 83 yX5_context, .instanceMethod yX5_context, .selects RX5 yX5_context yX5_context, .initialized RX5, .code yX5_context cX5_context 4 (some .int), .fieldLink RX5 9 "BitMixerModel" "orders" "[I", .fieldLink RX5 37 "BitMixerModel" "history" "[I"] ++ wsX50)
def wsX5_predictionOf : List Cond := .code yX5_predictionOf cX5_predictionOf 2 (some .int) :: ([.fieldLink RX5 22 "BitMixerModel" "counters" "[I", .methodLink RX5 86 yX5_indexOf, .instanceMethod yX5_indexOf, .selects RX5 yX5_indexOf yX5_indexOf, .initialized RX5, .code yX5_indexOf cX5_indexOf 2 (some .int), .fieldLink RX5 60 "BitMixerModel" "node" "I", .fieldLink RX5 16 "BitMixerModel" "logs" "[I", .methodLink RX5 83 yX5_context, .instanceMethod yX5_context, .selects RX5 yX5_context yX5_context, .code yX5_context cX5_context 4 (some .int), .fieldLink RX5 9 "BitMixerModel" "orders" "[I", .fieldLink RX5 37 "BitMixerModel" "history" "[I"] ++ wsX50)
def wsX5_mix_r1 : List Cond := [Cond.fieldLink RX5 53 "BitMixerModel" "models" "I", Cond.fieldLink RX5 31 "BitMixerModel" "weights" "[I", Cond.constantLong RX5 96 (4095), Cond.methodLink RX5 98 Lib.MathLoose.min_long.x, Cond.static Lib.MathLoose.min_long.x, Cond.initialized "java/lang/Math", Cond.code Lib.MathLoose.min_long.x Lib.MathLoose.min_long.code 4 (some .long), Cond.methodLink RX5 104 Lib.MathLoose.max_long.x, Cond.static Lib.MathLoose.max_long.x, Cond.code Lib.MathLoose.max_long.x Lib.MathLoose.max_long.code 4 (some .long), Cond.methodLink RX5 89 yX5_phase, Cond.instanceMethod yX5_phase, Cond.selects RX5 yX5_phase yX5_phase, Cond.initialized RX5, Cond.code yX5_phase cX5_phase 2 (some .int), Cond.fieldLink RX5 60 "BitMixerModel" "node" "I", Cond.methodLink RX5 93 yX5_predictionOf, Cond.instanceMethod yX5_predictionOf, Cond.selects RX5 yX5_predictionOf yX5_predictionOf, Cond.code yX5_predictionOf cX5_predictionOf 2 (some .int), Cond.fieldLink RX5 22 "BitMixerModel" "counters" "[I", Cond.methodLink RX5 86 yX5_indexOf, Cond.instanceMethod yX5_indexOf, Cond.selects RX5 yX5_indexOf yX5_indexOf]
def wsX5_mix_r2 : List Cond := [Cond.code yX5_indexOf cX5_indexOf 2 (some .int), Cond.fieldLink RX5 16 "BitMixerModel" "logs" "[I", Cond.methodLink RX5 83 yX5_context, Cond.instanceMethod yX5_context, Cond.selects RX5 yX5_context yX5_context, Cond.code yX5_context cX5_context 4 (some .int), Cond.fieldLink RX5 9 "BitMixerModel" "orders" "[I", Cond.fieldLink RX5 37 "BitMixerModel" "history" "[I"]
def wsX5_mix : List Cond := .code yX5_mix cX5_mix 7 (some .int) :: ((wsX5_mix_r1 ++ wsX5_mix_r2) ++ wsX50)
def wsX5_quality : List Cond := .code yX5_quality cX5_quality 2 (some .int) :: ([])
def wsX5_learn_r1 : List Cond := [Cond.fieldLink RX5 66 "BitMixerModel" "error" "J", Cond.fieldLink RX5 53 "BitMixerModel" "models" "I", Cond.fieldLink RX5 31 "BitMixerModel" "weights" "[I", Cond.constant RX5 114 (60000), Cond.methodLink RX5 115 Lib.Math.min.name, Cond.static Lib.Math.min.name, Cond.initialized "java/lang/Math", Cond.code Lib.Math.min.name Lib.Math.min.code 2 (some .int), Cond.methodLink RX5 118 Lib.Math.max.name, Cond.static Lib.Math.max.name, Cond.code Lib.Math.max.name Lib.Math.max.code 2 (some .int), Cond.fieldLink RX5 22 "BitMixerModel" "counters" "[I", Cond.fieldLink RX5 13 "BitMixerModel" "rates" "[I", Cond.fieldLink RX5 28 "BitMixerModel" "lastNodes" "[I", Cond.fieldLink RX5 60 "BitMixerModel" "node" "I", Cond.fieldLink RX5 25 "BitMixerModel" "lastContexts" "[I", Cond.fieldLink RX5 34 "BitMixerModel" "collisions" "[I", Cond.fieldLink RX5 37 "BitMixerModel" "history" "[I", Cond.fieldLink RX5 63 "BitMixerModel" "observed" "I", Cond.methodLink RX5 107 yX5_mix, Cond.instanceMethod yX5_mix, Cond.selects RX5 yX5_mix yX5_mix, Cond.initialized RX5, Cond.code yX5_mix cX5_mix 7 (some .int)]
def wsX5_learn_r2 : List Cond := [Cond.constantLong RX5 96 (4095), Cond.methodLink RX5 98 Lib.MathLoose.min_long.x, Cond.static Lib.MathLoose.min_long.x, Cond.code Lib.MathLoose.min_long.x Lib.MathLoose.min_long.code 4 (some .long), Cond.methodLink RX5 104 Lib.MathLoose.max_long.x, Cond.static Lib.MathLoose.max_long.x, Cond.code Lib.MathLoose.max_long.x Lib.MathLoose.max_long.code 4 (some .long), Cond.methodLink RX5 89 yX5_phase, Cond.instanceMethod yX5_phase, Cond.selects RX5 yX5_phase yX5_phase, Cond.code yX5_phase cX5_phase 2 (some .int), Cond.methodLink RX5 93 yX5_predictionOf, Cond.instanceMethod yX5_predictionOf, Cond.selects RX5 yX5_predictionOf yX5_predictionOf, Cond.code yX5_predictionOf cX5_predictionOf 2 (some .int), Cond.methodLink RX5 86 yX5_indexOf, Cond.instanceMethod yX5_indexOf, Cond.selects RX5 yX5_indexOf yX5_indexOf, Cond.code yX5_indexOf cX5_indexOf 2 (some .int), Cond.fieldLink RX5 16 "BitMixerModel" "logs" "[I", Cond.methodLink RX5 83 yX5_context, Cond.instanceMethod yX5_context, Cond.selects RX5 yX5_context yX5_context, Cond.code yX5_context cX5_context 4 (some .int)]
def wsX5_learn_r3 : List Cond := [Cond.fieldLink RX5 9 "BitMixerModel" "orders" "[I", Cond.methodLink RX5 110 yX5_quality, Cond.static yX5_quality, Cond.code yX5_quality cX5_quality 2 (some .int)]
def wsX5_learn : List Cond := .code yX5_learn cX5_learn 7 (some .int) :: ((wsX5_learn_r1 ++ (wsX5_learn_r2 ++ wsX5_learn_r3)) ++ wsX50)
def wsX5_observe_r1 : List Cond := [Cond.fieldLink RX5 49 "BitMixerModel" "thrown" "I", Cond.methodLink RX5 120 yX5_learn, Cond.instanceMethod yX5_learn, Cond.selects RX5 yX5_learn yX5_learn, Cond.initialized RX5, Cond.code yX5_learn cX5_learn 7 (some .int), Cond.fieldLink RX5 66 "BitMixerModel" "error" "J", Cond.fieldLink RX5 53 "BitMixerModel" "models" "I", Cond.fieldLink RX5 31 "BitMixerModel" "weights" "[I", Cond.constant RX5 114 (60000), Cond.methodLink RX5 115 Lib.Math.min.name, Cond.static Lib.Math.min.name, Cond.initialized "java/lang/Math", Cond.code Lib.Math.min.name Lib.Math.min.code 2 (some .int), Cond.methodLink RX5 118 Lib.Math.max.name, Cond.static Lib.Math.max.name, Cond.code Lib.Math.max.name Lib.Math.max.code 2 (some .int), Cond.fieldLink RX5 22 "BitMixerModel" "counters" "[I", Cond.fieldLink RX5 13 "BitMixerModel" "rates" "[I", Cond.fieldLink RX5 28 "BitMixerModel" "lastNodes" "[I", Cond.fieldLink RX5 60 "BitMixerModel" "node" "I", Cond.fieldLink RX5 25 "BitMixerModel" "lastContexts" "[I", Cond.fieldLink RX5 34 "BitMixerModel" "collisions" "[I", Cond.fieldLink RX5 37 "BitMixerModel" "history" "[I"]
def wsX5_observe_r2 : List Cond := [Cond.fieldLink RX5 63 "BitMixerModel" "observed" "I", Cond.methodLink RX5 107 yX5_mix, Cond.instanceMethod yX5_mix, Cond.selects RX5 yX5_mix yX5_mix, Cond.code yX5_mix cX5_mix 7 (some .int), Cond.constantLong RX5 96 (4095), Cond.methodLink RX5 98 Lib.MathLoose.min_long.x, Cond.static Lib.MathLoose.min_long.x, Cond.code Lib.MathLoose.min_long.x Lib.MathLoose.min_long.code 4 (some .long), Cond.methodLink RX5 104 Lib.MathLoose.max_long.x, Cond.static Lib.MathLoose.max_long.x, Cond.code Lib.MathLoose.max_long.x Lib.MathLoose.max_long.code 4 (some .long), Cond.methodLink RX5 89 yX5_phase, Cond.instanceMethod yX5_phase, Cond.selects RX5 yX5_phase yX5_phase, Cond.code yX5_phase cX5_phase 2 (some .int), Cond.methodLink RX5 93 yX5_predictionOf, Cond.instanceMethod yX5_predictionOf, Cond.selects RX5 yX5_predictionOf yX5_predictionOf, Cond.code yX5_predictionOf cX5_predictionOf 2 (some .int), Cond.methodLink RX5 86 yX5_indexOf, Cond.instanceMethod yX5_indexOf, Cond.selects RX5 yX5_indexOf yX5_indexOf, Cond.code yX5_indexOf cX5_indexOf 2 (some .int)]
def wsX5_observe_r3 : List Cond := [Cond.fieldLink RX5 16 "BitMixerModel" "logs" "[I", Cond.methodLink RX5 83 yX5_context, Cond.instanceMethod yX5_context, Cond.selects RX5 yX5_context yX5_context, Cond.code yX5_context cX5_context 4 (some .int), Cond.fieldLink RX5 9 "BitMixerModel" "orders" "[I", Cond.methodLink RX5 110 yX5_quality, Cond.static yX5_quality, Cond.code yX5_quality cX5_quality 2 (some .int)]
def wsX5_observe : List Cond := .code yX5_observe cX5_observe 2 (some .int) :: ((wsX5_observe_r1 ++ (wsX5_observe_r2 ++ wsX5_observe_r3)) ++ wsX50)
def wsX5_mixed_r1 : List Cond := [Cond.fieldLink RX5 49 "BitMixerModel" "thrown" "I", Cond.methodLink RX5 107 yX5_mix, Cond.instanceMethod yX5_mix, Cond.selects RX5 yX5_mix yX5_mix, Cond.initialized RX5, Cond.code yX5_mix cX5_mix 7 (some .int), Cond.fieldLink RX5 53 "BitMixerModel" "models" "I", Cond.fieldLink RX5 31 "BitMixerModel" "weights" "[I", Cond.constantLong RX5 96 (4095), Cond.methodLink RX5 98 Lib.MathLoose.min_long.x, Cond.static Lib.MathLoose.min_long.x, Cond.initialized "java/lang/Math", Cond.code Lib.MathLoose.min_long.x Lib.MathLoose.min_long.code 4 (some .long), Cond.methodLink RX5 104 Lib.MathLoose.max_long.x, Cond.static Lib.MathLoose.max_long.x, Cond.code Lib.MathLoose.max_long.x Lib.MathLoose.max_long.code 4 (some .long), Cond.methodLink RX5 89 yX5_phase, Cond.instanceMethod yX5_phase, Cond.selects RX5 yX5_phase yX5_phase, Cond.code yX5_phase cX5_phase 2 (some .int), Cond.fieldLink RX5 60 "BitMixerModel" "node" "I", Cond.methodLink RX5 93 yX5_predictionOf, Cond.instanceMethod yX5_predictionOf, Cond.selects RX5 yX5_predictionOf yX5_predictionOf]
def wsX5_mixed_r2 : List Cond := [Cond.code yX5_predictionOf cX5_predictionOf 2 (some .int), Cond.fieldLink RX5 22 "BitMixerModel" "counters" "[I", Cond.methodLink RX5 86 yX5_indexOf, Cond.instanceMethod yX5_indexOf, Cond.selects RX5 yX5_indexOf yX5_indexOf, Cond.code yX5_indexOf cX5_indexOf 2 (some .int), Cond.fieldLink RX5 16 "BitMixerModel" "logs" "[I", Cond.methodLink RX5 83 yX5_context, Cond.instanceMethod yX5_context, Cond.selects RX5 yX5_context yX5_context, Cond.code yX5_context cX5_context 4 (some .int), Cond.fieldLink RX5 9 "BitMixerModel" "orders" "[I", Cond.fieldLink RX5 37 "BitMixerModel" "history" "[I"]
def wsX5_mixed : List Cond := .code yX5_mixed cX5_mixed 1 (some .int) :: ((wsX5_mixed_r1 ++ wsX5_mixed_r2) ++ wsX50)
def wsX5_prediction_r1 : List Cond := [Cond.fieldLink RX5 49 "BitMixerModel" "thrown" "I", Cond.methodLink RX5 74 yX5_isModel, Cond.instanceMethod yX5_isModel, Cond.selects RX5 yX5_isModel yX5_isModel, Cond.initialized RX5, Cond.code yX5_isModel cX5_isModel 2 (some .boolean), Cond.fieldLink RX5 53 "BitMixerModel" "models" "I", Cond.methodLink RX5 56 yX5_isIn, Cond.static yX5_isIn, Cond.code yX5_isIn cX5_isIn 3 (some .boolean), Cond.methodLink RX5 93 yX5_predictionOf, Cond.instanceMethod yX5_predictionOf, Cond.selects RX5 yX5_predictionOf yX5_predictionOf, Cond.code yX5_predictionOf cX5_predictionOf 2 (some .int), Cond.fieldLink RX5 22 "BitMixerModel" "counters" "[I", Cond.methodLink RX5 86 yX5_indexOf, Cond.instanceMethod yX5_indexOf, Cond.selects RX5 yX5_indexOf yX5_indexOf, Cond.code yX5_indexOf cX5_indexOf 2 (some .int), Cond.fieldLink RX5 60 "BitMixerModel" "node" "I", Cond.fieldLink RX5 16 "BitMixerModel" "logs" "[I", Cond.methodLink RX5 83 yX5_context, Cond.instanceMethod yX5_context, Cond.selects RX5 yX5_context yX5_context]
def wsX5_prediction_r2 : List Cond := [Cond.code yX5_context cX5_context 4 (some .int), Cond.fieldLink RX5 9 "BitMixerModel" "orders" "[I", Cond.fieldLink RX5 37 "BitMixerModel" "history" "[I", Cond.methodLink RX5 70 yX5_no, Cond.instanceMethod yX5_no, Cond.selects RX5 yX5_no yX5_no, Cond.code yX5_no cX5_no 2 (some .int)]
def wsX5_prediction : List Cond := .code yX5_prediction cX5_prediction 2 (some .int) :: ((wsX5_prediction_r1 ++ wsX5_prediction_r2) ++ wsX50)
def wsX5_index_r1 : List Cond := [Cond.fieldLink RX5 49 "BitMixerModel" "thrown" "I", Cond.methodLink RX5 74 yX5_isModel, Cond.instanceMethod yX5_isModel, Cond.selects RX5 yX5_isModel yX5_isModel, Cond.initialized RX5, Cond.code yX5_isModel cX5_isModel 2 (some .boolean), Cond.fieldLink RX5 53 "BitMixerModel" "models" "I", Cond.methodLink RX5 56 yX5_isIn, Cond.static yX5_isIn, Cond.code yX5_isIn cX5_isIn 3 (some .boolean), Cond.methodLink RX5 86 yX5_indexOf, Cond.instanceMethod yX5_indexOf, Cond.selects RX5 yX5_indexOf yX5_indexOf, Cond.code yX5_indexOf cX5_indexOf 2 (some .int), Cond.fieldLink RX5 60 "BitMixerModel" "node" "I", Cond.fieldLink RX5 16 "BitMixerModel" "logs" "[I", Cond.methodLink RX5 83 yX5_context, Cond.instanceMethod yX5_context, Cond.selects RX5 yX5_context yX5_context, Cond.code yX5_context cX5_context 4 (some .int), Cond.fieldLink RX5 9 "BitMixerModel" "orders" "[I", Cond.fieldLink RX5 37 "BitMixerModel" "history" "[I", Cond.methodLink RX5 70 yX5_no, Cond.instanceMethod yX5_no]
def wsX5_index_r2 : List Cond := [Cond.selects RX5 yX5_no yX5_no, Cond.code yX5_no cX5_no 2 (some .int)]
def wsX5_index : List Cond := .code yX5_index cX5_index 2 (some .int) :: ((wsX5_index_r1 ++ wsX5_index_r2) ++ wsX50)
def wsX5_counter : List Cond := .code yX5_counter cX5_counter 3 (some .int) :: ([.fieldLink RX5 49 "BitMixerModel" "thrown" "I", .fieldLink RX5 16 "BitMixerModel" "logs" "[I", .fieldLink RX5 22 "BitMixerModel" "counters" "[I", .methodLink RX5 74 yX5_isModel, .instanceMethod yX5_isModel, .selects RX5 yX5_isModel yX5_isModel, .initialized RX5, .code yX5_isModel cX5_isModel 2 (some .boolean), .fieldLink RX5 53 "BitMixerModel" "models" "I", .methodLink RX5 56 yX5_isIn, .static yX5_isIn, .code yX5_isIn cX5_isIn 3 (some .boolean), .methodLink RX5 70 yX5_no, .instanceMethod yX5_no, .selects RX5 yX5_no yX5_no, .code yX5_no cX5_no 2 (some .int)] ++ wsX50)
def wsX5_weight : List Cond := .code yX5_weight cX5_weight 3 (some .int) :: ([.fieldLink RX5 49 "BitMixerModel" "thrown" "I", .fieldLink RX5 31 "BitMixerModel" "weights" "[I", .methodLink RX5 74 yX5_isModel, .instanceMethod yX5_isModel, .selects RX5 yX5_isModel yX5_isModel, .initialized RX5, .code yX5_isModel cX5_isModel 2 (some .boolean), .fieldLink RX5 53 "BitMixerModel" "models" "I", .methodLink RX5 56 yX5_isIn, .static yX5_isIn, .code yX5_isIn cX5_isIn 3 (some .boolean), .methodLink RX5 70 yX5_no, .instanceMethod yX5_no, .selects RX5 yX5_no yX5_no, .code yX5_no cX5_no 2 (some .int)] ++ wsX50)
def wsX5_leader : List Cond := .code yX5_leader cX5_leader 3 (some .int) :: ([.fieldLink RX5 49 "BitMixerModel" "thrown" "I", .fieldLink RX5 53 "BitMixerModel" "models" "I", .fieldLink RX5 31 "BitMixerModel" "weights" "[I", .methodLink RX5 89 yX5_phase, .instanceMethod yX5_phase, .selects RX5 yX5_phase yX5_phase, .initialized RX5, .code yX5_phase cX5_phase 2 (some .int), .fieldLink RX5 60 "BitMixerModel" "node" "I"] ++ wsX50)
def wsX5_collisions : List Cond := .code yX5_collisions cX5_collisions 2 (some .int) :: ([.fieldLink RX5 49 "BitMixerModel" "thrown" "I", .fieldLink RX5 34 "BitMixerModel" "collisions" "[I", .methodLink RX5 74 yX5_isModel, .instanceMethod yX5_isModel, .selects RX5 yX5_isModel yX5_isModel, .initialized RX5, .code yX5_isModel cX5_isModel 2 (some .boolean), .fieldLink RX5 53 "BitMixerModel" "models" "I", .methodLink RX5 56 yX5_isIn, .static yX5_isIn, .code yX5_isIn cX5_isIn 3 (some .boolean), .methodLink RX5 70 yX5_no, .instanceMethod yX5_no, .selects RX5 yX5_no yX5_no, .code yX5_no cX5_no 2 (some .int)] ++ wsX50)
def wsX5_history : List Cond := .code yX5_history cX5_history 2 (some .int) :: ([.fieldLink RX5 49 "BitMixerModel" "thrown" "I", .fieldLink RX5 37 "BitMixerModel" "history" "[I", .methodLink RX5 56 yX5_isIn, .static yX5_isIn, .initialized RX5, .code yX5_isIn cX5_isIn 3 (some .boolean), .methodLink RX5 70 yX5_no, .instanceMethod yX5_no, .selects RX5 yX5_no yX5_no, .code yX5_no cX5_no 2 (some .int)] ++ wsX50)
def wsX5_node : List Cond := .code yX5_node cX5_node 1 (some .int) :: ([.fieldLink RX5 49 "BitMixerModel" "thrown" "I", .fieldLink RX5 60 "BitMixerModel" "node" "I"] ++ wsX50)
def wsX5_observed : List Cond := .code yX5_observed cX5_observed 1 (some .int) :: ([.fieldLink RX5 49 "BitMixerModel" "thrown" "I", .fieldLink RX5 63 "BitMixerModel" "observed" "I"] ++ wsX50)
def wsX5_error : List Cond := .code yX5_error cX5_error 1 (some .long) :: ([.fieldLink RX5 49 "BitMixerModel" "thrown" "I", .fieldLink RX5 66 "BitMixerModel" "error" "J"] ++ wsX50)
def wsX5_meanError : List Cond := .code yX5_meanError cX5_meanError 1 (some .double) :: ([.fieldLink RX5 49 "BitMixerModel" "thrown" "I", .fieldLink RX5 63 "BitMixerModel" "observed" "I", .fieldLink RX5 66 "BitMixerModel" "error" "J", .constantDouble RX5 124 (4661225614328463360)] ++ wsX50)
def wsX5_put : List Cond := .code yX5_put cX5_put 2 none :: ([.fieldLink RX5 40 "BitMixerModel" "code" "[I", .fieldLink RX5 126 "BitMixerModel" "codeSize" "I"] ++ wsX50)
def wsX5_middle_r1 : List Cond := [Cond.fieldLink RX5 129 "BitMixerModel" "low" "J", Cond.fieldLink RX5 132 "BitMixerModel" "high" "J", Cond.constantLong RX5 135 (4096), Cond.methodLink RX5 107 yX5_mix, Cond.instanceMethod yX5_mix, Cond.selects RX5 yX5_mix yX5_mix, Cond.initialized RX5, Cond.code yX5_mix cX5_mix 7 (some .int), Cond.fieldLink RX5 53 "BitMixerModel" "models" "I", Cond.fieldLink RX5 31 "BitMixerModel" "weights" "[I", Cond.constantLong RX5 96 (4095), Cond.methodLink RX5 98 Lib.MathLoose.min_long.x, Cond.static Lib.MathLoose.min_long.x, Cond.initialized "java/lang/Math", Cond.code Lib.MathLoose.min_long.x Lib.MathLoose.min_long.code 4 (some .long), Cond.methodLink RX5 104 Lib.MathLoose.max_long.x, Cond.static Lib.MathLoose.max_long.x, Cond.code Lib.MathLoose.max_long.x Lib.MathLoose.max_long.code 4 (some .long), Cond.methodLink RX5 89 yX5_phase, Cond.instanceMethod yX5_phase, Cond.selects RX5 yX5_phase yX5_phase, Cond.code yX5_phase cX5_phase 2 (some .int), Cond.fieldLink RX5 60 "BitMixerModel" "node" "I", Cond.methodLink RX5 93 yX5_predictionOf]
def wsX5_middle_r2 : List Cond := [Cond.instanceMethod yX5_predictionOf, Cond.selects RX5 yX5_predictionOf yX5_predictionOf, Cond.code yX5_predictionOf cX5_predictionOf 2 (some .int), Cond.fieldLink RX5 22 "BitMixerModel" "counters" "[I", Cond.methodLink RX5 86 yX5_indexOf, Cond.instanceMethod yX5_indexOf, Cond.selects RX5 yX5_indexOf yX5_indexOf, Cond.code yX5_indexOf cX5_indexOf 2 (some .int), Cond.fieldLink RX5 16 "BitMixerModel" "logs" "[I", Cond.methodLink RX5 83 yX5_context, Cond.instanceMethod yX5_context, Cond.selects RX5 yX5_context yX5_context, Cond.code yX5_context cX5_context 4 (some .int), Cond.fieldLink RX5 9 "BitMixerModel" "orders" "[I", Cond.fieldLink RX5 37 "BitMixerModel" "history" "[I"]
def wsX5_middle : List Cond := .code yX5_middle cX5_middle 1 (some .long) :: ((wsX5_middle_r1 ++ wsX5_middle_r2) ++ wsX50)
def wsX5_part_r1 : List Cond := [Cond.fieldLink RX5 132 "BitMixerModel" "high" "J", Cond.fieldLink RX5 129 "BitMixerModel" "low" "J", Cond.methodLink RX5 137 yX5_middle, Cond.instanceMethod yX5_middle, Cond.selects RX5 yX5_middle yX5_middle, Cond.initialized RX5, Cond.code yX5_middle cX5_middle 1 (some .long), Cond.constantLong RX5 135 (4096), Cond.methodLink RX5 107 yX5_mix, Cond.instanceMethod yX5_mix, Cond.selects RX5 yX5_mix yX5_mix, Cond.code yX5_mix cX5_mix 7 (some .int), Cond.fieldLink RX5 53 "BitMixerModel" "models" "I", Cond.fieldLink RX5 31 "BitMixerModel" "weights" "[I", Cond.constantLong RX5 96 (4095), Cond.methodLink RX5 98 Lib.MathLoose.min_long.x, Cond.static Lib.MathLoose.min_long.x, Cond.initialized "java/lang/Math", Cond.code Lib.MathLoose.min_long.x Lib.MathLoose.min_long.code 4 (some .long), Cond.methodLink RX5 104 Lib.MathLoose.max_long.x, Cond.static Lib.MathLoose.max_long.x, Cond.code Lib.MathLoose.max_long.x Lib.MathLoose.max_long.code 4 (some .long), Cond.methodLink RX5 89 yX5_phase, Cond.instanceMethod yX5_phase]
def wsX5_part_r2 : List Cond := [Cond.selects RX5 yX5_phase yX5_phase, Cond.code yX5_phase cX5_phase 2 (some .int), Cond.fieldLink RX5 60 "BitMixerModel" "node" "I", Cond.methodLink RX5 93 yX5_predictionOf, Cond.instanceMethod yX5_predictionOf, Cond.selects RX5 yX5_predictionOf yX5_predictionOf, Cond.code yX5_predictionOf cX5_predictionOf 2 (some .int), Cond.fieldLink RX5 22 "BitMixerModel" "counters" "[I", Cond.methodLink RX5 86 yX5_indexOf, Cond.instanceMethod yX5_indexOf, Cond.selects RX5 yX5_indexOf yX5_indexOf, Cond.code yX5_indexOf cX5_indexOf 2 (some .int), Cond.fieldLink RX5 16 "BitMixerModel" "logs" "[I", Cond.methodLink RX5 83 yX5_context, Cond.instanceMethod yX5_context, Cond.selects RX5 yX5_context yX5_context, Cond.code yX5_context cX5_context 4 (some .int), Cond.fieldLink RX5 9 "BitMixerModel" "orders" "[I", Cond.fieldLink RX5 37 "BitMixerModel" "history" "[I"]
def wsX5_part : List Cond := .code yX5_part cX5_part 4 none :: ((wsX5_part_r1 ++ wsX5_part_r2) ++ wsX50)
def wsX5_areSame : List Cond := .code yX5_areSame cX5_areSame 1 (some .boolean) :: ([.fieldLink RX5 129 "BitMixerModel" "low" "J", .fieldLink RX5 132 "BitMixerModel" "high" "J"] ++ wsX50)
def wsX5_shift : List Cond := .code yX5_shift cX5_shift 1 none :: ([.fieldLink RX5 129 "BitMixerModel" "low" "J", .constantLong RX5 141 (4294967295), .fieldLink RX5 132 "BitMixerModel" "high" "J", .constantLong RX5 81 (255)] ++ wsX50)
def wsX5_encode_r1 : List Cond := [Cond.fieldLink RX5 49 "BitMixerModel" "thrown" "I", Cond.fieldLink RX5 126 "BitMixerModel" "codeSize" "I", Cond.fieldLink RX5 129 "BitMixerModel" "low" "J", Cond.constantLong RX5 141 (4294967295), Cond.fieldLink RX5 132 "BitMixerModel" "high" "J", Cond.fieldLink RX5 78 "BitMixerModel" "size" "I", Cond.fieldLink RX5 19 "BitMixerModel" "text" "[I", Cond.constantLong RX5 81 (255), Cond.methodLink RX5 46 yX5_clear, Cond.instanceMethod yX5_clear, Cond.selects RX5 yX5_clear yX5_clear, Cond.initialized RX5, Cond.code yX5_clear cX5_clear 2 none, Cond.fieldLink RX5 22 "BitMixerModel" "counters" "[I", Cond.fieldLink RX5 28 "BitMixerModel" "lastNodes" "[I", Cond.fieldLink RX5 31 "BitMixerModel" "weights" "[I", Cond.fieldLink RX5 34 "BitMixerModel" "collisions" "[I", Cond.fieldLink RX5 37 "BitMixerModel" "history" "[I", Cond.fieldLink RX5 60 "BitMixerModel" "node" "I", Cond.fieldLink RX5 63 "BitMixerModel" "observed" "I", Cond.fieldLink RX5 66 "BitMixerModel" "error" "J", Cond.methodLink RX5 143 yX5_part, Cond.instanceMethod yX5_part, Cond.selects RX5 yX5_part yX5_part]
def wsX5_encode_r2 : List Cond := [Cond.code yX5_part cX5_part 4 none, Cond.methodLink RX5 137 yX5_middle, Cond.instanceMethod yX5_middle, Cond.selects RX5 yX5_middle yX5_middle, Cond.code yX5_middle cX5_middle 1 (some .long), Cond.constantLong RX5 135 (4096), Cond.methodLink RX5 107 yX5_mix, Cond.instanceMethod yX5_mix, Cond.selects RX5 yX5_mix yX5_mix, Cond.code yX5_mix cX5_mix 7 (some .int), Cond.fieldLink RX5 53 "BitMixerModel" "models" "I", Cond.constantLong RX5 96 (4095), Cond.methodLink RX5 98 Lib.MathLoose.min_long.x, Cond.static Lib.MathLoose.min_long.x, Cond.initialized "java/lang/Math", Cond.code Lib.MathLoose.min_long.x Lib.MathLoose.min_long.code 4 (some .long), Cond.methodLink RX5 104 Lib.MathLoose.max_long.x, Cond.static Lib.MathLoose.max_long.x, Cond.code Lib.MathLoose.max_long.x Lib.MathLoose.max_long.code 4 (some .long), Cond.methodLink RX5 89 yX5_phase, Cond.instanceMethod yX5_phase, Cond.selects RX5 yX5_phase yX5_phase, Cond.code yX5_phase cX5_phase 2 (some .int), Cond.methodLink RX5 93 yX5_predictionOf]
def wsX5_encode_r3 : List Cond := [Cond.instanceMethod yX5_predictionOf, Cond.selects RX5 yX5_predictionOf yX5_predictionOf, Cond.code yX5_predictionOf cX5_predictionOf 2 (some .int), Cond.methodLink RX5 86 yX5_indexOf, Cond.instanceMethod yX5_indexOf, Cond.selects RX5 yX5_indexOf yX5_indexOf, Cond.code yX5_indexOf cX5_indexOf 2 (some .int), Cond.fieldLink RX5 16 "BitMixerModel" "logs" "[I", Cond.methodLink RX5 83 yX5_context, Cond.instanceMethod yX5_context, Cond.selects RX5 yX5_context yX5_context, Cond.code yX5_context cX5_context 4 (some .int), Cond.fieldLink RX5 9 "BitMixerModel" "orders" "[I", Cond.methodLink RX5 147 yX5_areSame, Cond.instanceMethod yX5_areSame, Cond.selects RX5 yX5_areSame yX5_areSame, Cond.code yX5_areSame cX5_areSame 1 (some .boolean), Cond.methodLink RX5 151 yX5_put, Cond.instanceMethod yX5_put, Cond.selects RX5 yX5_put yX5_put, Cond.code yX5_put cX5_put 2 none, Cond.fieldLink RX5 40 "BitMixerModel" "code" "[I", Cond.methodLink RX5 155 yX5_shift, Cond.instanceMethod yX5_shift]
def wsX5_encode_r4 : List Cond := [Cond.selects RX5 yX5_shift yX5_shift, Cond.code yX5_shift cX5_shift 1 none, Cond.methodLink RX5 120 yX5_learn, Cond.instanceMethod yX5_learn, Cond.selects RX5 yX5_learn yX5_learn, Cond.code yX5_learn cX5_learn 7 (some .int), Cond.constant RX5 114 (60000), Cond.methodLink RX5 115 Lib.Math.min.name, Cond.static Lib.Math.min.name, Cond.code Lib.Math.min.name Lib.Math.min.code 2 (some .int), Cond.methodLink RX5 118 Lib.Math.max.name, Cond.static Lib.Math.max.name, Cond.code Lib.Math.max.name Lib.Math.max.code 2 (some .int), Cond.fieldLink RX5 13 "BitMixerModel" "rates" "[I", Cond.fieldLink RX5 25 "BitMixerModel" "lastContexts" "[I", Cond.methodLink RX5 110 yX5_quality, Cond.static yX5_quality, Cond.code yX5_quality cX5_quality 2 (some .int)]
def wsX5_encode : List Cond := .code yX5_encode cX5_encode 4 (some .int) :: ((wsX5_encode_r1 ++ (wsX5_encode_r2 ++ (wsX5_encode_r3 ++ wsX5_encode_r4))) ++ wsX50)
def wsX5_codeSize : List Cond := .code yX5_codeSize cX5_codeSize 1 (some .int) :: ([.fieldLink RX5 49 "BitMixerModel" "thrown" "I", .fieldLink RX5 126 "BitMixerModel" "codeSize" "I"] ++ wsX50)
def wsX5_code : List Cond := .code yX5_code cX5_code 2 (some .int) :: ([.fieldLink RX5 49 "BitMixerModel" "thrown" "I", .fieldLink RX5 126 "BitMixerModel" "codeSize" "I", .fieldLink RX5 40 "BitMixerModel" "code" "[I", .methodLink RX5 56 yX5_isIn, .static yX5_isIn, .initialized RX5, .code yX5_isIn cX5_isIn 3 (some .boolean), .methodLink RX5 70 yX5_no, .instanceMethod yX5_no, .selects RX5 yX5_no yX5_no, .code yX5_no cX5_no 2 (some .int)] ++ wsX50)
def wsX5_setCode : List Cond := .code yX5_setCode cX5_setCode 4 (some .int) :: ([.fieldLink RX5 49 "BitMixerModel" "thrown" "I", .fieldLink RX5 126 "BitMixerModel" "codeSize" "I", .fieldLink RX5 40 "BitMixerModel" "code" "[I", .methodLink RX5 56 yX5_isIn, .static yX5_isIn, .initialized RX5, .code yX5_isIn cX5_isIn 3 (some .boolean), .methodLink RX5 70 yX5_no, .instanceMethod yX5_no, .selects RX5 yX5_no yX5_no, .code yX5_no cX5_no 2 (some .int)] ++ wsX50)
def wsX5_cutCode : List Cond := .code yX5_cutCode cX5_cutCode 2 (some .int) :: ([.fieldLink RX5 49 "BitMixerModel" "thrown" "I", .fieldLink RX5 126 "BitMixerModel" "codeSize" "I", .methodLink RX5 56 yX5_isIn, .static yX5_isIn, .initialized RX5, .code yX5_isIn cX5_isIn 3 (some .boolean), .methodLink RX5 70 yX5_no, .instanceMethod yX5_no, .selects RX5 yX5_no yX5_no, .code yX5_no cX5_no 2 (some .int)] ++ wsX50)
def wsX5_byteOfCode : List Cond := .code yX5_byteOfCode cX5_byteOfCode 2 (some .int) :: ([.fieldLink RX5 126 "BitMixerModel" "codeSize" "I", .fieldLink RX5 40 "BitMixerModel" "code" "[I"] ++ wsX50)
def wsX5_differences : List Cond := .code yX5_differences cX5_differences 3 (some .int) :: ([.fieldLink RX5 78 "BitMixerModel" "size" "I", .fieldLink RX5 163 "BitMixerModel" "made" "I", .methodLink RX5 169 Lib.Math.abs.name, .static Lib.Math.abs.name, .initialized "java/lang/Math", .code Lib.Math.abs.name Lib.Math.abs.code 1 (some .int), .fieldLink RX5 19 "BitMixerModel" "text" "[I", .fieldLink RX5 43 "BitMixerModel" "output" "[I"] ++ wsX50)
def wsX5_decode_r1 : List Cond := [Cond.fieldLink RX5 49 "BitMixerModel" "thrown" "I", Cond.fieldLink RX5 129 "BitMixerModel" "low" "J", Cond.constantLong RX5 141 (4294967295), Cond.fieldLink RX5 132 "BitMixerModel" "high" "J", Cond.constantLong RX5 158 (256), Cond.fieldLink RX5 163 "BitMixerModel" "made" "I", Cond.fieldLink RX5 43 "BitMixerModel" "output" "[I", Cond.methodLink RX5 56 yX5_isIn, Cond.static yX5_isIn, Cond.initialized RX5, Cond.code yX5_isIn cX5_isIn 3 (some .boolean), Cond.methodLink RX5 70 yX5_no, Cond.instanceMethod yX5_no, Cond.selects RX5 yX5_no yX5_no, Cond.code yX5_no cX5_no 2 (some .int), Cond.methodLink RX5 46 yX5_clear, Cond.instanceMethod yX5_clear, Cond.selects RX5 yX5_clear yX5_clear, Cond.code yX5_clear cX5_clear 2 none, Cond.fieldLink RX5 22 "BitMixerModel" "counters" "[I", Cond.fieldLink RX5 28 "BitMixerModel" "lastNodes" "[I", Cond.fieldLink RX5 31 "BitMixerModel" "weights" "[I", Cond.fieldLink RX5 34 "BitMixerModel" "collisions" "[I", Cond.fieldLink RX5 37 "BitMixerModel" "history" "[I"]
def wsX5_decode_r2 : List Cond := [Cond.fieldLink RX5 60 "BitMixerModel" "node" "I", Cond.fieldLink RX5 63 "BitMixerModel" "observed" "I", Cond.fieldLink RX5 66 "BitMixerModel" "error" "J", Cond.methodLink RX5 160 yX5_byteOfCode, Cond.instanceMethod yX5_byteOfCode, Cond.selects RX5 yX5_byteOfCode yX5_byteOfCode, Cond.code yX5_byteOfCode cX5_byteOfCode 2 (some .int), Cond.fieldLink RX5 126 "BitMixerModel" "codeSize" "I", Cond.fieldLink RX5 40 "BitMixerModel" "code" "[I", Cond.methodLink RX5 137 yX5_middle, Cond.instanceMethod yX5_middle, Cond.selects RX5 yX5_middle yX5_middle, Cond.code yX5_middle cX5_middle 1 (some .long), Cond.constantLong RX5 135 (4096), Cond.methodLink RX5 107 yX5_mix, Cond.instanceMethod yX5_mix, Cond.selects RX5 yX5_mix yX5_mix, Cond.code yX5_mix cX5_mix 7 (some .int), Cond.fieldLink RX5 53 "BitMixerModel" "models" "I", Cond.constantLong RX5 96 (4095), Cond.methodLink RX5 98 Lib.MathLoose.min_long.x, Cond.static Lib.MathLoose.min_long.x, Cond.initialized "java/lang/Math", Cond.code Lib.MathLoose.min_long.x Lib.MathLoose.min_long.code 4 (some .long)]
def wsX5_decode_r3 : List Cond := [Cond.methodLink RX5 104 Lib.MathLoose.max_long.x, Cond.static Lib.MathLoose.max_long.x, Cond.code Lib.MathLoose.max_long.x Lib.MathLoose.max_long.code 4 (some .long), Cond.methodLink RX5 89 yX5_phase, Cond.instanceMethod yX5_phase, Cond.selects RX5 yX5_phase yX5_phase, Cond.code yX5_phase cX5_phase 2 (some .int), Cond.methodLink RX5 93 yX5_predictionOf, Cond.instanceMethod yX5_predictionOf, Cond.selects RX5 yX5_predictionOf yX5_predictionOf, Cond.code yX5_predictionOf cX5_predictionOf 2 (some .int), Cond.methodLink RX5 86 yX5_indexOf, Cond.instanceMethod yX5_indexOf, Cond.selects RX5 yX5_indexOf yX5_indexOf, Cond.code yX5_indexOf cX5_indexOf 2 (some .int), Cond.fieldLink RX5 16 "BitMixerModel" "logs" "[I", Cond.methodLink RX5 83 yX5_context, Cond.instanceMethod yX5_context, Cond.selects RX5 yX5_context yX5_context, Cond.code yX5_context cX5_context 4 (some .int), Cond.fieldLink RX5 9 "BitMixerModel" "orders" "[I", Cond.methodLink RX5 143 yX5_part, Cond.instanceMethod yX5_part, Cond.selects RX5 yX5_part yX5_part]
def wsX5_decode_r4 : List Cond := [Cond.code yX5_part cX5_part 4 none, Cond.methodLink RX5 147 yX5_areSame, Cond.instanceMethod yX5_areSame, Cond.selects RX5 yX5_areSame yX5_areSame, Cond.code yX5_areSame cX5_areSame 1 (some .boolean), Cond.methodLink RX5 155 yX5_shift, Cond.instanceMethod yX5_shift, Cond.selects RX5 yX5_shift yX5_shift, Cond.code yX5_shift cX5_shift 1 none, Cond.constantLong RX5 81 (255), Cond.methodLink RX5 120 yX5_learn, Cond.instanceMethod yX5_learn, Cond.selects RX5 yX5_learn yX5_learn, Cond.code yX5_learn cX5_learn 7 (some .int), Cond.constant RX5 114 (60000), Cond.methodLink RX5 115 Lib.Math.min.name, Cond.static Lib.Math.min.name, Cond.code Lib.Math.min.name Lib.Math.min.code 2 (some .int), Cond.methodLink RX5 118 Lib.Math.max.name, Cond.static Lib.Math.max.name, Cond.code Lib.Math.max.name Lib.Math.max.code 2 (some .int), Cond.fieldLink RX5 13 "BitMixerModel" "rates" "[I", Cond.fieldLink RX5 25 "BitMixerModel" "lastContexts" "[I", Cond.methodLink RX5 110 yX5_quality]
def wsX5_decode_r5 : List Cond := [Cond.static yX5_quality, Cond.code yX5_quality cX5_quality 2 (some .int), Cond.methodLink RX5 166 yX5_differences, Cond.instanceMethod yX5_differences, Cond.selects RX5 yX5_differences yX5_differences, Cond.code yX5_differences cX5_differences 3 (some .int), Cond.fieldLink RX5 78 "BitMixerModel" "size" "I", Cond.methodLink RX5 169 Lib.Math.abs.name, Cond.static Lib.Math.abs.name, Cond.code Lib.Math.abs.name Lib.Math.abs.code 1 (some .int), Cond.fieldLink RX5 19 "BitMixerModel" "text" "[I"]
def wsX5_decode : List Cond := .code yX5_decode cX5_decode 9 (some .int) :: ((wsX5_decode_r1 ++ (wsX5_decode_r2 ++ (wsX5_decode_r3 ++ (wsX5_decode_r4 ++ wsX5_decode_r5)))) ++ wsX50)
def wsX5_outputSize : List Cond := .code yX5_outputSize cX5_outputSize 1 (some .int) :: ([.fieldLink RX5 49 "BitMixerModel" "thrown" "I", .fieldLink RX5 163 "BitMixerModel" "made" "I"] ++ wsX50)
def wsX5_output : List Cond := .code yX5_output cX5_output 2 (some .int) :: ([.fieldLink RX5 49 "BitMixerModel" "thrown" "I", .fieldLink RX5 163 "BitMixerModel" "made" "I", .fieldLink RX5 43 "BitMixerModel" "output" "[I", .methodLink RX5 56 yX5_isIn, .static yX5_isIn, .initialized RX5, .code yX5_isIn cX5_isIn 3 (some .boolean), .methodLink RX5 70 yX5_no, .instanceMethod yX5_no, .selects RX5 yX5_no yX5_no, .code yX5_no cX5_no 2 (some .int)] ++ wsX50)
def wsX5_ratio : List Cond := .code yX5_ratio cX5_ratio 1 (some .double) :: ([.fieldLink RX5 49 "BitMixerModel" "thrown" "I", .fieldLink RX5 78 "BitMixerModel" "size" "I", .fieldLink RX5 126 "BitMixerModel" "codeSize" "I"] ++ wsX50)
def wsX5_digest : List Cond := .code yX5_digest cX5_digest 5 (some .long) :: ([.fieldLink RX5 49 "BitMixerModel" "thrown" "I", .constantLong RX5 172 (3193), .fieldLink RX5 53 "BitMixerModel" "models" "I", .constantLong RX5 174 (31), .fieldLink RX5 9 "BitMixerModel" "orders" "[I", .fieldLink RX5 13 "BitMixerModel" "rates" "[I", .fieldLink RX5 16 "BitMixerModel" "logs" "[I", .fieldLink RX5 31 "BitMixerModel" "weights" "[I", .fieldLink RX5 34 "BitMixerModel" "collisions" "[I", .fieldLink RX5 78 "BitMixerModel" "size" "I", .fieldLink RX5 19 "BitMixerModel" "text" "[I", .fieldLink RX5 60 "BitMixerModel" "node" "I", .fieldLink RX5 63 "BitMixerModel" "observed" "I", .fieldLink RX5 66 "BitMixerModel" "error" "J", .fieldLink RX5 126 "BitMixerModel" "codeSize" "I", .fieldLink RX5 40 "BitMixerModel" "code" "[I", .fieldLink RX5 163 "BitMixerModel" "made" "I", .fieldLink RX5 43 "BitMixerModel" "output" "[I"] ++ wsX50)
def wsJ9_abs_0f7a4 : List Cond := .code yJ9_abs_0f7a4 cJ9_abs_0f7a4 1 (some .int) :: ([])
def wsJ9_max_7cf53 : List Cond := .code yJ9_max_7cf53 cJ9_max_7cf53 2 (some .int) :: ([])
def wsJ9_max_f86c9 : List Cond := .code yJ9_max_f86c9 cJ9_max_f86c9 4 (some .long) :: ([])
def wsJ9_min_7cf53 : List Cond := .code yJ9_min_7cf53 cJ9_min_7cf53 2 (some .int) :: ([])
def wsJ9_min_f86c9 : List Cond := .code yJ9_min_f86c9 cJ9_min_f86c9 4 (some .long) :: ([])
def wsL_addModel_r1 : List Cond := [Cond.classLink RL 13 "java/lang/IllegalArgumentException", Cond.classLink RL 15 "java/lang/IllegalStateException", Cond.methodLink RL 7 yX4_addModel, Cond.instanceMethod yX4_addModel, Cond.selects RX4 yX4_addModel yX4_addModel, Cond.initialized RX4, Cond.code yX4_addModel cX4_addModel 4 (some .int), Cond.classLink RX4 38 "java/lang/IllegalArgumentException", Cond.initialized "java/lang/IllegalArgumentException", Cond.classLink RX4 54 "java/lang/IllegalStateException", Cond.initialized "java/lang/IllegalStateException", Cond.fieldLink RX4 27 "BitMixer" "predictor" "LBitMixer$Predictor;", Cond.fieldLink RX4 50 "BitMixer$Predictor" "modelTotal" "I", Cond.methodLink RX4 45 yX4_requireRate, Cond.static yX4_requireRate, Cond.code yX4_requireRate cX4_requireRate 1 none, Cond.methodLink RX4 59 yX3_takeModel, Cond.instanceMethod yX3_takeModel, Cond.selects RX3 yX3_takeModel yX3_takeModel, Cond.initialized RX3, Cond.code yX3_takeModel cX3_takeModel 4 none, Cond.fieldLink RX3 18 "BitMixer$Predictor" "modelTotal" "I", Cond.fieldLink RX3 11 "BitMixer$Predictor" "models" "[LBitMixer$Model;", Cond.methodLink RX3 29 yX2_shape]
def wsL_addModel_r2 : List Cond := [Cond.instanceMethod yX2_shape, Cond.selects RX2 yX2_shape yX2_shape, Cond.initialized RX2, Cond.code yX2_shape cX2_shape 4 none, Cond.fieldLink RX2 22 "BitMixer$Model" "order" "I", Cond.fieldLink RX2 26 "BitMixer$Model" "rate" "I", Cond.fieldLink RX2 29 "BitMixer$Model" "t" "I", Cond.methodLink RX3 26 yX3_restart, Cond.instanceMethod yX3_restart, Cond.selects RX3 yX3_restart yX3_restart, Cond.code yX3_restart cX3_restart 2 none, Cond.fieldLink RX3 22 "BitMixer$Predictor" "latest" "[I", Cond.fieldLink RX3 42 "BitMixer$Predictor" "treeNode" "I", Cond.fieldLink RX3 45 "BitMixer$Predictor" "phase" "I", Cond.fieldLink RX3 48 "BitMixer$Predictor" "bitTotal" "I", Cond.fieldLink RX3 51 "BitMixer$Predictor" "errorSum" "J", Cond.methodLink RX3 33 yX2_forget, Cond.instanceMethod yX2_forget, Cond.selects RX2 yX2_forget yX2_forget, Cond.code yX2_forget cX2_forget 1 none, Cond.fieldLink RX2 9 "BitMixer$Model" "counters" "[I", Cond.fieldLink RX2 15 "BitMixer$Model" "seen" "[J", Cond.fieldLink RX2 19 "BitMixer$Model" "weights" "[I", Cond.fieldLink RX2 47 "BitMixer$Model" "collisionTotal" "I"]
def wsL_addModel_r3 : List Cond := [Cond.methodLink RX2 38 yJ7_fill_53178, Cond.static yJ7_fill_53178, Cond.initialized RJ7, Cond.code yJ7_fill_53178 cJ7_fill_53178 4 none, Cond.methodLink RX2 44 yJ7_fill_d0a16, Cond.static yJ7_fill_d0a16, Cond.code yJ7_fill_d0a16 cJ7_fill_d0a16 5 none, Cond.methodLink RX3 36 yJ7_fill_53178, Cond.methodLink RX3 55 yX3_readContexts, Cond.instanceMethod yX3_readContexts, Cond.selects RX3 yX3_readContexts yX3_readContexts, Cond.code yX3_readContexts cX3_readContexts 2 none, Cond.methodLink RX3 61 yX2_readContext, Cond.instanceMethod yX2_readContext, Cond.selects RX2 yX2_readContext yX2_readContext, Cond.code yX2_readContext cX2_readContext 4 none, Cond.fieldLink RX2 50 "BitMixer$Model" "context" "I", Cond.methodLink RX3 58 yX3_aimModels, Cond.instanceMethod yX3_aimModels, Cond.selects RX3 yX3_aimModels yX3_aimModels, Cond.code yX3_aimModels cX3_aimModels 2 none, Cond.methodLink RX3 65 yX2_aim, Cond.instanceMethod yX2_aim, Cond.selects RX2 yX2_aim yX2_aim]
def wsL_addModel_r4 : List Cond := [Cond.code yX2_aim cX2_aim 2 none, Cond.constantLong RX2 53 (256), Cond.fieldLink RX2 55 "BitMixer$Model" "sight" "J", Cond.fieldLink RX2 63 "BitMixer$Model" "place" "I", Cond.methodLink RX2 59 yX2_tableSize, Cond.instanceMethod yX2_tableSize, Cond.selects RX2 yX2_tableSize yX2_tableSize, Cond.code yX2_tableSize cX2_tableSize 1 (some .int), Cond.methodLink RX2 32 Lib.Math.min.name, Cond.static Lib.Math.min.name, Cond.initialized "java/lang/Math", Cond.code Lib.Math.min.name Lib.Math.min.code 2 (some .int)]
def wsL_addModel : List Cond := .codeWith yL_addModel cL_addModel 6 (some .int) [(0, 12, 15, 13), (0, 12, 19, 15)] :: ((wsL_addModel_r1 ++ (wsL_addModel_r2 ++ (wsL_addModel_r3 ++ wsL_addModel_r4))) ++ wsX40 ++ wsX30 ++ wsX20 ++ (vx_atS RX4 42 "java/lang/IllegalArgumentException" ["java/lang/RuntimeException", "java/lang/Exception"]).filter goodWord ++ (vx_atS RX4 58 "java/lang/IllegalStateException" ["java/lang/RuntimeException", "java/lang/Exception"]).filter goodWord)
def wsL_removeModel_r1 : List Cond := [Cond.classLink RL 15 "java/lang/IllegalStateException", Cond.methodLink RL 17 yX4_removeModel, Cond.instanceMethod yX4_removeModel, Cond.selects RX4 yX4_removeModel yX4_removeModel, Cond.initialized RX4, Cond.code yX4_removeModel cX4_removeModel 1 (some .int), Cond.classLink RX4 54 "java/lang/IllegalStateException", Cond.initialized "java/lang/IllegalStateException", Cond.fieldLink RX4 27 "BitMixer" "predictor" "LBitMixer$Predictor;", Cond.fieldLink RX4 50 "BitMixer$Predictor" "modelTotal" "I", Cond.methodLink RX4 65 yX3_dropModel, Cond.instanceMethod yX3_dropModel, Cond.selects RX3 yX3_dropModel yX3_dropModel, Cond.initialized RX3, Cond.code yX3_dropModel cX3_dropModel 1 none, Cond.fieldLink RX3 18 "BitMixer$Predictor" "modelTotal" "I", Cond.methodLink RX3 26 yX3_restart, Cond.instanceMethod yX3_restart, Cond.selects RX3 yX3_restart yX3_restart, Cond.code yX3_restart cX3_restart 2 none, Cond.fieldLink RX3 11 "BitMixer$Predictor" "models" "[LBitMixer$Model;", Cond.fieldLink RX3 22 "BitMixer$Predictor" "latest" "[I", Cond.fieldLink RX3 42 "BitMixer$Predictor" "treeNode" "I", Cond.fieldLink RX3 45 "BitMixer$Predictor" "phase" "I"]
def wsL_removeModel_r2 : List Cond := [Cond.fieldLink RX3 48 "BitMixer$Predictor" "bitTotal" "I", Cond.fieldLink RX3 51 "BitMixer$Predictor" "errorSum" "J", Cond.methodLink RX3 33 yX2_forget, Cond.instanceMethod yX2_forget, Cond.selects RX2 yX2_forget yX2_forget, Cond.initialized RX2, Cond.code yX2_forget cX2_forget 1 none, Cond.fieldLink RX2 9 "BitMixer$Model" "counters" "[I", Cond.fieldLink RX2 15 "BitMixer$Model" "seen" "[J", Cond.fieldLink RX2 19 "BitMixer$Model" "weights" "[I", Cond.fieldLink RX2 47 "BitMixer$Model" "collisionTotal" "I", Cond.methodLink RX2 38 yJ7_fill_53178, Cond.static yJ7_fill_53178, Cond.initialized RJ7, Cond.code yJ7_fill_53178 cJ7_fill_53178 4 none, Cond.methodLink RX2 44 yJ7_fill_d0a16, Cond.static yJ7_fill_d0a16, Cond.code yJ7_fill_d0a16 cJ7_fill_d0a16 5 none, Cond.methodLink RX3 36 yJ7_fill_53178, Cond.methodLink RX3 55 yX3_readContexts, Cond.instanceMethod yX3_readContexts, Cond.selects RX3 yX3_readContexts yX3_readContexts, Cond.code yX3_readContexts cX3_readContexts 2 none, Cond.methodLink RX3 61 yX2_readContext]
def wsL_removeModel_r3 : List Cond := [Cond.instanceMethod yX2_readContext, Cond.selects RX2 yX2_readContext yX2_readContext, Cond.code yX2_readContext cX2_readContext 4 none, Cond.fieldLink RX2 22 "BitMixer$Model" "order" "I", Cond.fieldLink RX2 50 "BitMixer$Model" "context" "I", Cond.methodLink RX3 58 yX3_aimModels, Cond.instanceMethod yX3_aimModels, Cond.selects RX3 yX3_aimModels yX3_aimModels, Cond.code yX3_aimModels cX3_aimModels 2 none, Cond.methodLink RX3 65 yX2_aim, Cond.instanceMethod yX2_aim, Cond.selects RX2 yX2_aim yX2_aim, Cond.code yX2_aim cX2_aim 2 none, Cond.constantLong RX2 53 (256), Cond.fieldLink RX2 55 "BitMixer$Model" "sight" "J", Cond.fieldLink RX2 63 "BitMixer$Model" "place" "I", Cond.methodLink RX2 59 yX2_tableSize, Cond.instanceMethod yX2_tableSize, Cond.selects RX2 yX2_tableSize yX2_tableSize, Cond.code yX2_tableSize cX2_tableSize 1 (some .int), Cond.fieldLink RX2 29 "BitMixer$Model" "t" "I", Cond.methodLink RX2 32 Lib.Math.min.name, Cond.static Lib.Math.min.name, Cond.initialized "java/lang/Math"]
def wsL_removeModel_r4 : List Cond := [Cond.code Lib.Math.min.name Lib.Math.min.code 2 (some .int)]
def wsL_removeModel : List Cond := .codeWith yL_removeModel cL_removeModel 3 (some .int) [(0, 8, 11, 15)] :: ((wsL_removeModel_r1 ++ (wsL_removeModel_r2 ++ (wsL_removeModel_r3 ++ wsL_removeModel_r4))) ++ wsX40 ++ wsX30 ++ wsX20 ++ (vx_atS RX4 58 "java/lang/IllegalStateException" ["java/lang/RuntimeException", "java/lang/Exception"]).filter goodWord)
def wsL_setRate_r1 : List Cond := [Cond.classLink RL 25 "java/lang/IndexOutOfBoundsException", Cond.classLink RL 13 "java/lang/IllegalArgumentException", Cond.methodLink RL 21 yX4_setRate, Cond.instanceMethod yX4_setRate, Cond.selects RX4 yX4_setRate yX4_setRate, Cond.initialized RX4, Cond.code yX4_setRate cX4_setRate 5 (some .int), Cond.fieldLink RX4 72 "BitMixer$Model" "rate" "I", Cond.fieldLink RX4 27 "BitMixer" "predictor" "LBitMixer$Predictor;", Cond.methodLink RX4 68 yX4_requireModel, Cond.instanceMethod yX4_requireModel, Cond.selects RX4 yX4_requireModel yX4_requireModel, Cond.code yX4_requireModel cX4_requireModel 2 (some (.object "BitMixer$Model")), Cond.classLink RX4 127 "java/lang/IndexOutOfBoundsException", Cond.initialized "java/lang/IndexOutOfBoundsException", Cond.fieldLink RX4 50 "BitMixer$Predictor" "modelTotal" "I", Cond.fieldLink RX4 207 "BitMixer$Predictor" "models" "[LBitMixer$Model;", Cond.methodLink RX4 45 yX4_requireRate, Cond.static yX4_requireRate, Cond.code yX4_requireRate cX4_requireRate 1 none, Cond.classLink RX4 38 "java/lang/IllegalArgumentException", Cond.initialized "java/lang/IllegalArgumentException", Cond.methodLink RX4 77 yX3_restart, Cond.instanceMethod yX3_restart]
def wsL_setRate_r2 : List Cond := [Cond.selects RX3 yX3_restart yX3_restart, Cond.initialized RX3, Cond.code yX3_restart cX3_restart 2 none, Cond.fieldLink RX3 18 "BitMixer$Predictor" "modelTotal" "I", Cond.fieldLink RX3 11 "BitMixer$Predictor" "models" "[LBitMixer$Model;", Cond.fieldLink RX3 22 "BitMixer$Predictor" "latest" "[I", Cond.fieldLink RX3 42 "BitMixer$Predictor" "treeNode" "I", Cond.fieldLink RX3 45 "BitMixer$Predictor" "phase" "I", Cond.fieldLink RX3 48 "BitMixer$Predictor" "bitTotal" "I", Cond.fieldLink RX3 51 "BitMixer$Predictor" "errorSum" "J", Cond.methodLink RX3 33 yX2_forget, Cond.instanceMethod yX2_forget, Cond.selects RX2 yX2_forget yX2_forget, Cond.initialized RX2, Cond.code yX2_forget cX2_forget 1 none, Cond.fieldLink RX2 9 "BitMixer$Model" "counters" "[I", Cond.fieldLink RX2 15 "BitMixer$Model" "seen" "[J", Cond.fieldLink RX2 19 "BitMixer$Model" "weights" "[I", Cond.fieldLink RX2 47 "BitMixer$Model" "collisionTotal" "I", Cond.methodLink RX2 38 yJ7_fill_53178, Cond.static yJ7_fill_53178, Cond.initialized RJ7, Cond.code yJ7_fill_53178 cJ7_fill_53178 4 none, Cond.methodLink RX2 44 yJ7_fill_d0a16]
def wsL_setRate_r3 : List Cond := [Cond.static yJ7_fill_d0a16, Cond.code yJ7_fill_d0a16 cJ7_fill_d0a16 5 none, Cond.methodLink RX3 36 yJ7_fill_53178, Cond.methodLink RX3 55 yX3_readContexts, Cond.instanceMethod yX3_readContexts, Cond.selects RX3 yX3_readContexts yX3_readContexts, Cond.code yX3_readContexts cX3_readContexts 2 none, Cond.methodLink RX3 61 yX2_readContext, Cond.instanceMethod yX2_readContext, Cond.selects RX2 yX2_readContext yX2_readContext, Cond.code yX2_readContext cX2_readContext 4 none, Cond.fieldLink RX2 22 "BitMixer$Model" "order" "I", Cond.fieldLink RX2 50 "BitMixer$Model" "context" "I", Cond.methodLink RX3 58 yX3_aimModels, Cond.instanceMethod yX3_aimModels, Cond.selects RX3 yX3_aimModels yX3_aimModels, Cond.code yX3_aimModels cX3_aimModels 2 none, Cond.methodLink RX3 65 yX2_aim, Cond.instanceMethod yX2_aim, Cond.selects RX2 yX2_aim yX2_aim, Cond.code yX2_aim cX2_aim 2 none, Cond.constantLong RX2 53 (256), Cond.fieldLink RX2 55 "BitMixer$Model" "sight" "J", Cond.fieldLink RX2 63 "BitMixer$Model" "place" "I"]
def wsL_setRate_r4 : List Cond := [Cond.methodLink RX2 59 yX2_tableSize, Cond.instanceMethod yX2_tableSize, Cond.selects RX2 yX2_tableSize yX2_tableSize, Cond.code yX2_tableSize cX2_tableSize 1 (some .int), Cond.fieldLink RX2 29 "BitMixer$Model" "t" "I", Cond.methodLink RX2 32 Lib.Math.min.name, Cond.static Lib.Math.min.name, Cond.initialized "java/lang/Math", Cond.code Lib.Math.min.name Lib.Math.min.code 2 (some .int)]
def wsL_setRate : List Cond := .codeWith yL_setRate cL_setRate 5 (some .int) [(0, 10, 13, 25), (0, 10, 17, 13)] :: ((wsL_setRate_r1 ++ (wsL_setRate_r2 ++ (wsL_setRate_r3 ++ wsL_setRate_r4))) ++ wsX20 ++ wsX40 ++ wsX30 ++ (vx_atS RX4 131 "java/lang/IndexOutOfBoundsException" ["java/lang/RuntimeException", "java/lang/Exception"]).filter goodWord ++ (vx_atS RX4 42 "java/lang/IllegalArgumentException" ["java/lang/RuntimeException", "java/lang/Exception"]).filter goodWord)
def wsL_feed : List Cond := .codeWith yL_feed cL_feed 6 (some .int) [(0, 11, 14, 13), (0, 11, 18, 15)] :: ([.classLink RL 13 "java/lang/IllegalArgumentException", .classLink RL 15 "java/lang/IllegalStateException", .methodLink RL 27 yX4_feed, .instanceMethod yX4_feed, .selects RX4 yX4_feed yX4_feed, .initialized RX4, .code yX4_feed cX4_feed 5 (some .int), .classLink RX4 38 "java/lang/IllegalArgumentException", .initialized "java/lang/IllegalArgumentException", .fieldLink RX4 14 "BitMixer" "text" "LBitMixer$ByteRow;", .fieldLink RX4 88 "BitMixer$ByteRow" "count" "I", .methodLink RX4 82 yX4_requireRoom, .instanceMethod yX4_requireRoom, .selects RX4 yX4_requireRoom yX4_requireRoom, .code yX4_requireRoom cX4_requireRoom 2 none, .classLink RX4 54 "java/lang/IllegalStateException", .initialized "java/lang/IllegalStateException", .methodLink RX4 85 yX0_append, .instanceMethod yX0_append, .selects RX0 yX0_append yX0_append, .initialized RX0, .code yX0_append cX0_append 2 none, .fieldLink RX0 19 "BitMixer$ByteRow" "count" "I", .fieldLink RX0 13 "BitMixer$ByteRow" "bytes" "[I"] ++ wsX40 ++ wsX00 ++ (vx_atS RX4 42 "java/lang/IllegalArgumentException" ["java/lang/RuntimeException", "java/lang/Exception"]).filter goodWord ++ (vx_atS RX4 58 "java/lang/IllegalStateException" ["java/lang/RuntimeException", "java/lang/Exception"]).filter goodWord)
def wsL_fill_r1 : List Cond := [Cond.classLink RL 13 "java/lang/IllegalArgumentException", Cond.classLink RL 15 "java/lang/IllegalStateException", Cond.methodLink RL 31 yX4_fill, Cond.instanceMethod yX4_fill, Cond.selects RX4 yX4_fill yX4_fill, Cond.initialized RX4, Cond.code yX4_fill cX4_fill 4 (some .int), Cond.classLink RX4 38 "java/lang/IllegalArgumentException", Cond.initialized "java/lang/IllegalArgumentException", Cond.fieldLink RX4 14 "BitMixer" "text" "LBitMixer$ByteRow;", Cond.fieldLink RX4 88 "BitMixer$ByteRow" "count" "I", Cond.methodLink RX4 91 yX4_requireByte, Cond.static yX4_requireByte, Cond.code yX4_requireByte cX4_requireByte 1 none, Cond.methodLink RX4 82 yX4_requireRoom, Cond.instanceMethod yX4_requireRoom, Cond.selects RX4 yX4_requireRoom yX4_requireRoom, Cond.code yX4_requireRoom cX4_requireRoom 2 none, Cond.classLink RX4 54 "java/lang/IllegalStateException", Cond.initialized "java/lang/IllegalStateException", Cond.methodLink RX4 85 yX0_append, Cond.instanceMethod yX0_append, Cond.selects RX0 yX0_append yX0_append, Cond.initialized RX0]
def wsL_fill_r2 : List Cond := [Cond.code yX0_append cX0_append 2 none, Cond.fieldLink RX0 19 "BitMixer$ByteRow" "count" "I", Cond.fieldLink RX0 13 "BitMixer$ByteRow" "bytes" "[I"]
def wsL_fill : List Cond := .codeWith yL_fill cL_fill 5 (some .int) [(0, 10, 13, 13), (0, 10, 17, 15)] :: ((wsL_fill_r1 ++ wsL_fill_r2) ++ wsX40 ++ wsX00 ++ (vx_atS RX4 42 "java/lang/IllegalArgumentException" ["java/lang/RuntimeException", "java/lang/Exception"]).filter goodWord ++ (vx_atS RX4 58 "java/lang/IllegalStateException" ["java/lang/RuntimeException", "java/lang/Exception"]).filter goodWord)
def wsL_cut : List Cond := .codeWith yL_cut cL_cut 4 (some .int) [(0, 9, 12, 13)] :: ([.classLink RL 13 "java/lang/IllegalArgumentException", .methodLink RL 34 yX4_cut, .instanceMethod yX4_cut, .selects RX4 yX4_cut yX4_cut, .initialized RX4, .code yX4_cut cX4_cut 2 (some .int), .fieldLink RX4 14 "BitMixer" "text" "LBitMixer$ByteRow;", .methodLink RX4 96 yX4_shorten, .static yX4_shorten, .code yX4_shorten cX4_shorten 2 (some .int), .classLink RX4 38 "java/lang/IllegalArgumentException", .initialized "java/lang/IllegalArgumentException", .fieldLink RX4 88 "BitMixer$ByteRow" "count" "I"] ++ wsX40 ++ wsX00 ++ (vx_atS RX4 42 "java/lang/IllegalArgumentException" ["java/lang/RuntimeException", "java/lang/Exception"]).filter goodWord)
def wsL_byteAt : List Cond := .codeWith yL_byteAt cL_byteAt 4 (some .int) [(0, 9, 12, 25)] :: ([.classLink RL 25 "java/lang/IndexOutOfBoundsException", .methodLink RL 38 yX4_byteAt, .instanceMethod yX4_byteAt, .selects RX4 yX4_byteAt yX4_byteAt, .initialized RX4, .code yX4_byteAt cX4_byteAt 2 (some .int), .fieldLink RX4 14 "BitMixer" "text" "LBitMixer$ByteRow;", .methodLink RX4 100 yX4_requirePlace, .static yX4_requirePlace, .code yX4_requirePlace cX4_requirePlace 2 (some .int), .classLink RX4 127 "java/lang/IndexOutOfBoundsException", .initialized "java/lang/IndexOutOfBoundsException", .methodLink RX4 217 yX0_has, .instanceMethod yX0_has, .selects RX0 yX0_has yX0_has, .initialized RX0, .code yX0_has cX0_has 2 (some .boolean), .fieldLink RX0 19 "BitMixer$ByteRow" "count" "I", .fieldLink RX0 13 "BitMixer$ByteRow" "bytes" "[I", .methodLink RX4 167 yX0_at, .instanceMethod yX0_at, .selects RX0 yX0_at yX0_at, .code yX0_at cX0_at 2 (some .int), .methodLink RX0 23 yX0_has] ++ wsX40 ++ wsX00 ++ (vx_atS RX4 131 "java/lang/IndexOutOfBoundsException" ["java/lang/RuntimeException", "java/lang/Exception"]).filter goodWord)
def wsL_prediction : List Cond := .codeWith yL_prediction cL_prediction 4 (some .int) [(0, 9, 12, 25)] :: ([.classLink RL 25 "java/lang/IndexOutOfBoundsException", .methodLink RL 41 yX4_prediction, .instanceMethod yX4_prediction, .selects RX4 yX4_prediction yX4_prediction, .initialized RX4, .code yX4_prediction cX4_prediction 2 (some .int), .methodLink RX4 68 yX4_requireModel, .instanceMethod yX4_requireModel, .selects RX4 yX4_requireModel yX4_requireModel, .code yX4_requireModel cX4_requireModel 2 (some (.object "BitMixer$Model")), .classLink RX4 127 "java/lang/IndexOutOfBoundsException", .initialized "java/lang/IndexOutOfBoundsException", .fieldLink RX4 27 "BitMixer" "predictor" "LBitMixer$Predictor;", .fieldLink RX4 50 "BitMixer$Predictor" "modelTotal" "I", .fieldLink RX4 207 "BitMixer$Predictor" "models" "[LBitMixer$Model;", .methodLink RX4 118 yX2_guess, .instanceMethod yX2_guess, .selects RX2 yX2_guess yX2_guess, .initialized RX2, .code yX2_guess cX2_guess 1 (some .int), .fieldLink RX2 9 "BitMixer$Model" "counters" "[I", .fieldLink RX2 63 "BitMixer$Model" "place" "I"] ++ wsX40 ++ wsX30 ++ wsX20 ++ (vx_atS RX4 131 "java/lang/IndexOutOfBoundsException" ["java/lang/RuntimeException", "java/lang/Exception"]).filter goodWord)
def wsL_index : List Cond := .codeWith yL_index cL_index 4 (some .int) [(0, 9, 12, 25)] :: ([.classLink RL 25 "java/lang/IndexOutOfBoundsException", .methodLink RL 44 yX4_index, .instanceMethod yX4_index, .selects RX4 yX4_index yX4_index, .initialized RX4, .code yX4_index cX4_index 2 (some .int), .fieldLink RX4 121 "BitMixer$Model" "place" "I", .methodLink RX4 68 yX4_requireModel, .instanceMethod yX4_requireModel, .selects RX4 yX4_requireModel yX4_requireModel, .code yX4_requireModel cX4_requireModel 2 (some (.object "BitMixer$Model")), .classLink RX4 127 "java/lang/IndexOutOfBoundsException", .initialized "java/lang/IndexOutOfBoundsException", .fieldLink RX4 27 "BitMixer" "predictor" "LBitMixer$Predictor;", .fieldLink RX4 50 "BitMixer$Predictor" "modelTotal" "I", .fieldLink RX4 207 "BitMixer$Predictor" "models" "[LBitMixer$Model;"] ++ wsX20 ++ wsX40 ++ wsX30 ++ (vx_atS RX4 131 "java/lang/IndexOutOfBoundsException" ["java/lang/RuntimeException", "java/lang/Exception"]).filter goodWord)
def wsL_counter_r1 : List Cond := [Cond.classLink RL 25 "java/lang/IndexOutOfBoundsException", Cond.methodLink RL 47 yX4_counter, Cond.instanceMethod yX4_counter, Cond.selects RX4 yX4_counter yX4_counter, Cond.initialized RX4, Cond.code yX4_counter cX4_counter 4 (some .int), Cond.classLink RX4 127 "java/lang/IndexOutOfBoundsException", Cond.initialized "java/lang/IndexOutOfBoundsException", Cond.fieldLink RX4 132 "BitMixer$Model" "counters" "[I", Cond.methodLink RX4 68 yX4_requireModel, Cond.instanceMethod yX4_requireModel, Cond.selects RX4 yX4_requireModel yX4_requireModel, Cond.code yX4_requireModel cX4_requireModel 2 (some (.object "BitMixer$Model")), Cond.fieldLink RX4 27 "BitMixer" "predictor" "LBitMixer$Predictor;", Cond.fieldLink RX4 50 "BitMixer$Predictor" "modelTotal" "I", Cond.fieldLink RX4 207 "BitMixer$Predictor" "models" "[LBitMixer$Model;", Cond.methodLink RX4 124 yX2_tableSize, Cond.instanceMethod yX2_tableSize, Cond.selects RX2 yX2_tableSize yX2_tableSize, Cond.initialized RX2, Cond.code yX2_tableSize cX2_tableSize 1 (some .int), Cond.fieldLink RX2 29 "BitMixer$Model" "t" "I", Cond.methodLink RX2 32 Lib.Math.min.name, Cond.static Lib.Math.min.name]
def wsL_counter_r2 : List Cond := [Cond.initialized "java/lang/Math", Cond.code Lib.Math.min.name Lib.Math.min.code 2 (some .int)]
def wsL_counter : List Cond := .codeWith yL_counter cL_counter 5 (some .int) [(0, 10, 13, 25)] :: ((wsL_counter_r1 ++ wsL_counter_r2) ++ wsX20 ++ wsX40 ++ wsX30 ++ (vx_atS RX4 131 "java/lang/IndexOutOfBoundsException" ["java/lang/RuntimeException", "java/lang/Exception"]).filter goodWord)
def wsL_weight : List Cond := .codeWith yL_weight cL_weight 5 (some .int) [(0, 10, 13, 25)] :: ([.classLink RL 25 "java/lang/IndexOutOfBoundsException", .methodLink RL 50 yX4_weight, .instanceMethod yX4_weight, .selects RX4 yX4_weight yX4_weight, .initialized RX4, .code yX4_weight cX4_weight 4 (some .int), .classLink RX4 127 "java/lang/IndexOutOfBoundsException", .initialized "java/lang/IndexOutOfBoundsException", .fieldLink RX4 138 "BitMixer$Model" "weights" "[I", .methodLink RX4 68 yX4_requireModel, .instanceMethod yX4_requireModel, .selects RX4 yX4_requireModel yX4_requireModel, .code yX4_requireModel cX4_requireModel 2 (some (.object "BitMixer$Model")), .fieldLink RX4 27 "BitMixer" "predictor" "LBitMixer$Predictor;", .fieldLink RX4 50 "BitMixer$Predictor" "modelTotal" "I", .fieldLink RX4 207 "BitMixer$Predictor" "models" "[LBitMixer$Model;"] ++ wsX20 ++ wsX40 ++ wsX30 ++ (vx_atS RX4 131 "java/lang/IndexOutOfBoundsException" ["java/lang/RuntimeException", "java/lang/Exception"]).filter goodWord)
def wsL_collisions : List Cond := .codeWith yL_collisions cL_collisions 4 (some .int) [(0, 9, 12, 25)] :: ([.classLink RL 25 "java/lang/IndexOutOfBoundsException", .methodLink RL 53 yX4_collisions, .instanceMethod yX4_collisions, .selects RX4 yX4_collisions yX4_collisions, .initialized RX4, .code yX4_collisions cX4_collisions 2 (some .int), .fieldLink RX4 144 "BitMixer$Model" "collisionTotal" "I", .methodLink RX4 68 yX4_requireModel, .instanceMethod yX4_requireModel, .selects RX4 yX4_requireModel yX4_requireModel, .code yX4_requireModel cX4_requireModel 2 (some (.object "BitMixer$Model")), .classLink RX4 127 "java/lang/IndexOutOfBoundsException", .initialized "java/lang/IndexOutOfBoundsException", .fieldLink RX4 27 "BitMixer" "predictor" "LBitMixer$Predictor;", .fieldLink RX4 50 "BitMixer$Predictor" "modelTotal" "I", .fieldLink RX4 207 "BitMixer$Predictor" "models" "[LBitMixer$Model;"] ++ wsX20 ++ wsX40 ++ wsX30 ++ (vx_atS RX4 131 "java/lang/IndexOutOfBoundsException" ["java/lang/RuntimeException", "java/lang/Exception"]).filter goodWord)
def wsL_history : List Cond := .codeWith yL_history cL_history 4 (some .int) [(0, 9, 12, 25)] :: ([.classLink RL 25 "java/lang/IndexOutOfBoundsException", .methodLink RL 56 yX4_history, .instanceMethod yX4_history, .selects RX4 yX4_history yX4_history, .initialized RX4, .code yX4_history cX4_history 2 (some .int), .classLink RX4 127 "java/lang/IndexOutOfBoundsException", .initialized "java/lang/IndexOutOfBoundsException", .fieldLink RX4 27 "BitMixer" "predictor" "LBitMixer$Predictor;", .fieldLink RX4 149 "BitMixer$Predictor" "latest" "[I"] ++ wsX40 ++ wsX30 ++ (vx_atS RX4 131 "java/lang/IndexOutOfBoundsException" ["java/lang/RuntimeException", "java/lang/Exception"]).filter goodWord)
def wsL_code : List Cond := .codeWith yL_code cL_code 4 (some .int) [(0, 9, 12, 25)] :: ([.classLink RL 25 "java/lang/IndexOutOfBoundsException", .methodLink RL 59 yX4_code, .instanceMethod yX4_code, .selects RX4 yX4_code yX4_code, .initialized RX4, .code yX4_code cX4_code 2 (some .int), .fieldLink RX4 18 "BitMixer" "encoded" "LBitMixer$ByteRow;", .methodLink RX4 100 yX4_requirePlace, .static yX4_requirePlace, .code yX4_requirePlace cX4_requirePlace 2 (some .int), .classLink RX4 127 "java/lang/IndexOutOfBoundsException", .initialized "java/lang/IndexOutOfBoundsException", .methodLink RX4 217 yX0_has, .instanceMethod yX0_has, .selects RX0 yX0_has yX0_has, .initialized RX0, .code yX0_has cX0_has 2 (some .boolean), .fieldLink RX0 19 "BitMixer$ByteRow" "count" "I", .fieldLink RX0 13 "BitMixer$ByteRow" "bytes" "[I", .methodLink RX4 167 yX0_at, .instanceMethod yX0_at, .selects RX0 yX0_at yX0_at, .code yX0_at cX0_at 2 (some .int), .methodLink RX0 23 yX0_has] ++ wsX40 ++ wsX00 ++ (vx_atS RX4 131 "java/lang/IndexOutOfBoundsException" ["java/lang/RuntimeException", "java/lang/Exception"]).filter goodWord)
def wsL_setCode_r1 : List Cond := [Cond.classLink RL 25 "java/lang/IndexOutOfBoundsException", Cond.classLink RL 13 "java/lang/IllegalArgumentException", Cond.methodLink RL 62 yX4_setCode, Cond.instanceMethod yX4_setCode, Cond.selects RX4 yX4_setCode yX4_setCode, Cond.initialized RX4, Cond.code yX4_setCode cX4_setCode 4 (some .int), Cond.fieldLink RX4 18 "BitMixer" "encoded" "LBitMixer$ByteRow;", Cond.methodLink RX4 100 yX4_requirePlace, Cond.static yX4_requirePlace, Cond.code yX4_requirePlace cX4_requirePlace 2 (some .int), Cond.classLink RX4 127 "java/lang/IndexOutOfBoundsException", Cond.initialized "java/lang/IndexOutOfBoundsException", Cond.methodLink RX4 217 yX0_has, Cond.instanceMethod yX0_has, Cond.selects RX0 yX0_has yX0_has, Cond.initialized RX0, Cond.code yX0_has cX0_has 2 (some .boolean), Cond.fieldLink RX0 19 "BitMixer$ByteRow" "count" "I", Cond.fieldLink RX0 13 "BitMixer$ByteRow" "bytes" "[I", Cond.methodLink RX4 167 yX0_at, Cond.instanceMethod yX0_at, Cond.selects RX0 yX0_at yX0_at, Cond.code yX0_at cX0_at 2 (some .int)]
def wsL_setCode_r2 : List Cond := [Cond.methodLink RX0 23 yX0_has, Cond.methodLink RX4 91 yX4_requireByte, Cond.static yX4_requireByte, Cond.code yX4_requireByte cX4_requireByte 1 none, Cond.classLink RX4 38 "java/lang/IllegalArgumentException", Cond.initialized "java/lang/IllegalArgumentException", Cond.methodLink RX4 177 yX0_put, Cond.instanceMethod yX0_put, Cond.selects RX0 yX0_put yX0_put, Cond.code yX0_put cX0_put 3 none]
def wsL_setCode : List Cond := .codeWith yL_setCode cL_setCode 5 (some .int) [(0, 10, 13, 25), (0, 10, 17, 13)] :: ((wsL_setCode_r1 ++ wsL_setCode_r2) ++ wsX40 ++ wsX00 ++ (vx_atS RX4 131 "java/lang/IndexOutOfBoundsException" ["java/lang/RuntimeException", "java/lang/Exception"]).filter goodWord ++ (vx_atS RX4 42 "java/lang/IllegalArgumentException" ["java/lang/RuntimeException", "java/lang/Exception"]).filter goodWord)
def wsL_cutCode : List Cond := .codeWith yL_cutCode cL_cutCode 4 (some .int) [(0, 9, 12, 13)] :: ([.classLink RL 13 "java/lang/IllegalArgumentException", .methodLink RL 65 yX4_cutCode, .instanceMethod yX4_cutCode, .selects RX4 yX4_cutCode yX4_cutCode, .initialized RX4, .code yX4_cutCode cX4_cutCode 2 (some .int), .fieldLink RX4 18 "BitMixer" "encoded" "LBitMixer$ByteRow;", .methodLink RX4 96 yX4_shorten, .static yX4_shorten, .code yX4_shorten cX4_shorten 2 (some .int), .classLink RX4 38 "java/lang/IllegalArgumentException", .initialized "java/lang/IllegalArgumentException", .fieldLink RX4 88 "BitMixer$ByteRow" "count" "I"] ++ wsX40 ++ wsX00 ++ (vx_atS RX4 42 "java/lang/IllegalArgumentException" ["java/lang/RuntimeException", "java/lang/Exception"]).filter goodWord)
def wsL_decode_r1 : List Cond := [Cond.classLink RL 13 "java/lang/IllegalArgumentException", Cond.methodLink RL 68 yX4_decode, Cond.instanceMethod yX4_decode, Cond.selects RX4 yX4_decode yX4_decode, Cond.initialized RX4, Cond.code yX4_decode cX4_decode 3 (some .int), Cond.classLink RX4 38 "java/lang/IllegalArgumentException", Cond.initialized "java/lang/IllegalArgumentException", Cond.fieldLink RX4 27 "BitMixer" "predictor" "LBitMixer$Predictor;", Cond.fieldLink RX4 34 "BitMixer" "interval" "LBitMixer$Interval;", Cond.fieldLink RX4 18 "BitMixer" "encoded" "LBitMixer$ByteRow;", Cond.fieldLink RX4 21 "BitMixer" "decoded" "LBitMixer$ByteRow;", Cond.methodLink RX4 77 yX3_restart, Cond.instanceMethod yX3_restart, Cond.selects RX3 yX3_restart yX3_restart, Cond.initialized RX3, Cond.code yX3_restart cX3_restart 2 none, Cond.fieldLink RX3 18 "BitMixer$Predictor" "modelTotal" "I", Cond.fieldLink RX3 11 "BitMixer$Predictor" "models" "[LBitMixer$Model;", Cond.fieldLink RX3 22 "BitMixer$Predictor" "latest" "[I", Cond.fieldLink RX3 42 "BitMixer$Predictor" "treeNode" "I", Cond.fieldLink RX3 45 "BitMixer$Predictor" "phase" "I", Cond.fieldLink RX3 48 "BitMixer$Predictor" "bitTotal" "I", Cond.fieldLink RX3 51 "BitMixer$Predictor" "errorSum" "J"]
def wsL_decode_r2 : List Cond := [Cond.methodLink RX3 33 yX2_forget, Cond.instanceMethod yX2_forget, Cond.selects RX2 yX2_forget yX2_forget, Cond.initialized RX2, Cond.code yX2_forget cX2_forget 1 none, Cond.fieldLink RX2 9 "BitMixer$Model" "counters" "[I", Cond.fieldLink RX2 15 "BitMixer$Model" "seen" "[J", Cond.fieldLink RX2 19 "BitMixer$Model" "weights" "[I", Cond.fieldLink RX2 47 "BitMixer$Model" "collisionTotal" "I", Cond.methodLink RX2 38 yJ7_fill_53178, Cond.static yJ7_fill_53178, Cond.initialized RJ7, Cond.code yJ7_fill_53178 cJ7_fill_53178 4 none, Cond.methodLink RX2 44 yJ7_fill_d0a16, Cond.static yJ7_fill_d0a16, Cond.code yJ7_fill_d0a16 cJ7_fill_d0a16 5 none, Cond.methodLink RX3 36 yJ7_fill_53178, Cond.methodLink RX3 55 yX3_readContexts, Cond.instanceMethod yX3_readContexts, Cond.selects RX3 yX3_readContexts yX3_readContexts, Cond.code yX3_readContexts cX3_readContexts 2 none, Cond.methodLink RX3 61 yX2_readContext, Cond.instanceMethod yX2_readContext, Cond.selects RX2 yX2_readContext yX2_readContext]
def wsL_decode_r3 : List Cond := [Cond.code yX2_readContext cX2_readContext 4 none, Cond.fieldLink RX2 22 "BitMixer$Model" "order" "I", Cond.fieldLink RX2 50 "BitMixer$Model" "context" "I", Cond.methodLink RX3 58 yX3_aimModels, Cond.instanceMethod yX3_aimModels, Cond.selects RX3 yX3_aimModels yX3_aimModels, Cond.code yX3_aimModels cX3_aimModels 2 none, Cond.methodLink RX3 65 yX2_aim, Cond.instanceMethod yX2_aim, Cond.selects RX2 yX2_aim yX2_aim, Cond.code yX2_aim cX2_aim 2 none, Cond.constantLong RX2 53 (256), Cond.fieldLink RX2 55 "BitMixer$Model" "sight" "J", Cond.fieldLink RX2 63 "BitMixer$Model" "place" "I", Cond.methodLink RX2 59 yX2_tableSize, Cond.instanceMethod yX2_tableSize, Cond.selects RX2 yX2_tableSize yX2_tableSize, Cond.code yX2_tableSize cX2_tableSize 1 (some .int), Cond.fieldLink RX2 29 "BitMixer$Model" "t" "I", Cond.methodLink RX2 32 Lib.Math.min.name, Cond.static Lib.Math.min.name, Cond.initialized "java/lang/Math", Cond.code Lib.Math.min.name Lib.Math.min.code 2 (some .int), Cond.methodLink RX4 161 yX1_open]
def wsL_decode_r4 : List Cond := [Cond.instanceMethod yX1_open, Cond.selects RX1 yX1_open yX1_open, Cond.initialized RX1, Cond.code yX1_open cX1_open 1 none, Cond.fieldLink RX1 14 "BitMixer$Interval" "low" "J", Cond.constantLong RX1 18 (4294967295), Cond.fieldLink RX1 20 "BitMixer$Interval" "high" "J", Cond.fieldLink RX1 23 "BitMixer$Interval" "x" "J", Cond.fieldLink RX1 26 "BitMixer$Interval" "next" "I", Cond.methodLink RX4 183 yX1_load, Cond.instanceMethod yX1_load, Cond.selects RX1 yX1_load yX1_load, Cond.code yX1_load cX1_load 3 none, Cond.methodLink RX1 30 yX1_pull, Cond.instanceMethod yX1_pull, Cond.selects RX1 yX1_pull yX1_pull, Cond.code yX1_pull cX1_pull 2 none, Cond.methodLink RX1 34 yX0_at, Cond.instanceMethod yX0_at, Cond.selects RX0 yX0_at yX0_at, Cond.initialized RX0, Cond.code yX0_at cX0_at 2 (some .int), Cond.fieldLink RX0 13 "BitMixer$ByteRow" "bytes" "[I", Cond.methodLink RX0 23 yX0_has]
def wsL_decode_r5 : List Cond := [Cond.instanceMethod yX0_has, Cond.selects RX0 yX0_has yX0_has, Cond.code yX0_has cX0_has 2 (some .boolean), Cond.fieldLink RX0 19 "BitMixer$ByteRow" "count" "I", Cond.methodLink RX4 164 yX0_clear, Cond.instanceMethod yX0_clear, Cond.selects RX0 yX0_clear yX0_clear, Cond.code yX0_clear cX0_clear 1 none, Cond.methodLink RX4 187 yX4_decodeByte, Cond.instanceMethod yX4_decodeByte, Cond.selects RX4 yX4_decodeByte yX4_decodeByte, Cond.code yX4_decodeByte cX4_decodeByte 8 (some .int), Cond.fieldLink RX4 237 "BitMixer$Interval" "x" "J", Cond.methodLink RX4 106 yX3_mixture, Cond.instanceMethod yX3_mixture, Cond.selects RX3 yX3_mixture yX3_mixture, Cond.code yX3_mixture cX3_mixture 5 (some .int), Cond.fieldLink RX3 69 "BitMixer$Model" "weights" "[I", Cond.methodLink RX3 76 Lib.Math.min.name, Cond.methodLink RX3 82 Lib.Math.max.name, Cond.static Lib.Math.max.name, Cond.code Lib.Math.max.name Lib.Math.max.code 2 (some .int), Cond.methodLink RX3 72 yX2_guess, Cond.instanceMethod yX2_guess]
def wsL_decode_r6 : List Cond := [Cond.selects RX2 yX2_guess yX2_guess, Cond.code yX2_guess cX2_guess 1 (some .int), Cond.methodLink RX4 225 yX1_middle, Cond.instanceMethod yX1_middle, Cond.selects RX1 yX1_middle yX1_middle, Cond.code yX1_middle cX1_middle 2 (some .long), Cond.constantLong RX1 40 (4096), Cond.methodLink RX4 229 yX1_narrow, Cond.instanceMethod yX1_narrow, Cond.selects RX1 yX1_narrow yX1_narrow, Cond.code yX1_narrow cX1_narrow 4 none, Cond.methodLink RX4 233 yX1_isSettled, Cond.instanceMethod yX1_isSettled, Cond.selects RX1 yX1_isSettled yX1_isSettled, Cond.code yX1_isSettled cX1_isSettled 1 (some .boolean), Cond.methodLink RX1 42 yX1_topByte, Cond.static yX1_topByte, Cond.code yX1_topByte cX1_topByte 2 (some .int), Cond.methodLink RX4 174 yX1_shift, Cond.instanceMethod yX1_shift, Cond.selects RX1 yX1_shift yX1_shift, Cond.code yX1_shift cX1_shift 2 (some .int), Cond.constantLong RX1 46 (255), Cond.methodLink RX4 240 yX1_pull]
def wsL_decode_r7 : List Cond := [Cond.methodLink RX4 110 yX3_learn, Cond.instanceMethod yX3_learn, Cond.selects RX3 yX3_learn yX3_learn, Cond.code yX3_learn cX3_learn 5 none, Cond.static yX4_quality, Cond.code yX4_quality cX4_quality 2 (some .int), Cond.methodLink RX3 89 yX2_adjustWeight, Cond.instanceMethod yX2_adjustWeight, Cond.selects RX2 yX2_adjustWeight yX2_adjustWeight, Cond.code yX2_adjustWeight cX2_adjustWeight 6 none, Cond.constant RX2 73 (60000), Cond.methodLink RX2 74 Lib.Math.max.name, Cond.methodLink RX2 66 yX2_guess, Cond.methodLink RX3 93 yX2_adjustCounter, Cond.instanceMethod yX2_adjustCounter, Cond.selects RX2 yX2_adjustCounter yX2_adjustCounter, Cond.code yX2_adjustCounter cX2_adjustCounter 3 none, Cond.fieldLink RX2 26 "BitMixer$Model" "rate" "I", Cond.methodLink RX3 97 yX3_step, Cond.instanceMethod yX3_step, Cond.selects RX3 yX3_step yX3_step, Cond.code yX3_step cX3_step 3 none, Cond.methodLink RX4 85 yX0_append, Cond.instanceMethod yX0_append]
def wsL_decode_r8 : List Cond := [Cond.selects RX0 yX0_append yX0_append, Cond.code yX0_append cX0_append 2 none, Cond.methodLink RX4 190 yX4_differences, Cond.instanceMethod yX4_differences, Cond.selects RX4 yX4_differences yX4_differences, Cond.code yX4_differences cX4_differences 5 (some .int), Cond.fieldLink RX4 14 "BitMixer" "text" "LBitMixer$ByteRow;", Cond.fieldLink RX4 88 "BitMixer$ByteRow" "count" "I", Cond.methodLink RX4 243 Lib.Math.max.name, Cond.methodLink RX4 217 yX0_has, Cond.methodLink RX4 167 yX0_at]
def wsL_decode : List Cond := .codeWith yL_decode cL_decode 4 (some .int) [(0, 9, 12, 13)] :: ((wsL_decode_r1 ++ (wsL_decode_r2 ++ (wsL_decode_r3 ++ (wsL_decode_r4 ++ (wsL_decode_r5 ++ (wsL_decode_r6 ++ (wsL_decode_r7 ++ wsL_decode_r8))))))) ++ wsX40 ++ wsX30 ++ wsX20 ++ wsX10 ++ wsX00 ++ (vx_atS RX4 42 "java/lang/IllegalArgumentException" ["java/lang/RuntimeException", "java/lang/Exception"]).filter goodWord)
def wsL_output : List Cond := .codeWith yL_output cL_output 4 (some .int) [(0, 9, 12, 25)] :: ([.classLink RL 25 "java/lang/IndexOutOfBoundsException", .methodLink RL 71 yX4_output, .instanceMethod yX4_output, .selects RX4 yX4_output yX4_output, .initialized RX4, .code yX4_output cX4_output 2 (some .int), .fieldLink RX4 21 "BitMixer" "decoded" "LBitMixer$ByteRow;", .methodLink RX4 100 yX4_requirePlace, .static yX4_requirePlace, .code yX4_requirePlace cX4_requirePlace 2 (some .int), .classLink RX4 127 "java/lang/IndexOutOfBoundsException", .initialized "java/lang/IndexOutOfBoundsException", .methodLink RX4 217 yX0_has, .instanceMethod yX0_has, .selects RX0 yX0_has yX0_has, .initialized RX0, .code yX0_has cX0_has 2 (some .boolean), .fieldLink RX0 19 "BitMixer$ByteRow" "count" "I", .fieldLink RX0 13 "BitMixer$ByteRow" "bytes" "[I", .methodLink RX4 167 yX0_at, .instanceMethod yX0_at, .selects RX0 yX0_at yX0_at, .code yX0_at cX0_at 2 (some .int), .methodLink RX0 23 yX0_has] ++ wsX40 ++ wsX00 ++ (vx_atS RX4 131 "java/lang/IndexOutOfBoundsException" ["java/lang/RuntimeException", "java/lang/Exception"]).filter goodWord)
end
section
theorem dX0_init_0 : decode cX0_init 0 = .ok (.aload_n 0, 1) := by decide +kernel
theorem dX0_init_1 : decode cX0_init 1 = .ok (.invokespecial 1, 3) := by decide +kernel
theorem dX0_init_4 : decode cX0_init 4 = .ok (.aload_n 0, 1) := by decide +kernel
theorem dX0_init_5 : decode cX0_init 5 = .ok (.iload_n 1, 1) := by decide +kernel
theorem dX0_init_6 : decode cX0_init 6 = .ok (.iconst 0, 1) := by decide +kernel
theorem dX0_init_7 : decode cX0_init 7 = .ok (.invokestatic 7, 3) := by decide +kernel
theorem dX0_init_10 : decode cX0_init 10 = .ok (.newarray .int, 2) := by decide +kernel
theorem dX0_init_12 : decode cX0_init 12 = .ok (.putfield 13, 3) := by decide +kernel
theorem dX0_init_15 : decode cX0_init 15 = .ok (.aload_n 0, 1) := by decide +kernel
theorem dX0_init_16 : decode cX0_init 16 = .ok (.iconst 0, 1) := by decide +kernel
theorem dX0_init_17 : decode cX0_init 17 = .ok (.putfield 19, 3) := by decide +kernel
theorem dX0_init_20 : decode cX0_init 20 = .ok (.return_, 1) := by decide +kernel
theorem dX0_has_0 : decode cX0_has 0 = .ok (.iload_n 1, 1) := by decide +kernel
theorem dX0_has_1 : decode cX0_has 1 = .ok (.ifCond .lt 24, 3) := by decide +kernel
theorem dX0_has_4 : decode cX0_has 4 = .ok (.iload_n 1, 1) := by decide +kernel
theorem dX0_has_5 : decode cX0_has 5 = .ok (.aload_n 0, 1) := by decide +kernel
theorem dX0_has_6 : decode cX0_has 6 = .ok (.getfield 19, 3) := by decide +kernel
theorem dX0_has_9 : decode cX0_has 9 = .ok (.if_icmp .ge 16, 3) := by decide +kernel
theorem dX0_has_12 : decode cX0_has 12 = .ok (.iload_n 1, 1) := by decide +kernel
theorem dX0_has_13 : decode cX0_has 13 = .ok (.aload_n 0, 1) := by decide +kernel
theorem dX0_has_14 : decode cX0_has 14 = .ok (.getfield 13, 3) := by decide +kernel
theorem dX0_has_17 : decode cX0_has 17 = .ok (.arraylength, 1) := by decide +kernel
theorem dX0_has_18 : decode cX0_has 18 = .ok (.if_icmp .ge 7, 3) := by decide +kernel
theorem dX0_has_21 : decode cX0_has 21 = .ok (.iconst 1, 1) := by decide +kernel
theorem dX0_has_22 : decode cX0_has 22 = .ok (.goto 4, 3) := by decide +kernel
theorem dX0_has_25 : decode cX0_has 25 = .ok (.iconst 0, 1) := by decide +kernel
theorem dX0_has_26 : decode cX0_has 26 = .ok (.ireturn, 1) := by decide +kernel
set_option maxRecDepth 20000 in
theorem ggX0_at_X0_has : GoodIn wsX0_at wsX0_has := goodIn_r _ [6, 7, 1, 8, 9] (by decide +kernel) (by decide +kernel)
set_option maxRecDepth 20000 in
theorem gX0_at_X0_has : GoodIn wsX0_at (wsV RX0 23 RX0 yX0_has wsX0_has) := goodIn_app (goodIn_of _ (by decide +kernel)) ggX0_at_X0_has
theorem dX0_at_0 : decode cX0_at 0 = .ok (.aload_n 0, 1) := by decide +kernel
theorem dX0_at_1 : decode cX0_at 1 = .ok (.iload_n 1, 1) := by decide +kernel
theorem dX0_at_2 : decode cX0_at 2 = .ok (.invokevirtual 23, 3) := by decide +kernel
theorem dX0_at_5 : decode cX0_at 5 = .ok (.ifCond .eq 12, 3) := by decide +kernel
theorem dX0_at_8 : decode cX0_at 8 = .ok (.aload_n 0, 1) := by decide +kernel
theorem dX0_at_9 : decode cX0_at 9 = .ok (.getfield 13, 3) := by decide +kernel
theorem dX0_at_12 : decode cX0_at 12 = .ok (.iload_n 1, 1) := by decide +kernel
theorem dX0_at_13 : decode cX0_at 13 = .ok (.iaload, 1) := by decide +kernel
theorem dX0_at_14 : decode cX0_at 14 = .ok (.goto 4, 3) := by decide +kernel
theorem dX0_at_17 : decode cX0_at 17 = .ok (.iconst 0, 1) := by decide +kernel
theorem dX0_at_18 : decode cX0_at 18 = .ok (.ireturn, 1) := by decide +kernel
set_option maxRecDepth 20000 in
theorem ggX0_put_X0_has : GoodIn wsX0_put wsX0_has := goodIn_r _ [6, 7, 1, 8, 9] (by decide +kernel) (by decide +kernel)
set_option maxRecDepth 20000 in
theorem gX0_put_X0_has : GoodIn wsX0_put (wsV RX0 23 RX0 yX0_has wsX0_has) := goodIn_app (goodIn_of _ (by decide +kernel)) ggX0_put_X0_has
theorem dX0_put_0 : decode cX0_put 0 = .ok (.aload_n 0, 1) := by decide +kernel
theorem dX0_put_1 : decode cX0_put 1 = .ok (.iload_n 1, 1) := by decide +kernel
theorem dX0_put_2 : decode cX0_put 2 = .ok (.invokevirtual 23, 3) := by decide +kernel
theorem dX0_put_5 : decode cX0_put 5 = .ok (.ifCond .eq 10, 3) := by decide +kernel
theorem dX0_put_8 : decode cX0_put 8 = .ok (.aload_n 0, 1) := by decide +kernel
theorem dX0_put_9 : decode cX0_put 9 = .ok (.getfield 13, 3) := by decide +kernel
theorem dX0_put_12 : decode cX0_put 12 = .ok (.iload_n 1, 1) := by decide +kernel
theorem dX0_put_13 : decode cX0_put 13 = .ok (.iload_n 2, 1) := by decide +kernel
theorem dX0_put_14 : decode cX0_put 14 = .ok (.iastore, 1) := by decide +kernel
theorem dX0_put_15 : decode cX0_put 15 = .ok (.return_, 1) := by decide +kernel
theorem dX0_append_0 : decode cX0_append 0 = .ok (.aload_n 0, 1) := by decide +kernel
theorem dX0_append_1 : decode cX0_append 1 = .ok (.getfield 19, 3) := by decide +kernel
theorem dX0_append_4 : decode cX0_append 4 = .ok (.ifCond .lt 35, 3) := by decide +kernel
theorem dX0_append_7 : decode cX0_append 7 = .ok (.aload_n 0, 1) := by decide +kernel
theorem dX0_append_8 : decode cX0_append 8 = .ok (.getfield 19, 3) := by decide +kernel
theorem dX0_append_11 : decode cX0_append 11 = .ok (.aload_n 0, 1) := by decide +kernel
theorem dX0_append_12 : decode cX0_append 12 = .ok (.getfield 13, 3) := by decide +kernel
theorem dX0_append_15 : decode cX0_append 15 = .ok (.arraylength, 1) := by decide +kernel
theorem dX0_append_16 : decode cX0_append 16 = .ok (.if_icmp .ge 23, 3) := by decide +kernel
theorem dX0_append_19 : decode cX0_append 19 = .ok (.aload_n 0, 1) := by decide +kernel
theorem dX0_append_20 : decode cX0_append 20 = .ok (.getfield 13, 3) := by decide +kernel
theorem dX0_append_23 : decode cX0_append 23 = .ok (.aload_n 0, 1) := by decide +kernel
theorem dX0_append_24 : decode cX0_append 24 = .ok (.getfield 19, 3) := by decide +kernel
theorem dX0_append_27 : decode cX0_append 27 = .ok (.iload_n 1, 1) := by decide +kernel
theorem dX0_append_28 : decode cX0_append 28 = .ok (.iastore, 1) := by decide +kernel
theorem dX0_append_29 : decode cX0_append 29 = .ok (.aload_n 0, 1) := by decide +kernel
theorem dX0_append_30 : decode cX0_append 30 = .ok (.dup, 1) := by decide +kernel
theorem dX0_append_31 : decode cX0_append 31 = .ok (.getfield 19, 3) := by decide +kernel
theorem dX0_append_34 : decode cX0_append 34 = .ok (.iconst 1, 1) := by decide +kernel
theorem dX0_append_35 : decode cX0_append 35 = .ok (.iadd, 1) := by decide +kernel
theorem dX0_append_36 : decode cX0_append 36 = .ok (.putfield 19, 3) := by decide +kernel
theorem dX0_append_39 : decode cX0_append 39 = .ok (.return_, 1) := by decide +kernel
theorem dX0_clear_0 : decode cX0_clear 0 = .ok (.aload_n 0, 1) := by decide +kernel
theorem dX0_clear_1 : decode cX0_clear 1 = .ok (.iconst 0, 1) := by decide +kernel
theorem dX0_clear_2 : decode cX0_clear 2 = .ok (.putfield 19, 3) := by decide +kernel
theorem dX0_clear_5 : decode cX0_clear 5 = .ok (.return_, 1) := by decide +kernel
set_option maxRecDepth 20000 in
theorem ggX1_init_X1_open : GoodIn wsX1_init wsX1_open := goodIn_r _ [8, 9, 10, 11, 12, 13, 14, 15, 16, 17] (by decide +kernel) (by decide +kernel)
set_option maxRecDepth 20000 in
theorem gX1_init_X1_open : GoodIn wsX1_init (wsV RX1 9 RX1 yX1_open wsX1_open) := goodIn_app (goodIn_of _ (by decide +kernel)) ggX1_init_X1_open
theorem dX1_init_0 : decode cX1_init 0 = .ok (.aload_n 0, 1) := by decide +kernel
theorem dX1_init_1 : decode cX1_init 1 = .ok (.invokespecial 3, 3) := by decide +kernel
theorem dX1_init_4 : decode cX1_init 4 = .ok (.aload_n 0, 1) := by decide +kernel
theorem dX1_init_5 : decode cX1_init 5 = .ok (.invokevirtual 9, 3) := by decide +kernel
theorem dX1_init_8 : decode cX1_init 8 = .ok (.return_, 1) := by decide +kernel
theorem dX1_open_0 : decode cX1_open 0 = .ok (.aload_n 0, 1) := by decide +kernel
theorem dX1_open_1 : decode cX1_open 1 = .ok (.lconst 0, 1) := by decide +kernel
theorem dX1_open_2 : decode cX1_open 2 = .ok (.putfield 14, 3) := by decide +kernel
theorem dX1_open_5 : decode cX1_open 5 = .ok (.aload_n 0, 1) := by decide +kernel
theorem dX1_open_6 : decode cX1_open 6 = .ok (.ldc2_w 18, 3) := by decide +kernel
theorem dX1_open_9 : decode cX1_open 9 = .ok (.putfield 20, 3) := by decide +kernel
theorem dX1_open_12 : decode cX1_open 12 = .ok (.aload_n 0, 1) := by decide +kernel
theorem dX1_open_13 : decode cX1_open 13 = .ok (.lconst 0, 1) := by decide +kernel
theorem dX1_open_14 : decode cX1_open 14 = .ok (.putfield 23, 3) := by decide +kernel
theorem dX1_open_17 : decode cX1_open 17 = .ok (.aload_n 0, 1) := by decide +kernel
theorem dX1_open_18 : decode cX1_open 18 = .ok (.iconst 0, 1) := by decide +kernel
theorem dX1_open_19 : decode cX1_open 19 = .ok (.putfield 26, 3) := by decide +kernel
theorem dX1_open_22 : decode cX1_open 22 = .ok (.return_, 1) := by decide +kernel
set_option maxRecDepth 20000 in
theorem ggX1_load_X1_pull : GoodIn wsX1_load wsX1_pull := goodIn_r _ [5, 6, 7, 8, 9, 10, 11, 12, 13, 14, 15, 16, 17, 18, 19, 20, 21, 22, 23, 24, 25] (by decide +kernel) (by decide +kernel)
set_option maxRecDepth 20000 in
theorem gX1_load_X1_pull : GoodIn wsX1_load (wsV RX1 30 RX1 yX1_pull wsX1_pull) := goodIn_app (goodIn_of _ (by decide +kernel)) ggX1_load_X1_pull
theorem dX1_load_0 : decode cX1_load 0 = .ok (.iconst 0, 1) := by decide +kernel
theorem dX1_load_1 : decode cX1_load 1 = .ok (.istore_n 2, 1) := by decide +kernel
theorem dX1_load_2 : decode cX1_load 2 = .ok (.iload_n 2, 1) := by decide +kernel
theorem dX1_load_3 : decode cX1_load 3 = .ok (.iconst 4, 1) := by decide +kernel
theorem dX1_load_4 : decode cX1_load 4 = .ok (.if_icmp .ge 14, 3) := by decide +kernel
theorem dX1_load_7 : decode cX1_load 7 = .ok (.aload_n 0, 1) := by decide +kernel
theorem dX1_load_8 : decode cX1_load 8 = .ok (.aload_n 1, 1) := by decide +kernel
theorem dX1_load_9 : decode cX1_load 9 = .ok (.invokevirtual 30, 3) := by decide +kernel
theorem dX1_load_12 : decode cX1_load 12 = .ok (.iinc 2 1, 3) := by decide +kernel
theorem dX1_load_15 : decode cX1_load 15 = .ok (.goto (-13), 3) := by decide +kernel
theorem dX1_load_18 : decode cX1_load 18 = .ok (.return_, 1) := by decide +kernel
set_option maxRecDepth 20000 in
theorem ggX1_pull_X0_at : GoodIn wsX1_pull wsX0_at := goodIn_r _ [8, 9, 10, 11, 12, 7, 13, 14, 19, 20] (by decide +kernel) (by decide +kernel)
set_option maxRecDepth 20000 in
theorem gX1_pull_X0_at : GoodIn wsX1_pull (wsV RX1 34 RX0 yX0_at wsX0_at) := goodIn_app (goodIn_of _ (by decide +kernel)) ggX1_pull_X0_at
theorem dX1_pull_0 : decode cX1_pull 0 = .ok (.aload_n 0, 1) := by decide +kernel
theorem dX1_pull_1 : decode cX1_pull 1 = .ok (.aload_n 0, 1) := by decide +kernel
theorem dX1_pull_2 : decode cX1_pull 2 = .ok (.getfield 23, 3) := by decide +kernel
theorem dX1_pull_5 : decode cX1_pull 5 = .ok (.bipush 8, 2) := by decide +kernel
theorem dX1_pull_7 : decode cX1_pull 7 = .ok (.lshl, 1) := by decide +kernel
theorem dX1_pull_8 : decode cX1_pull 8 = .ok (.ldc2_w 18, 3) := by decide +kernel
theorem dX1_pull_11 : decode cX1_pull 11 = .ok (.land, 1) := by decide +kernel
theorem dX1_pull_12 : decode cX1_pull 12 = .ok (.aload_n 1, 1) := by decide +kernel
theorem dX1_pull_13 : decode cX1_pull 13 = .ok (.aload_n 0, 1) := by decide +kernel
theorem dX1_pull_14 : decode cX1_pull 14 = .ok (.getfield 26, 3) := by decide +kernel
theorem dX1_pull_17 : decode cX1_pull 17 = .ok (.invokevirtual 34, 3) := by decide +kernel
theorem dX1_pull_20 : decode cX1_pull 20 = .ok (.i2l, 1) := by decide +kernel
theorem dX1_pull_21 : decode cX1_pull 21 = .ok (.ladd, 1) := by decide +kernel
theorem dX1_pull_22 : decode cX1_pull 22 = .ok (.putfield 23, 3) := by decide +kernel
theorem dX1_pull_25 : decode cX1_pull 25 = .ok (.aload_n 0, 1) := by decide +kernel
theorem dX1_pull_26 : decode cX1_pull 26 = .ok (.dup, 1) := by decide +kernel
theorem dX1_pull_27 : decode cX1_pull 27 = .ok (.getfield 26, 3) := by decide +kernel
theorem dX1_pull_30 : decode cX1_pull 30 = .ok (.iconst 1, 1) := by decide +kernel
theorem dX1_pull_31 : decode cX1_pull 31 = .ok (.iadd, 1) := by decide +kernel
theorem dX1_pull_32 : decode cX1_pull 32 = .ok (.putfield 26, 3) := by decide +kernel
theorem dX1_pull_35 : decode cX1_pull 35 = .ok (.return_, 1) := by decide +kernel
theorem dX1_middle_0 : decode cX1_middle 0 = .ok (.aload_n 0, 1) := by decide +kernel
theorem dX1_middle_1 : decode cX1_middle 1 = .ok (.getfield 14, 3) := by decide +kernel
theorem dX1_middle_4 : decode cX1_middle 4 = .ok (.aload_n 0, 1) := by decide +kernel
theorem dX1_middle_5 : decode cX1_middle 5 = .ok (.getfield 20, 3) := by decide +kernel
theorem dX1_middle_8 : decode cX1_middle 8 = .ok (.aload_n 0, 1) := by decide +kernel
theorem dX1_middle_9 : decode cX1_middle 9 = .ok (.getfield 14, 3) := by decide +kernel
theorem dX1_middle_12 : decode cX1_middle 12 = .ok (.lsub, 1) := by decide +kernel
theorem dX1_middle_13 : decode cX1_middle 13 = .ok (.ldc2_w 40, 3) := by decide +kernel
theorem dX1_middle_16 : decode cX1_middle 16 = .ok (.ldiv, 1) := by decide +kernel
theorem dX1_middle_17 : decode cX1_middle 17 = .ok (.iload_n 1, 1) := by decide +kernel
theorem dX1_middle_18 : decode cX1_middle 18 = .ok (.i2l, 1) := by decide +kernel
theorem dX1_middle_19 : decode cX1_middle 19 = .ok (.lmul, 1) := by decide +kernel
theorem dX1_middle_20 : decode cX1_middle 20 = .ok (.ladd, 1) := by decide +kernel
theorem dX1_middle_21 : decode cX1_middle 21 = .ok (.lreturn, 1) := by decide +kernel
theorem dX1_narrow_0 : decode cX1_narrow 0 = .ok (.iload_n 1, 1) := by decide +kernel
theorem dX1_narrow_1 : decode cX1_narrow 1 = .ok (.ifCond .eq 11, 3) := by decide +kernel
theorem dX1_narrow_4 : decode cX1_narrow 4 = .ok (.aload_n 0, 1) := by decide +kernel
theorem dX1_narrow_5 : decode cX1_narrow 5 = .ok (.lload_n 2, 1) := by decide +kernel
theorem dX1_narrow_6 : decode cX1_narrow 6 = .ok (.putfield 20, 3) := by decide +kernel
theorem dX1_narrow_9 : decode cX1_narrow 9 = .ok (.goto 10, 3) := by decide +kernel
theorem dX1_narrow_12 : decode cX1_narrow 12 = .ok (.aload_n 0, 1) := by decide +kernel
theorem dX1_narrow_13 : decode cX1_narrow 13 = .ok (.lload_n 2, 1) := by decide +kernel
theorem dX1_narrow_14 : decode cX1_narrow 14 = .ok (.lconst 1, 1) := by decide +kernel
theorem dX1_narrow_15 : decode cX1_narrow 15 = .ok (.ladd, 1) := by decide +kernel
theorem dX1_narrow_16 : decode cX1_narrow 16 = .ok (.putfield 14, 3) := by decide +kernel
theorem dX1_narrow_19 : decode cX1_narrow 19 = .ok (.return_, 1) := by decide +kernel
set_option maxRecDepth 20000 in
theorem ggX1_isSettled_X1_topByte : GoodIn wsX1_isSettled wsX1_topByte := goodIn_r _ [6] (by decide +kernel) (by decide +kernel)
set_option maxRecDepth 20000 in
theorem gX1_isSettled_X1_topByte : GoodIn wsX1_isSettled (va_wsS RX1 42 yX1_topByte wsX1_topByte) := goodIn_app (goodIn_of _ (by decide +kernel)) ggX1_isSettled_X1_topByte
theorem dX1_isSettled_0 : decode cX1_isSettled 0 = .ok (.aload_n 0, 1) := by decide +kernel
theorem dX1_isSettled_1 : decode cX1_isSettled 1 = .ok (.getfield 14, 3) := by decide +kernel
theorem dX1_isSettled_4 : decode cX1_isSettled 4 = .ok (.invokestatic 42, 3) := by decide +kernel
theorem dX1_isSettled_7 : decode cX1_isSettled 7 = .ok (.aload_n 0, 1) := by decide +kernel
theorem dX1_isSettled_8 : decode cX1_isSettled 8 = .ok (.getfield 20, 3) := by decide +kernel
theorem dX1_isSettled_11 : decode cX1_isSettled 11 = .ok (.invokestatic 42, 3) := by decide +kernel
theorem dX1_isSettled_14 : decode cX1_isSettled 14 = .ok (.if_icmp .ne 7, 3) := by decide +kernel
theorem dX1_isSettled_17 : decode cX1_isSettled 17 = .ok (.iconst 1, 1) := by decide +kernel
theorem dX1_isSettled_18 : decode cX1_isSettled 18 = .ok (.goto 4, 3) := by decide +kernel
theorem dX1_isSettled_21 : decode cX1_isSettled 21 = .ok (.iconst 0, 1) := by decide +kernel
theorem dX1_isSettled_22 : decode cX1_isSettled 22 = .ok (.ireturn, 1) := by decide +kernel
set_option maxRecDepth 20000 in
theorem ggX1_shift_X1_topByte : GoodIn wsX1_shift wsX1_topByte := goodIn_r _ [8] (by decide +kernel) (by decide +kernel)
set_option maxRecDepth 20000 in
theorem gX1_shift_X1_topByte : GoodIn wsX1_shift (va_wsS RX1 42 yX1_topByte wsX1_topByte) := goodIn_app (goodIn_of _ (by decide +kernel)) ggX1_shift_X1_topByte
theorem dX1_shift_0 : decode cX1_shift 0 = .ok (.aload_n 0, 1) := by decide +kernel
theorem dX1_shift_1 : decode cX1_shift 1 = .ok (.getfield 14, 3) := by decide +kernel
theorem dX1_shift_4 : decode cX1_shift 4 = .ok (.invokestatic 42, 3) := by decide +kernel
theorem dX1_shift_7 : decode cX1_shift 7 = .ok (.istore_n 1, 1) := by decide +kernel
theorem dX1_shift_8 : decode cX1_shift 8 = .ok (.aload_n 0, 1) := by decide +kernel
theorem dX1_shift_9 : decode cX1_shift 9 = .ok (.aload_n 0, 1) := by decide +kernel
theorem dX1_shift_10 : decode cX1_shift 10 = .ok (.getfield 14, 3) := by decide +kernel
theorem dX1_shift_13 : decode cX1_shift 13 = .ok (.bipush 8, 2) := by decide +kernel
theorem dX1_shift_15 : decode cX1_shift 15 = .ok (.lshl, 1) := by decide +kernel
theorem dX1_shift_16 : decode cX1_shift 16 = .ok (.ldc2_w 18, 3) := by decide +kernel
theorem dX1_shift_19 : decode cX1_shift 19 = .ok (.land, 1) := by decide +kernel
theorem dX1_shift_20 : decode cX1_shift 20 = .ok (.putfield 14, 3) := by decide +kernel
theorem dX1_shift_23 : decode cX1_shift 23 = .ok (.aload_n 0, 1) := by decide +kernel
theorem dX1_shift_24 : decode cX1_shift 24 = .ok (.aload_n 0, 1) := by decide +kernel
theorem dX1_shift_25 : decode cX1_shift 25 = .ok (.getfield 20, 3) := by decide +kernel
theorem dX1_shift_28 : decode cX1_shift 28 = .ok (.bipush 8, 2) := by decide +kernel
theorem dX1_shift_30 : decode cX1_shift 30 = .ok (.lshl, 1) := by decide +kernel
theorem dX1_shift_31 : decode cX1_shift 31 = .ok (.ldc2_w 18, 3) := by decide +kernel
theorem dX1_shift_34 : decode cX1_shift 34 = .ok (.land, 1) := by decide +kernel
theorem dX1_shift_35 : decode cX1_shift 35 = .ok (.ldc2_w 46, 3) := by decide +kernel
theorem dX1_shift_38 : decode cX1_shift 38 = .ok (.ladd, 1) := by decide +kernel
theorem dX1_shift_39 : decode cX1_shift 39 = .ok (.putfield 20, 3) := by decide +kernel
theorem dX1_shift_42 : decode cX1_shift 42 = .ok (.iload_n 1, 1) := by decide +kernel
theorem dX1_shift_43 : decode cX1_shift 43 = .ok (.ireturn, 1) := by decide +kernel
theorem dX1_topByte_0 : decode cX1_topByte 0 = .ok (.lload_n 0, 1) := by decide +kernel
theorem dX1_topByte_1 : decode cX1_topByte 1 = .ok (.bipush 24, 2) := by decide +kernel
theorem dX1_topByte_3 : decode cX1_topByte 3 = .ok (.lushr, 1) := by decide +kernel
theorem dX1_topByte_4 : decode cX1_topByte 4 = .ok (.l2i, 1) := by decide +kernel
theorem dX1_topByte_5 : decode cX1_topByte 5 = .ok (.ireturn, 1) := by decide +kernel
theorem dX2_init_0 : decode cX2_init 0 = .ok (.aload_n 0, 1) := by decide +kernel
theorem dX2_init_1 : decode cX2_init 1 = .ok (.invokespecial 3, 3) := by decide +kernel
theorem dX2_init_4 : decode cX2_init 4 = .ok (.aload_n 0, 1) := by decide +kernel
theorem dX2_init_5 : decode cX2_init 5 = .ok (.sipush 512, 3) := by decide +kernel
theorem dX2_init_8 : decode cX2_init 8 = .ok (.newarray .int, 2) := by decide +kernel
theorem dX2_init_10 : decode cX2_init 10 = .ok (.putfield 9, 3) := by decide +kernel
theorem dX2_init_13 : decode cX2_init 13 = .ok (.aload_n 0, 1) := by decide +kernel
theorem dX2_init_14 : decode cX2_init 14 = .ok (.sipush 512, 3) := by decide +kernel
theorem dX2_init_17 : decode cX2_init 17 = .ok (.newarray .long, 2) := by decide +kernel
theorem dX2_init_19 : decode cX2_init 19 = .ok (.putfield 15, 3) := by decide +kernel
theorem dX2_init_22 : decode cX2_init 22 = .ok (.aload_n 0, 1) := by decide +kernel
theorem dX2_init_23 : decode cX2_init 23 = .ok (.bipush 8, 2) := by decide +kernel
theorem dX2_init_25 : decode cX2_init 25 = .ok (.newarray .int, 2) := by decide +kernel
theorem dX2_init_27 : decode cX2_init 27 = .ok (.putfield 19, 3) := by decide +kernel
theorem dX2_init_30 : decode cX2_init 30 = .ok (.return_, 1) := by decide +kernel
theorem dX2_shape_0 : decode cX2_shape 0 = .ok (.aload_n 0, 1) := by decide +kernel
theorem dX2_shape_1 : decode cX2_shape 1 = .ok (.iload_n 1, 1) := by decide +kernel
theorem dX2_shape_2 : decode cX2_shape 2 = .ok (.putfield 22, 3) := by decide +kernel
theorem dX2_shape_5 : decode cX2_shape 5 = .ok (.aload_n 0, 1) := by decide +kernel
theorem dX2_shape_6 : decode cX2_shape 6 = .ok (.iload_n 2, 1) := by decide +kernel
theorem dX2_shape_7 : decode cX2_shape 7 = .ok (.putfield 26, 3) := by decide +kernel
theorem dX2_shape_10 : decode cX2_shape 10 = .ok (.aload_n 0, 1) := by decide +kernel
theorem dX2_shape_11 : decode cX2_shape 11 = .ok (.iload_n 3, 1) := by decide +kernel
theorem dX2_shape_12 : decode cX2_shape 12 = .ok (.putfield 29, 3) := by decide +kernel
theorem dX2_shape_15 : decode cX2_shape 15 = .ok (.return_, 1) := by decide +kernel
theorem dX2_tableSize_0 : decode cX2_tableSize 0 = .ok (.iconst 1, 1) := by decide +kernel
theorem dX2_tableSize_1 : decode cX2_tableSize 1 = .ok (.aload_n 0, 1) := by decide +kernel
theorem dX2_tableSize_2 : decode cX2_tableSize 2 = .ok (.getfield 29, 3) := by decide +kernel
theorem dX2_tableSize_5 : decode cX2_tableSize 5 = .ok (.ishl, 1) := by decide +kernel
theorem dX2_tableSize_6 : decode cX2_tableSize 6 = .ok (.sipush 512, 3) := by decide +kernel
theorem dX2_tableSize_9 : decode cX2_tableSize 9 = .ok (.invokestatic 32, 3) := by decide +kernel
theorem dX2_tableSize_12 : decode cX2_tableSize 12 = .ok (.ireturn, 1) := by decide +kernel
set_option maxRecDepth 20000 in
theorem ggX2_forget_J7_fill_53178 : GoodIn wsX2_forget wsJ7_fill_53178 := goodIn_r _ [8] (by decide +kernel) (by decide +kernel)
set_option maxRecDepth 20000 in
theorem gX2_forget_J7_fill_53178 : GoodIn wsX2_forget (va_wsS RX2 38 yJ7_fill_53178 wsJ7_fill_53178) := goodIn_app (goodIn_of _ (by decide +kernel)) ggX2_forget_J7_fill_53178
set_option maxRecDepth 20000 in
theorem ggX2_forget_J7_fill_d0a16 : GoodIn wsX2_forget wsJ7_fill_d0a16 := goodIn_r _ [11] (by decide +kernel) (by decide +kernel)
set_option maxRecDepth 20000 in
theorem gX2_forget_J7_fill_d0a16 : GoodIn wsX2_forget (va_wsS RX2 44 yJ7_fill_d0a16 wsJ7_fill_d0a16) := goodIn_app (goodIn_of _ (by decide +kernel)) ggX2_forget_J7_fill_d0a16
theorem dX2_forget_0 : decode cX2_forget 0 = .ok (.aload_n 0, 1) := by decide +kernel
theorem dX2_forget_1 : decode cX2_forget 1 = .ok (.getfield 9, 3) := by decide +kernel
theorem dX2_forget_4 : decode cX2_forget 4 = .ok (.sipush 2048, 3) := by decide +kernel
theorem dX2_forget_7 : decode cX2_forget 7 = .ok (.invokestatic 38, 3) := by decide +kernel
theorem dX2_forget_10 : decode cX2_forget 10 = .ok (.aload_n 0, 1) := by decide +kernel
theorem dX2_forget_11 : decode cX2_forget 11 = .ok (.getfield 15, 3) := by decide +kernel
theorem dX2_forget_14 : decode cX2_forget 14 = .ok (.lconst 0, 1) := by decide +kernel
theorem dX2_forget_15 : decode cX2_forget 15 = .ok (.invokestatic 44, 3) := by decide +kernel
theorem dX2_forget_18 : decode cX2_forget 18 = .ok (.aload_n 0, 1) := by decide +kernel
theorem dX2_forget_19 : decode cX2_forget 19 = .ok (.getfield 19, 3) := by decide +kernel
theorem dX2_forget_22 : decode cX2_forget 22 = .ok (.sipush 256, 3) := by decide +kernel
theorem dX2_forget_25 : decode cX2_forget 25 = .ok (.invokestatic 38, 3) := by decide +kernel
theorem dX2_forget_28 : decode cX2_forget 28 = .ok (.aload_n 0, 1) := by decide +kernel
theorem dX2_forget_29 : decode cX2_forget 29 = .ok (.iconst 0, 1) := by decide +kernel
theorem dX2_forget_30 : decode cX2_forget 30 = .ok (.putfield 47, 3) := by decide +kernel
theorem dX2_forget_33 : decode cX2_forget 33 = .ok (.return_, 1) := by decide +kernel
theorem dX2_readContext_0 : decode cX2_readContext 0 = .ok (.iconst 0, 1) := by decide +kernel
theorem dX2_readContext_1 : decode cX2_readContext 1 = .ok (.istore_n 2, 1) := by decide +kernel
theorem dX2_readContext_2 : decode cX2_readContext 2 = .ok (.iconst 0, 1) := by decide +kernel
theorem dX2_readContext_3 : decode cX2_readContext 3 = .ok (.istore_n 3, 1) := by decide +kernel
theorem dX2_readContext_4 : decode cX2_readContext 4 = .ok (.iload_n 3, 1) := by decide +kernel
theorem dX2_readContext_5 : decode cX2_readContext 5 = .ok (.aload_n 0, 1) := by decide +kernel
theorem dX2_readContext_6 : decode cX2_readContext 6 = .ok (.getfield 22, 3) := by decide +kernel
theorem dX2_readContext_9 : decode cX2_readContext 9 = .ok (.if_icmp .ge 27, 3) := by decide +kernel
theorem dX2_readContext_12 : decode cX2_readContext 12 = .ok (.iload_n 3, 1) := by decide +kernel
theorem dX2_readContext_13 : decode cX2_readContext 13 = .ok (.aload_n 1, 1) := by decide +kernel
theorem dX2_readContext_14 : decode cX2_readContext 14 = .ok (.arraylength, 1) := by decide +kernel
theorem dX2_readContext_15 : decode cX2_readContext 15 = .ok (.if_icmp .ge 21, 3) := by decide +kernel
theorem dX2_readContext_18 : decode cX2_readContext 18 = .ok (.sipush 257, 3) := by decide +kernel
theorem dX2_readContext_21 : decode cX2_readContext 21 = .ok (.iload_n 2, 1) := by decide +kernel
theorem dX2_readContext_22 : decode cX2_readContext 22 = .ok (.imul, 1) := by decide +kernel
theorem dX2_readContext_23 : decode cX2_readContext 23 = .ok (.iconst 1, 1) := by decide +kernel
theorem dX2_readContext_24 : decode cX2_readContext 24 = .ok (.iadd, 1) := by decide +kernel
theorem dX2_readContext_25 : decode cX2_readContext 25 = .ok (.aload_n 1, 1) := by decide +kernel
theorem dX2_readContext_26 : decode cX2_readContext 26 = .ok (.iload_n 3, 1) := by decide +kernel
theorem dX2_readContext_27 : decode cX2_readContext 27 = .ok (.iaload, 1) := by decide +kernel
theorem dX2_readContext_28 : decode cX2_readContext 28 = .ok (.iadd, 1) := by decide +kernel
theorem dX2_readContext_29 : decode cX2_readContext 29 = .ok (.istore_n 2, 1) := by decide +kernel
theorem dX2_readContext_30 : decode cX2_readContext 30 = .ok (.iinc 3 1, 3) := by decide +kernel
theorem dX2_readContext_33 : decode cX2_readContext 33 = .ok (.goto (-29), 3) := by decide +kernel
theorem dX2_readContext_36 : decode cX2_readContext 36 = .ok (.aload_n 0, 1) := by decide +kernel
theorem dX2_readContext_37 : decode cX2_readContext 37 = .ok (.iload_n 2, 1) := by decide +kernel
theorem dX2_readContext_38 : decode cX2_readContext 38 = .ok (.putfield 50, 3) := by decide +kernel
theorem dX2_readContext_41 : decode cX2_readContext 41 = .ok (.return_, 1) := by decide +kernel
set_option maxRecDepth 20000 in
theorem ggX2_aim_X2_tableSize : GoodIn wsX2_aim wsX2_tableSize := goodIn_r _ [9, 10, 11, 12, 13, 14, 15, 16, 17, 18, 19, 20, 21, 22, 23, 24] (by decide +kernel) (by decide +kernel)
set_option maxRecDepth 20000 in
theorem gX2_aim_X2_tableSize : GoodIn wsX2_aim (wsV RX2 59 RX2 yX2_tableSize wsX2_tableSize) := goodIn_app (goodIn_of _ (by decide +kernel)) ggX2_aim_X2_tableSize
theorem dX2_aim_0 : decode cX2_aim 0 = .ok (.aload_n 0, 1) := by decide +kernel
theorem dX2_aim_1 : decode cX2_aim 1 = .ok (.ldc2_w 53, 3) := by decide +kernel
theorem dX2_aim_4 : decode cX2_aim 4 = .ok (.aload_n 0, 1) := by decide +kernel
theorem dX2_aim_5 : decode cX2_aim 5 = .ok (.getfield 50, 3) := by decide +kernel
theorem dX2_aim_8 : decode cX2_aim 8 = .ok (.i2l, 1) := by decide +kernel
theorem dX2_aim_9 : decode cX2_aim 9 = .ok (.lmul, 1) := by decide +kernel
theorem dX2_aim_10 : decode cX2_aim 10 = .ok (.iload_n 1, 1) := by decide +kernel
theorem dX2_aim_11 : decode cX2_aim 11 = .ok (.i2l, 1) := by decide +kernel
theorem dX2_aim_12 : decode cX2_aim 12 = .ok (.ladd, 1) := by decide +kernel
theorem dX2_aim_13 : decode cX2_aim 13 = .ok (.putfield 55, 3) := by decide +kernel
theorem dX2_aim_16 : decode cX2_aim 16 = .ok (.aload_n 0, 1) := by decide +kernel
theorem dX2_aim_17 : decode cX2_aim 17 = .ok (.bipush 73, 2) := by decide +kernel
theorem dX2_aim_19 : decode cX2_aim 19 = .ok (.aload_n 0, 1) := by decide +kernel
theorem dX2_aim_20 : decode cX2_aim 20 = .ok (.getfield 50, 3) := by decide +kernel
theorem dX2_aim_23 : decode cX2_aim 23 = .ok (.imul, 1) := by decide +kernel
theorem dX2_aim_24 : decode cX2_aim 24 = .ok (.iload_n 1, 1) := by decide +kernel
theorem dX2_aim_25 : decode cX2_aim 25 = .ok (.iadd, 1) := by decide +kernel
theorem dX2_aim_26 : decode cX2_aim 26 = .ok (.aload_n 0, 1) := by decide +kernel
theorem dX2_aim_27 : decode cX2_aim 27 = .ok (.invokevirtual 59, 3) := by decide +kernel
theorem dX2_aim_30 : decode cX2_aim 30 = .ok (.iconst 1, 1) := by decide +kernel
theorem dX2_aim_31 : decode cX2_aim 31 = .ok (.isub, 1) := by decide +kernel
theorem dX2_aim_32 : decode cX2_aim 32 = .ok (.iand, 1) := by decide +kernel
theorem dX2_aim_33 : decode cX2_aim 33 = .ok (.putfield 63, 3) := by decide +kernel
theorem dX2_aim_36 : decode cX2_aim 36 = .ok (.return_, 1) := by decide +kernel
theorem dX2_guess_0 : decode cX2_guess 0 = .ok (.aload_n 0, 1) := by decide +kernel
theorem dX2_guess_1 : decode cX2_guess 1 = .ok (.getfield 9, 3) := by decide +kernel
theorem dX2_guess_4 : decode cX2_guess 4 = .ok (.aload_n 0, 1) := by decide +kernel
theorem dX2_guess_5 : decode cX2_guess 5 = .ok (.getfield 63, 3) := by decide +kernel
theorem dX2_guess_8 : decode cX2_guess 8 = .ok (.iaload, 1) := by decide +kernel
theorem dX2_guess_9 : decode cX2_guess 9 = .ok (.ireturn, 1) := by decide +kernel
set_option maxRecDepth 20000 in
theorem ggX2_adjustWeight_X2_guess : GoodIn wsX2_adjustWeight wsX2_guess := goodIn_r _ [14, 15, 16, 20, 21, 22, 23, 24, 25, 26, 27, 28, 29] (by decide +kernel) (by decide +kernel)
set_option maxRecDepth 20000 in
theorem gX2_adjustWeight_X2_guess : GoodIn wsX2_adjustWeight (wsV RX2 66 RX2 yX2_guess wsX2_guess) := goodIn_app (goodIn_of _ (by decide +kernel)) ggX2_adjustWeight_X2_guess
set_option maxRecDepth 20000 in
theorem ggX2_adjustWeight_X4_quality : GoodIn wsX2_adjustWeight wsX4_quality := goodIn_r _ [19] (by decide +kernel) (by decide +kernel)
set_option maxRecDepth 20000 in
theorem gX2_adjustWeight_X4_quality_n69 : GoodIn wsX2_adjustWeight (wsX4_quality) := ggX2_adjustWeight_X4_quality
theorem dX2_adjustWeight_0 : decode cX2_adjustWeight 0 = .ok (.aload_n 0, 1) := by decide +kernel
theorem dX2_adjustWeight_1 : decode cX2_adjustWeight 1 = .ok (.invokevirtual 66, 3) := by decide +kernel
theorem dX2_adjustWeight_4 : decode cX2_adjustWeight 4 = .ok (.iload_n 2, 1) := by decide +kernel
theorem dX2_adjustWeight_5 : decode cX2_adjustWeight 5 = .ok (.invokestatic 69, 3) := by decide +kernel
theorem dX2_adjustWeight_8 : decode cX2_adjustWeight 8 = .ok (.istore 4, 2) := by decide +kernel
theorem dX2_adjustWeight_10 : decode cX2_adjustWeight 10 = .ok (.aload_n 0, 1) := by decide +kernel
theorem dX2_adjustWeight_11 : decode cX2_adjustWeight 11 = .ok (.getfield 19, 3) := by decide +kernel
theorem dX2_adjustWeight_14 : decode cX2_adjustWeight 14 = .ok (.iload_n 1, 1) := by decide +kernel
theorem dX2_adjustWeight_15 : decode cX2_adjustWeight 15 = .ok (.iaload, 1) := by decide +kernel
theorem dX2_adjustWeight_16 : decode cX2_adjustWeight 16 = .ok (.istore 5, 2) := by decide +kernel
theorem dX2_adjustWeight_18 : decode cX2_adjustWeight 18 = .ok (.iload 4, 2) := by decide +kernel
theorem dX2_adjustWeight_20 : decode cX2_adjustWeight 20 = .ok (.iload_n 3, 1) := by decide +kernel
theorem dX2_adjustWeight_21 : decode cX2_adjustWeight 21 = .ok (.if_icmp .le 27, 3) := by decide +kernel
theorem dX2_adjustWeight_24 : decode cX2_adjustWeight 24 = .ok (.aload_n 0, 1) := by decide +kernel
theorem dX2_adjustWeight_25 : decode cX2_adjustWeight 25 = .ok (.getfield 19, 3) := by decide +kernel
theorem dX2_adjustWeight_28 : decode cX2_adjustWeight 28 = .ok (.iload_n 1, 1) := by decide +kernel
theorem dX2_adjustWeight_29 : decode cX2_adjustWeight 29 = .ok (.iload 5, 2) := by decide +kernel
theorem dX2_adjustWeight_31 : decode cX2_adjustWeight 31 = .ok (.iload 5, 2) := by decide +kernel
theorem dX2_adjustWeight_33 : decode cX2_adjustWeight 33 = .ok (.bipush 16, 2) := by decide +kernel
theorem dX2_adjustWeight_35 : decode cX2_adjustWeight 35 = .ok (.idiv, 1) := by decide +kernel
theorem dX2_adjustWeight_36 : decode cX2_adjustWeight 36 = .ok (.iadd, 1) := by decide +kernel
theorem dX2_adjustWeight_37 : decode cX2_adjustWeight 37 = .ok (.iconst 1, 1) := by decide +kernel
theorem dX2_adjustWeight_38 : decode cX2_adjustWeight 38 = .ok (.iadd, 1) := by decide +kernel
theorem dX2_adjustWeight_39 : decode cX2_adjustWeight 39 = .ok (.ldc 73, 2) := by decide +kernel
theorem dX2_adjustWeight_41 : decode cX2_adjustWeight 41 = .ok (.invokestatic 32, 3) := by decide +kernel
theorem dX2_adjustWeight_44 : decode cX2_adjustWeight 44 = .ok (.iastore, 1) := by decide +kernel
theorem dX2_adjustWeight_45 : decode cX2_adjustWeight 45 = .ok (.goto 29, 3) := by decide +kernel
theorem dX2_adjustWeight_48 : decode cX2_adjustWeight 48 = .ok (.iload 4, 2) := by decide +kernel
theorem dX2_adjustWeight_50 : decode cX2_adjustWeight 50 = .ok (.iload_n 3, 1) := by decide +kernel
theorem dX2_adjustWeight_51 : decode cX2_adjustWeight 51 = .ok (.if_icmp .ge 23, 3) := by decide +kernel
theorem dX2_adjustWeight_54 : decode cX2_adjustWeight 54 = .ok (.aload_n 0, 1) := by decide +kernel
theorem dX2_adjustWeight_55 : decode cX2_adjustWeight 55 = .ok (.getfield 19, 3) := by decide +kernel
theorem dX2_adjustWeight_58 : decode cX2_adjustWeight 58 = .ok (.iload_n 1, 1) := by decide +kernel
theorem dX2_adjustWeight_59 : decode cX2_adjustWeight 59 = .ok (.iload 5, 2) := by decide +kernel
theorem dX2_adjustWeight_61 : decode cX2_adjustWeight 61 = .ok (.iload 5, 2) := by decide +kernel
theorem dX2_adjustWeight_63 : decode cX2_adjustWeight 63 = .ok (.bipush 16, 2) := by decide +kernel
theorem dX2_adjustWeight_65 : decode cX2_adjustWeight 65 = .ok (.idiv, 1) := by decide +kernel
theorem dX2_adjustWeight_66 : decode cX2_adjustWeight 66 = .ok (.isub, 1) := by decide +kernel
theorem dX2_adjustWeight_67 : decode cX2_adjustWeight 67 = .ok (.iconst 1, 1) := by decide +kernel
theorem dX2_adjustWeight_68 : decode cX2_adjustWeight 68 = .ok (.isub, 1) := by decide +kernel
theorem dX2_adjustWeight_69 : decode cX2_adjustWeight 69 = .ok (.iconst 1, 1) := by decide +kernel
theorem dX2_adjustWeight_70 : decode cX2_adjustWeight 70 = .ok (.invokestatic 74, 3) := by decide +kernel
theorem dX2_adjustWeight_73 : decode cX2_adjustWeight 73 = .ok (.iastore, 1) := by decide +kernel
theorem dX2_adjustWeight_74 : decode cX2_adjustWeight 74 = .ok (.return_, 1) := by decide +kernel
theorem dX2_adjustCounter_0 : decode cX2_adjustCounter 0 = .ok (.aload_n 0, 1) := by decide +kernel
theorem dX2_adjustCounter_1 : decode cX2_adjustCounter 1 = .ok (.getfield 9, 3) := by decide +kernel
theorem dX2_adjustCounter_4 : decode cX2_adjustCounter 4 = .ok (.aload_n 0, 1) := by decide +kernel
theorem dX2_adjustCounter_5 : decode cX2_adjustCounter 5 = .ok (.getfield 63, 3) := by decide +kernel
theorem dX2_adjustCounter_8 : decode cX2_adjustCounter 8 = .ok (.iaload, 1) := by decide +kernel
theorem dX2_adjustCounter_9 : decode cX2_adjustCounter 9 = .ok (.istore_n 2, 1) := by decide +kernel
theorem dX2_adjustCounter_10 : decode cX2_adjustCounter 10 = .ok (.aload_n 0, 1) := by decide +kernel
theorem dX2_adjustCounter_11 : decode cX2_adjustCounter 11 = .ok (.getfield 9, 3) := by decide +kernel
theorem dX2_adjustCounter_14 : decode cX2_adjustCounter 14 = .ok (.aload_n 0, 1) := by decide +kernel
theorem dX2_adjustCounter_15 : decode cX2_adjustCounter 15 = .ok (.getfield 63, 3) := by decide +kernel
theorem dX2_adjustCounter_18 : decode cX2_adjustCounter 18 = .ok (.iload_n 1, 1) := by decide +kernel
theorem dX2_adjustCounter_19 : decode cX2_adjustCounter 19 = .ok (.ifCond .eq 18, 3) := by decide +kernel
theorem dX2_adjustCounter_22 : decode cX2_adjustCounter 22 = .ok (.iload_n 2, 1) := by decide +kernel
theorem dX2_adjustCounter_23 : decode cX2_adjustCounter 23 = .ok (.sipush 4096, 3) := by decide +kernel
theorem dX2_adjustCounter_26 : decode cX2_adjustCounter 26 = .ok (.iload_n 2, 1) := by decide +kernel
theorem dX2_adjustCounter_27 : decode cX2_adjustCounter 27 = .ok (.isub, 1) := by decide +kernel
theorem dX2_adjustCounter_28 : decode cX2_adjustCounter 28 = .ok (.aload_n 0, 1) := by decide +kernel
theorem dX2_adjustCounter_29 : decode cX2_adjustCounter 29 = .ok (.getfield 26, 3) := by decide +kernel
theorem dX2_adjustCounter_32 : decode cX2_adjustCounter 32 = .ok (.ishr, 1) := by decide +kernel
theorem dX2_adjustCounter_33 : decode cX2_adjustCounter 33 = .ok (.iadd, 1) := by decide +kernel
theorem dX2_adjustCounter_34 : decode cX2_adjustCounter 34 = .ok (.goto 11, 3) := by decide +kernel
theorem dX2_adjustCounter_37 : decode cX2_adjustCounter 37 = .ok (.iload_n 2, 1) := by decide +kernel
theorem dX2_adjustCounter_38 : decode cX2_adjustCounter 38 = .ok (.iload_n 2, 1) := by decide +kernel
theorem dX2_adjustCounter_39 : decode cX2_adjustCounter 39 = .ok (.aload_n 0, 1) := by decide +kernel
theorem dX2_adjustCounter_40 : decode cX2_adjustCounter 40 = .ok (.getfield 26, 3) := by decide +kernel
theorem dX2_adjustCounter_43 : decode cX2_adjustCounter 43 = .ok (.ishr, 1) := by decide +kernel
theorem dX2_adjustCounter_44 : decode cX2_adjustCounter 44 = .ok (.isub, 1) := by decide +kernel
theorem dX2_adjustCounter_45 : decode cX2_adjustCounter 45 = .ok (.iastore, 1) := by decide +kernel
theorem dX2_adjustCounter_46 : decode cX2_adjustCounter 46 = .ok (.aload_n 0, 1) := by decide +kernel
theorem dX2_adjustCounter_47 : decode cX2_adjustCounter 47 = .ok (.getfield 15, 3) := by decide +kernel
theorem dX2_adjustCounter_50 : decode cX2_adjustCounter 50 = .ok (.aload_n 0, 1) := by decide +kernel
theorem dX2_adjustCounter_51 : decode cX2_adjustCounter 51 = .ok (.getfield 63, 3) := by decide +kernel
theorem dX2_adjustCounter_54 : decode cX2_adjustCounter 54 = .ok (.laload, 1) := by decide +kernel
theorem dX2_adjustCounter_55 : decode cX2_adjustCounter 55 = .ok (.lconst 0, 1) := by decide +kernel
theorem dX2_adjustCounter_56 : decode cX2_adjustCounter 56 = .ok (.lcmp, 1) := by decide +kernel
theorem dX2_adjustCounter_57 : decode cX2_adjustCounter 57 = .ok (.ifCond .eq 30, 3) := by decide +kernel
theorem dX2_adjustCounter_60 : decode cX2_adjustCounter 60 = .ok (.aload_n 0, 1) := by decide +kernel
theorem dX2_adjustCounter_61 : decode cX2_adjustCounter 61 = .ok (.getfield 15, 3) := by decide +kernel
theorem dX2_adjustCounter_64 : decode cX2_adjustCounter 64 = .ok (.aload_n 0, 1) := by decide +kernel
theorem dX2_adjustCounter_65 : decode cX2_adjustCounter 65 = .ok (.getfield 63, 3) := by decide +kernel
theorem dX2_adjustCounter_68 : decode cX2_adjustCounter 68 = .ok (.laload, 1) := by decide +kernel
theorem dX2_adjustCounter_69 : decode cX2_adjustCounter 69 = .ok (.aload_n 0, 1) := by decide +kernel
theorem dX2_adjustCounter_70 : decode cX2_adjustCounter 70 = .ok (.getfield 55, 3) := by decide +kernel
theorem dX2_adjustCounter_73 : decode cX2_adjustCounter 73 = .ok (.lcmp, 1) := by decide +kernel
theorem dX2_adjustCounter_74 : decode cX2_adjustCounter 74 = .ok (.ifCond .eq 13, 3) := by decide +kernel
theorem dX2_adjustCounter_77 : decode cX2_adjustCounter 77 = .ok (.aload_n 0, 1) := by decide +kernel
theorem dX2_adjustCounter_78 : decode cX2_adjustCounter 78 = .ok (.dup, 1) := by decide +kernel
theorem dX2_adjustCounter_79 : decode cX2_adjustCounter 79 = .ok (.getfield 47, 3) := by decide +kernel
theorem dX2_adjustCounter_82 : decode cX2_adjustCounter 82 = .ok (.iconst 1, 1) := by decide +kernel
theorem dX2_adjustCounter_83 : decode cX2_adjustCounter 83 = .ok (.iadd, 1) := by decide +kernel
theorem dX2_adjustCounter_84 : decode cX2_adjustCounter 84 = .ok (.putfield 47, 3) := by decide +kernel
theorem dX2_adjustCounter_87 : decode cX2_adjustCounter 87 = .ok (.aload_n 0, 1) := by decide +kernel
theorem dX2_adjustCounter_88 : decode cX2_adjustCounter 88 = .ok (.getfield 15, 3) := by decide +kernel
theorem dX2_adjustCounter_91 : decode cX2_adjustCounter 91 = .ok (.aload_n 0, 1) := by decide +kernel
theorem dX2_adjustCounter_92 : decode cX2_adjustCounter 92 = .ok (.getfield 63, 3) := by decide +kernel
theorem dX2_adjustCounter_95 : decode cX2_adjustCounter 95 = .ok (.aload_n 0, 1) := by decide +kernel
theorem dX2_adjustCounter_96 : decode cX2_adjustCounter 96 = .ok (.getfield 55, 3) := by decide +kernel
theorem dX2_adjustCounter_99 : decode cX2_adjustCounter 99 = .ok (.lastore, 1) := by decide +kernel
theorem dX2_adjustCounter_100 : decode cX2_adjustCounter 100 = .ok (.return_, 1) := by decide +kernel
set_option maxRecDepth 20000 in
theorem ggX3_init_X2_init : GoodIn wsX3_init wsX2_init := goodIn_r _ [13, 14, 2, 3, 9, 15, 16, 17, 18, 78, 79, 80, 81, 82, 83, 84, 85, 86, 87] (by decide +kernel) (by decide +kernel)
set_option maxRecDepth 20000 in
theorem gX3_init_X2_init : GoodIn wsX3_init (wsX2_init) := ggX3_init_X2_init
set_option maxRecDepth 20000 in
theorem ggX3_init_X3_restart : GoodIn wsX3_init wsX3_restart := goodIn_r _ [23, 8, 5, 10, 24, 25, 26, 27, 28, 29, 30, 7, 31, 15, 17, 18, 32, 33, 34, 35, 36, 37, 38, 39, 40, 41, 42, 43, 22, 44, 45, 46, 47, 48, 49, 50, 51, 52, 53, 54, 55, 56, 57, 58, 59, 60, 61, 62, 63, 64, 65, 66, 67, 68, 69, 70, 71, 72, 73, 74, 75, 76, 77, 78, 79, 80, 81, 82, 83, 84, 85, 86, 87] (by decide +kernel) (by decide +kernel)
set_option maxRecDepth 20000 in
theorem gX3_init_X3_restart : GoodIn wsX3_init (wsV RX3 26 RX3 yX3_restart wsX3_restart) := goodIn_app (goodIn_of _ (by decide +kernel)) ggX3_init_X3_restart
theorem dX3_init_0 : decode cX3_init 0 = .ok (.aload_n 0, 1) := by decide +kernel
theorem dX3_init_1 : decode cX3_init 1 = .ok (.invokespecial 3, 3) := by decide +kernel
theorem dX3_init_4 : decode cX3_init 4 = .ok (.aload_n 0, 1) := by decide +kernel
theorem dX3_init_5 : decode cX3_init 5 = .ok (.bipush 6, 2) := by decide +kernel
theorem dX3_init_7 : decode cX3_init 7 = .ok (.anewarray 9, 3) := by decide +kernel
theorem dX3_init_10 : decode cX3_init 10 = .ok (.putfield 11, 3) := by decide +kernel
theorem dX3_init_13 : decode cX3_init 13 = .ok (.iconst 0, 1) := by decide +kernel
theorem dX3_init_14 : decode cX3_init 14 = .ok (.istore_n 1, 1) := by decide +kernel
theorem dX3_init_15 : decode cX3_init 15 = .ok (.iload_n 1, 1) := by decide +kernel
theorem dX3_init_16 : decode cX3_init 16 = .ok (.bipush 6, 2) := by decide +kernel
theorem dX3_init_18 : decode cX3_init 18 = .ok (.if_icmp .ge 22, 3) := by decide +kernel
theorem dX3_init_21 : decode cX3_init 21 = .ok (.aload_n 0, 1) := by decide +kernel
theorem dX3_init_22 : decode cX3_init 22 = .ok (.getfield 11, 3) := by decide +kernel
theorem dX3_init_25 : decode cX3_init 25 = .ok (.iload_n 1, 1) := by decide +kernel
theorem dX3_init_26 : decode cX3_init 26 = .ok (.new 9, 3) := by decide +kernel
theorem dX3_init_29 : decode cX3_init 29 = .ok (.dup, 1) := by decide +kernel
theorem dX3_init_30 : decode cX3_init 30 = .ok (.invokespecial 17, 3) := by decide +kernel
theorem dX3_init_33 : decode cX3_init 33 = .ok (.aastore, 1) := by decide +kernel
theorem dX3_init_34 : decode cX3_init 34 = .ok (.iinc 1 1, 3) := by decide +kernel
theorem dX3_init_37 : decode cX3_init 37 = .ok (.goto (-22), 3) := by decide +kernel
theorem dX3_init_40 : decode cX3_init 40 = .ok (.aload_n 0, 1) := by decide +kernel
theorem dX3_init_41 : decode cX3_init 41 = .ok (.iconst 0, 1) := by decide +kernel
theorem dX3_init_42 : decode cX3_init 42 = .ok (.putfield 18, 3) := by decide +kernel
theorem dX3_init_45 : decode cX3_init 45 = .ok (.aload_n 0, 1) := by decide +kernel
theorem dX3_init_46 : decode cX3_init 46 = .ok (.iconst 3, 1) := by decide +kernel
theorem dX3_init_47 : decode cX3_init 47 = .ok (.newarray .int, 2) := by decide +kernel
theorem dX3_init_49 : decode cX3_init 49 = .ok (.putfield 22, 3) := by decide +kernel
theorem dX3_init_52 : decode cX3_init 52 = .ok (.aload_n 0, 1) := by decide +kernel
theorem dX3_init_53 : decode cX3_init 53 = .ok (.invokevirtual 26, 3) := by decide +kernel
theorem dX3_init_56 : decode cX3_init 56 = .ok (.return_, 1) := by decide +kernel
set_option maxRecDepth 20000 in
theorem ggX3_takeModel_X2_shape : GoodIn wsX3_takeModel wsX2_shape := goodIn_r _ [7, 8, 9, 10, 72, 73, 74, 75, 76, 77, 78, 79, 80, 81] (by decide +kernel) (by decide +kernel)
set_option maxRecDepth 20000 in
theorem gX3_takeModel_X2_shape : GoodIn wsX3_takeModel (wsV RX3 29 RX2 yX2_shape wsX2_shape) := goodIn_app (goodIn_of _ (by decide +kernel)) ggX3_takeModel_X2_shape
set_option maxRecDepth 20000 in
theorem ggX3_takeModel_X3_restart : GoodIn wsX3_takeModel wsX3_restart := goodIn_r _ [15, 1, 2, 16, 17, 18, 19, 20, 21, 22, 23, 6, 24, 25, 26, 27, 28, 29, 30, 31, 32, 33, 34, 35, 36, 37, 38, 39, 14, 40, 41, 42, 43, 44, 8, 45, 46, 47, 48, 49, 50, 51, 52, 53, 54, 55, 56, 57, 58, 59, 60, 10, 61, 62, 63, 64, 65, 66, 67, 68, 69, 70, 71, 72, 73, 74, 75, 76, 77, 78, 79, 80, 81] (by decide +kernel) (by decide +kernel)
set_option maxRecDepth 20000 in
theorem gX3_takeModel_X3_restart : GoodIn wsX3_takeModel (wsV RX3 26 RX3 yX3_restart wsX3_restart) := goodIn_app (goodIn_of _ (by decide +kernel)) ggX3_takeModel_X3_restart
theorem dX3_takeModel_0 : decode cX3_takeModel 0 = .ok (.aload_n 0, 1) := by decide +kernel
theorem dX3_takeModel_1 : decode cX3_takeModel 1 = .ok (.getfield 18, 3) := by decide +kernel
theorem dX3_takeModel_4 : decode cX3_takeModel 4 = .ok (.ifCond .lt 41, 3) := by decide +kernel
theorem dX3_takeModel_7 : decode cX3_takeModel 7 = .ok (.aload_n 0, 1) := by decide +kernel
theorem dX3_takeModel_8 : decode cX3_takeModel 8 = .ok (.getfield 18, 3) := by decide +kernel
theorem dX3_takeModel_11 : decode cX3_takeModel 11 = .ok (.bipush 6, 2) := by decide +kernel
theorem dX3_takeModel_13 : decode cX3_takeModel 13 = .ok (.if_icmp .ge 32, 3) := by decide +kernel
theorem dX3_takeModel_16 : decode cX3_takeModel 16 = .ok (.aload_n 0, 1) := by decide +kernel
theorem dX3_takeModel_17 : decode cX3_takeModel 17 = .ok (.getfield 11, 3) := by decide +kernel
theorem dX3_takeModel_20 : decode cX3_takeModel 20 = .ok (.aload_n 0, 1) := by decide +kernel
theorem dX3_takeModel_21 : decode cX3_takeModel 21 = .ok (.getfield 18, 3) := by decide +kernel
theorem dX3_takeModel_24 : decode cX3_takeModel 24 = .ok (.aaload, 1) := by decide +kernel
theorem dX3_takeModel_25 : decode cX3_takeModel 25 = .ok (.iload_n 1, 1) := by decide +kernel
theorem dX3_takeModel_26 : decode cX3_takeModel 26 = .ok (.iload_n 2, 1) := by decide +kernel
theorem dX3_takeModel_27 : decode cX3_takeModel 27 = .ok (.iload_n 3, 1) := by decide +kernel
theorem dX3_takeModel_28 : decode cX3_takeModel 28 = .ok (.invokevirtual 29, 3) := by decide +kernel
theorem dX3_takeModel_31 : decode cX3_takeModel 31 = .ok (.aload_n 0, 1) := by decide +kernel
theorem dX3_takeModel_32 : decode cX3_takeModel 32 = .ok (.dup, 1) := by decide +kernel
theorem dX3_takeModel_33 : decode cX3_takeModel 33 = .ok (.getfield 18, 3) := by decide +kernel
theorem dX3_takeModel_36 : decode cX3_takeModel 36 = .ok (.iconst 1, 1) := by decide +kernel
theorem dX3_takeModel_37 : decode cX3_takeModel 37 = .ok (.iadd, 1) := by decide +kernel
theorem dX3_takeModel_38 : decode cX3_takeModel 38 = .ok (.putfield 18, 3) := by decide +kernel
theorem dX3_takeModel_41 : decode cX3_takeModel 41 = .ok (.aload_n 0, 1) := by decide +kernel
theorem dX3_takeModel_42 : decode cX3_takeModel 42 = .ok (.invokevirtual 26, 3) := by decide +kernel
theorem dX3_takeModel_45 : decode cX3_takeModel 45 = .ok (.return_, 1) := by decide +kernel
set_option maxRecDepth 20000 in
theorem ggX3_dropModel_X3_restart : GoodIn wsX3_dropModel wsX3_restart := goodIn_r _ [6, 1, 7, 8, 9, 10, 11, 12, 13, 14, 15, 16, 17, 18, 19, 20, 21, 22, 23, 24, 25, 26, 27, 28, 29, 30, 31, 32, 5, 33, 34, 35, 36, 37, 38, 39, 40, 41, 42, 43, 44, 45, 46, 47, 48, 49, 50, 51, 52, 53, 54, 55, 56, 57, 58, 59, 60, 61, 62, 63, 64, 65, 66, 67, 68, 69, 70, 71, 72, 73, 74, 75, 76] (by decide +kernel) (by decide +kernel)
set_option maxRecDepth 20000 in
theorem gX3_dropModel_X3_restart : GoodIn wsX3_dropModel (wsV RX3 26 RX3 yX3_restart wsX3_restart) := goodIn_app (goodIn_of _ (by decide +kernel)) ggX3_dropModel_X3_restart
theorem dX3_dropModel_0 : decode cX3_dropModel 0 = .ok (.aload_n 0, 1) := by decide +kernel
theorem dX3_dropModel_1 : decode cX3_dropModel 1 = .ok (.getfield 18, 3) := by decide +kernel
theorem dX3_dropModel_4 : decode cX3_dropModel 4 = .ok (.ifCond .le 17, 3) := by decide +kernel
theorem dX3_dropModel_7 : decode cX3_dropModel 7 = .ok (.aload_n 0, 1) := by decide +kernel
theorem dX3_dropModel_8 : decode cX3_dropModel 8 = .ok (.dup, 1) := by decide +kernel
theorem dX3_dropModel_9 : decode cX3_dropModel 9 = .ok (.getfield 18, 3) := by decide +kernel
theorem dX3_dropModel_12 : decode cX3_dropModel 12 = .ok (.iconst 1, 1) := by decide +kernel
theorem dX3_dropModel_13 : decode cX3_dropModel 13 = .ok (.isub, 1) := by decide +kernel
theorem dX3_dropModel_14 : decode cX3_dropModel 14 = .ok (.putfield 18, 3) := by decide +kernel
theorem dX3_dropModel_17 : decode cX3_dropModel 17 = .ok (.aload_n 0, 1) := by decide +kernel
theorem dX3_dropModel_18 : decode cX3_dropModel 18 = .ok (.invokevirtual 26, 3) := by decide +kernel
theorem dX3_dropModel_21 : decode cX3_dropModel 21 = .ok (.return_, 1) := by decide +kernel
set_option maxRecDepth 20000 in
theorem ggX3_restart_X2_forget : GoodIn wsX3_restart wsX2_forget := goodIn_r _ [12, 13, 14, 15, 16, 17, 18, 19, 20, 21, 22, 23, 63, 64, 65, 66, 67, 68, 69, 70, 71, 72] (by decide +kernel) (by decide +kernel)
set_option maxRecDepth 20000 in
theorem gX3_restart_X2_forget : GoodIn wsX3_restart (wsV RX3 33 RX2 yX2_forget wsX2_forget) := goodIn_app (goodIn_of _ (by decide +kernel)) ggX3_restart_X2_forget
set_option maxRecDepth 20000 in
theorem ggX3_restart_J7_fill_53178 : GoodIn wsX3_restart wsJ7_fill_53178 := goodIn_r _ [20] (by decide +kernel) (by decide +kernel)
set_option maxRecDepth 20000 in
theorem gX3_restart_J7_fill_53178 : GoodIn wsX3_restart (va_wsS RX3 36 yJ7_fill_53178 wsJ7_fill_53178) := goodIn_app (goodIn_of _ (by decide +kernel)) ggX3_restart_J7_fill_53178
set_option maxRecDepth 20000 in
theorem ggX3_restart_X3_readContexts : GoodIn wsX3_restart wsX3_readContexts := goodIn_r _ [29, 1, 2, 3, 30, 31, 32, 11, 33, 34, 35, 56, 57, 58, 59, 60, 61, 62, 63, 64, 65, 66, 67, 68, 69, 70, 71, 72] (by decide +kernel) (by decide +kernel)
set_option maxRecDepth 20000 in
theorem gX3_restart_X3_readContexts : GoodIn wsX3_restart (wsV RX3 55 RX3 yX3_readContexts wsX3_readContexts) := goodIn_app (goodIn_of _ (by decide +kernel)) ggX3_restart_X3_readContexts
set_option maxRecDepth 20000 in
theorem ggX3_restart_X3_aimModels : GoodIn wsX3_restart wsX3_aimModels := goodIn_r _ [39, 1, 2, 4, 40, 41, 42, 11, 43, 44, 35, 45, 46, 47, 48, 49, 50, 51, 52, 53, 54, 55, 56, 57, 58, 59, 60, 61, 62, 63, 64, 65, 66, 67, 68, 69, 70, 71, 72] (by decide +kernel) (by decide +kernel)
set_option maxRecDepth 20000 in
theorem gX3_restart_X3_aimModels : GoodIn wsX3_restart (wsV RX3 58 RX3 yX3_aimModels wsX3_aimModels) := goodIn_app (goodIn_of _ (by decide +kernel)) ggX3_restart_X3_aimModels
theorem dX3_restart_0 : decode cX3_restart 0 = .ok (.iconst 0, 1) := by decide +kernel
theorem dX3_restart_1 : decode cX3_restart 1 = .ok (.istore_n 1, 1) := by decide +kernel
theorem dX3_restart_2 : decode cX3_restart 2 = .ok (.iload_n 1, 1) := by decide +kernel
theorem dX3_restart_3 : decode cX3_restart 3 = .ok (.aload_n 0, 1) := by decide +kernel
theorem dX3_restart_4 : decode cX3_restart 4 = .ok (.getfield 18, 3) := by decide +kernel
theorem dX3_restart_7 : decode cX3_restart 7 = .ok (.if_icmp .ge 18, 3) := by decide +kernel
theorem dX3_restart_10 : decode cX3_restart 10 = .ok (.aload_n 0, 1) := by decide +kernel
theorem dX3_restart_11 : decode cX3_restart 11 = .ok (.getfield 11, 3) := by decide +kernel
theorem dX3_restart_14 : decode cX3_restart 14 = .ok (.iload_n 1, 1) := by decide +kernel
theorem dX3_restart_15 : decode cX3_restart 15 = .ok (.aaload, 1) := by decide +kernel
theorem dX3_restart_16 : decode cX3_restart 16 = .ok (.invokevirtual 33, 3) := by decide +kernel
theorem dX3_restart_19 : decode cX3_restart 19 = .ok (.iinc 1 1, 3) := by decide +kernel
theorem dX3_restart_22 : decode cX3_restart 22 = .ok (.goto (-20), 3) := by decide +kernel
theorem dX3_restart_25 : decode cX3_restart 25 = .ok (.aload_n 0, 1) := by decide +kernel
theorem dX3_restart_26 : decode cX3_restart 26 = .ok (.getfield 22, 3) := by decide +kernel
theorem dX3_restart_29 : decode cX3_restart 29 = .ok (.iconst 0, 1) := by decide +kernel
theorem dX3_restart_30 : decode cX3_restart 30 = .ok (.invokestatic 36, 3) := by decide +kernel
theorem dX3_restart_33 : decode cX3_restart 33 = .ok (.aload_n 0, 1) := by decide +kernel
theorem dX3_restart_34 : decode cX3_restart 34 = .ok (.iconst 1, 1) := by decide +kernel
theorem dX3_restart_35 : decode cX3_restart 35 = .ok (.putfield 42, 3) := by decide +kernel
theorem dX3_restart_38 : decode cX3_restart 38 = .ok (.aload_n 0, 1) := by decide +kernel
theorem dX3_restart_39 : decode cX3_restart 39 = .ok (.iconst 0, 1) := by decide +kernel
theorem dX3_restart_40 : decode cX3_restart 40 = .ok (.putfield 45, 3) := by decide +kernel
theorem dX3_restart_43 : decode cX3_restart 43 = .ok (.aload_n 0, 1) := by decide +kernel
theorem dX3_restart_44 : decode cX3_restart 44 = .ok (.iconst 0, 1) := by decide +kernel
theorem dX3_restart_45 : decode cX3_restart 45 = .ok (.putfield 48, 3) := by decide +kernel
theorem dX3_restart_48 : decode cX3_restart 48 = .ok (.aload_n 0, 1) := by decide +kernel
theorem dX3_restart_49 : decode cX3_restart 49 = .ok (.lconst 0, 1) := by decide +kernel
theorem dX3_restart_50 : decode cX3_restart 50 = .ok (.putfield 51, 3) := by decide +kernel
theorem dX3_restart_53 : decode cX3_restart 53 = .ok (.aload_n 0, 1) := by decide +kernel
theorem dX3_restart_54 : decode cX3_restart 54 = .ok (.invokevirtual 55, 3) := by decide +kernel
theorem dX3_restart_57 : decode cX3_restart 57 = .ok (.aload_n 0, 1) := by decide +kernel
theorem dX3_restart_58 : decode cX3_restart 58 = .ok (.invokevirtual 58, 3) := by decide +kernel
theorem dX3_restart_61 : decode cX3_restart 61 = .ok (.return_, 1) := by decide +kernel
set_option maxRecDepth 20000 in
theorem ggX3_readContexts_X2_readContext : GoodIn wsX3_readContexts wsX2_readContext := goodIn_r _ [8, 9, 10, 18, 19, 20, 21, 22, 23, 24, 25, 26, 27] (by decide +kernel) (by decide +kernel)
set_option maxRecDepth 20000 in
theorem gX3_readContexts_X2_readContext : GoodIn wsX3_readContexts (wsV RX3 61 RX2 yX2_readContext wsX2_readContext) := goodIn_app (goodIn_of _ (by decide +kernel)) ggX3_readContexts_X2_readContext
theorem dX3_readContexts_0 : decode cX3_readContexts 0 = .ok (.iconst 0, 1) := by decide +kernel
theorem dX3_readContexts_1 : decode cX3_readContexts 1 = .ok (.istore_n 1, 1) := by decide +kernel
theorem dX3_readContexts_2 : decode cX3_readContexts 2 = .ok (.iload_n 1, 1) := by decide +kernel
theorem dX3_readContexts_3 : decode cX3_readContexts 3 = .ok (.aload_n 0, 1) := by decide +kernel
theorem dX3_readContexts_4 : decode cX3_readContexts 4 = .ok (.getfield 18, 3) := by decide +kernel
theorem dX3_readContexts_7 : decode cX3_readContexts 7 = .ok (.if_icmp .ge 22, 3) := by decide +kernel
theorem dX3_readContexts_10 : decode cX3_readContexts 10 = .ok (.aload_n 0, 1) := by decide +kernel
theorem dX3_readContexts_11 : decode cX3_readContexts 11 = .ok (.getfield 11, 3) := by decide +kernel
theorem dX3_readContexts_14 : decode cX3_readContexts 14 = .ok (.iload_n 1, 1) := by decide +kernel
theorem dX3_readContexts_15 : decode cX3_readContexts 15 = .ok (.aaload, 1) := by decide +kernel
theorem dX3_readContexts_16 : decode cX3_readContexts 16 = .ok (.aload_n 0, 1) := by decide +kernel
theorem dX3_readContexts_17 : decode cX3_readContexts 17 = .ok (.getfield 22, 3) := by decide +kernel
theorem dX3_readContexts_20 : decode cX3_readContexts 20 = .ok (.invokevirtual 61, 3) := by decide +kernel
theorem dX3_readContexts_23 : decode cX3_readContexts 23 = .ok (.iinc 1 1, 3) := by decide +kernel
theorem dX3_readContexts_26 : decode cX3_readContexts 26 = .ok (.goto (-24), 3) := by decide +kernel
theorem dX3_readContexts_29 : decode cX3_readContexts 29 = .ok (.return_, 1) := by decide +kernel
set_option maxRecDepth 20000 in
theorem ggX3_aimModels_X2_aim : GoodIn wsX3_aimModels wsX2_aim := goodIn_r _ [8, 9, 10, 11, 12, 13, 14, 15, 7, 16, 17, 18, 19, 20, 21, 29, 30, 31, 32, 33, 34, 35, 36, 37, 38] (by decide +kernel) (by decide +kernel)
set_option maxRecDepth 20000 in
theorem gX3_aimModels_X2_aim : GoodIn wsX3_aimModels (wsV RX3 65 RX2 yX2_aim wsX2_aim) := goodIn_app (goodIn_of _ (by decide +kernel)) ggX3_aimModels_X2_aim
theorem dX3_aimModels_0 : decode cX3_aimModels 0 = .ok (.iconst 0, 1) := by decide +kernel
theorem dX3_aimModels_1 : decode cX3_aimModels 1 = .ok (.istore_n 1, 1) := by decide +kernel
theorem dX3_aimModels_2 : decode cX3_aimModels 2 = .ok (.iload_n 1, 1) := by decide +kernel
theorem dX3_aimModels_3 : decode cX3_aimModels 3 = .ok (.aload_n 0, 1) := by decide +kernel
theorem dX3_aimModels_4 : decode cX3_aimModels 4 = .ok (.getfield 18, 3) := by decide +kernel
theorem dX3_aimModels_7 : decode cX3_aimModels 7 = .ok (.if_icmp .ge 22, 3) := by decide +kernel
theorem dX3_aimModels_10 : decode cX3_aimModels 10 = .ok (.aload_n 0, 1) := by decide +kernel
theorem dX3_aimModels_11 : decode cX3_aimModels 11 = .ok (.getfield 11, 3) := by decide +kernel
theorem dX3_aimModels_14 : decode cX3_aimModels 14 = .ok (.iload_n 1, 1) := by decide +kernel
theorem dX3_aimModels_15 : decode cX3_aimModels 15 = .ok (.aaload, 1) := by decide +kernel
theorem dX3_aimModels_16 : decode cX3_aimModels 16 = .ok (.aload_n 0, 1) := by decide +kernel
theorem dX3_aimModels_17 : decode cX3_aimModels 17 = .ok (.getfield 42, 3) := by decide +kernel
theorem dX3_aimModels_20 : decode cX3_aimModels 20 = .ok (.invokevirtual 65, 3) := by decide +kernel
theorem dX3_aimModels_23 : decode cX3_aimModels 23 = .ok (.iinc 1 1, 3) := by decide +kernel
theorem dX3_aimModels_26 : decode cX3_aimModels 26 = .ok (.goto (-24), 3) := by decide +kernel
theorem dX3_aimModels_29 : decode cX3_aimModels 29 = .ok (.return_, 1) := by decide +kernel
set_option maxRecDepth 20000 in
theorem ggX3_mixture_X2_guess : GoodIn wsX3_mixture wsX2_guess := goodIn_r _ [16, 17, 18, 26, 27, 28, 29, 30, 31, 32, 33, 34, 35] (by decide +kernel) (by decide +kernel)
set_option maxRecDepth 20000 in
theorem gX3_mixture_X2_guess : GoodIn wsX3_mixture (wsV RX3 72 RX2 yX2_guess wsX2_guess) := goodIn_app (goodIn_of _ (by decide +kernel)) ggX3_mixture_X2_guess
theorem dX3_mixture_0 : decode cX3_mixture 0 = .ok (.iconst 0, 1) := by decide +kernel
theorem dX3_mixture_1 : decode cX3_mixture 1 = .ok (.istore_n 1, 1) := by decide +kernel
theorem dX3_mixture_2 : decode cX3_mixture 2 = .ok (.iconst 0, 1) := by decide +kernel
theorem dX3_mixture_3 : decode cX3_mixture 3 = .ok (.istore_n 2, 1) := by decide +kernel
theorem dX3_mixture_4 : decode cX3_mixture 4 = .ok (.iconst 0, 1) := by decide +kernel
theorem dX3_mixture_5 : decode cX3_mixture 5 = .ok (.istore_n 3, 1) := by decide +kernel
theorem dX3_mixture_6 : decode cX3_mixture 6 = .ok (.iload_n 3, 1) := by decide +kernel
theorem dX3_mixture_7 : decode cX3_mixture 7 = .ok (.aload_n 0, 1) := by decide +kernel
theorem dX3_mixture_8 : decode cX3_mixture 8 = .ok (.getfield 18, 3) := by decide +kernel
theorem dX3_mixture_11 : decode cX3_mixture 11 = .ok (.if_icmp .ge 45, 3) := by decide +kernel
theorem dX3_mixture_14 : decode cX3_mixture 14 = .ok (.aload_n 0, 1) := by decide +kernel
theorem dX3_mixture_15 : decode cX3_mixture 15 = .ok (.getfield 11, 3) := by decide +kernel
theorem dX3_mixture_18 : decode cX3_mixture 18 = .ok (.iload_n 3, 1) := by decide +kernel
theorem dX3_mixture_19 : decode cX3_mixture 19 = .ok (.aaload, 1) := by decide +kernel
theorem dX3_mixture_20 : decode cX3_mixture 20 = .ok (.getfield 69, 3) := by decide +kernel
theorem dX3_mixture_23 : decode cX3_mixture 23 = .ok (.aload_n 0, 1) := by decide +kernel
theorem dX3_mixture_24 : decode cX3_mixture 24 = .ok (.getfield 45, 3) := by decide +kernel
theorem dX3_mixture_27 : decode cX3_mixture 27 = .ok (.iaload, 1) := by decide +kernel
theorem dX3_mixture_28 : decode cX3_mixture 28 = .ok (.istore 4, 2) := by decide +kernel
theorem dX3_mixture_30 : decode cX3_mixture 30 = .ok (.iload_n 1, 1) := by decide +kernel
theorem dX3_mixture_31 : decode cX3_mixture 31 = .ok (.iload 4, 2) := by decide +kernel
theorem dX3_mixture_33 : decode cX3_mixture 33 = .ok (.aload_n 0, 1) := by decide +kernel
theorem dX3_mixture_34 : decode cX3_mixture 34 = .ok (.getfield 11, 3) := by decide +kernel
theorem dX3_mixture_37 : decode cX3_mixture 37 = .ok (.iload_n 3, 1) := by decide +kernel
theorem dX3_mixture_38 : decode cX3_mixture 38 = .ok (.aaload, 1) := by decide +kernel
theorem dX3_mixture_39 : decode cX3_mixture 39 = .ok (.invokevirtual 72, 3) := by decide +kernel
theorem dX3_mixture_42 : decode cX3_mixture 42 = .ok (.imul, 1) := by decide +kernel
theorem dX3_mixture_43 : decode cX3_mixture 43 = .ok (.iadd, 1) := by decide +kernel
theorem dX3_mixture_44 : decode cX3_mixture 44 = .ok (.istore_n 1, 1) := by decide +kernel
theorem dX3_mixture_45 : decode cX3_mixture 45 = .ok (.iload_n 2, 1) := by decide +kernel
theorem dX3_mixture_46 : decode cX3_mixture 46 = .ok (.iload 4, 2) := by decide +kernel
theorem dX3_mixture_48 : decode cX3_mixture 48 = .ok (.iadd, 1) := by decide +kernel
theorem dX3_mixture_49 : decode cX3_mixture 49 = .ok (.istore_n 2, 1) := by decide +kernel
theorem dX3_mixture_50 : decode cX3_mixture 50 = .ok (.iinc 3 1, 3) := by decide +kernel
theorem dX3_mixture_53 : decode cX3_mixture 53 = .ok (.goto (-47), 3) := by decide +kernel
theorem dX3_mixture_56 : decode cX3_mixture 56 = .ok (.iload_n 2, 1) := by decide +kernel
theorem dX3_mixture_57 : decode cX3_mixture 57 = .ok (.ifCond .gt 7, 3) := by decide +kernel
theorem dX3_mixture_60 : decode cX3_mixture 60 = .ok (.sipush 2048, 3) := by decide +kernel
theorem dX3_mixture_63 : decode cX3_mixture 63 = .ok (.ireturn, 1) := by decide +kernel
theorem dX3_mixture_64 : decode cX3_mixture 64 = .ok (.iconst 1, 1) := by decide +kernel
theorem dX3_mixture_65 : decode cX3_mixture 65 = .ok (.iload_n 1, 1) := by decide +kernel
theorem dX3_mixture_66 : decode cX3_mixture 66 = .ok (.iload_n 2, 1) := by decide +kernel
theorem dX3_mixture_67 : decode cX3_mixture 67 = .ok (.idiv, 1) := by decide +kernel
theorem dX3_mixture_68 : decode cX3_mixture 68 = .ok (.sipush 4095, 3) := by decide +kernel
theorem dX3_mixture_71 : decode cX3_mixture 71 = .ok (.invokestatic 76, 3) := by decide +kernel
theorem dX3_mixture_74 : decode cX3_mixture 74 = .ok (.invokestatic 82, 3) := by decide +kernel
theorem dX3_mixture_77 : decode cX3_mixture 77 = .ok (.ireturn, 1) := by decide +kernel
set_option maxRecDepth 20000 in
theorem ggX3_learn_X4_quality : GoodIn wsX3_learn wsX4_quality := goodIn_r _ [8] (by decide +kernel) (by decide +kernel)
set_option maxRecDepth 20000 in
theorem gX3_learn_X4_quality_n85 : GoodIn wsX3_learn (wsX4_quality) := ggX3_learn_X4_quality
set_option maxRecDepth 20000 in
theorem ggX3_learn_X2_adjustWeight : GoodIn wsX3_learn wsX2_adjustWeight := goodIn_r _ [13, 14, 15, 16, 17, 18, 19, 20, 21, 22, 23, 24, 25, 12, 26, 27, 28, 6, 7, 8, 75, 76, 77, 78, 79, 80, 81, 82, 83, 84] (by decide +kernel) (by decide +kernel)
set_option maxRecDepth 20000 in
theorem gX3_learn_X2_adjustWeight : GoodIn wsX3_learn (wsV RX3 89 RX2 yX2_adjustWeight wsX2_adjustWeight) := goodIn_app (goodIn_of _ (by decide +kernel)) ggX3_learn_X2_adjustWeight
set_option maxRecDepth 20000 in
theorem ggX3_learn_X2_adjustCounter : GoodIn wsX3_learn wsX2_adjustCounter := goodIn_r _ [32, 27, 28, 33, 34, 35, 36, 75, 76, 77, 78, 79, 80, 81, 82, 83, 84] (by decide +kernel) (by decide +kernel)
set_option maxRecDepth 20000 in
theorem gX3_learn_X2_adjustCounter : GoodIn wsX3_learn (wsV RX3 93 RX2 yX2_adjustCounter wsX2_adjustCounter) := goodIn_app (goodIn_of _ (by decide +kernel)) ggX3_learn_X2_adjustCounter
set_option maxRecDepth 20000 in
theorem ggX3_learn_X3_step : GoodIn wsX3_learn wsX3_step := goodIn_r _ [41, 42, 4, 43, 44, 45, 46, 40, 47, 2, 3, 48, 49, 50, 12, 51, 52, 53, 68, 69, 70, 71, 72, 73, 74, 75, 76, 77, 78, 79, 80, 81, 82, 83, 84] (by decide +kernel) (by decide +kernel)
set_option maxRecDepth 20000 in
theorem gX3_learn_X3_step : GoodIn wsX3_learn (wsV RX3 97 RX3 yX3_step wsX3_step) := goodIn_app (goodIn_of _ (by decide +kernel)) ggX3_learn_X3_step
set_option maxRecDepth 20000 in
theorem ggX3_learn_X3_aimModels : GoodIn wsX3_learn wsX3_aimModels := goodIn_r _ [57, 2, 3, 42, 58, 59, 60, 12, 61, 62, 53, 35, 28, 63, 64, 65, 66, 67, 16, 17, 18, 19, 68, 69, 70, 71, 72, 73, 74, 75, 76, 77, 78, 79, 80, 81, 82, 83, 84] (by decide +kernel) (by decide +kernel)
set_option maxRecDepth 20000 in
theorem gX3_learn_X3_aimModels : GoodIn wsX3_learn (wsV RX3 58 RX3 yX3_aimModels wsX3_aimModels) := goodIn_app (goodIn_of _ (by decide +kernel)) ggX3_learn_X3_aimModels
theorem dX3_learn_0 : decode cX3_learn 0 = .ok (.iload_n 2, 1) := by decide +kernel
theorem dX3_learn_1 : decode cX3_learn 1 = .ok (.iload_n 1, 1) := by decide +kernel
theorem dX3_learn_2 : decode cX3_learn 2 = .ok (.invokestatic 85, 3) := by decide +kernel
theorem dX3_learn_5 : decode cX3_learn 5 = .ok (.istore_n 3, 1) := by decide +kernel
theorem dX3_learn_6 : decode cX3_learn 6 = .ok (.aload_n 0, 1) := by decide +kernel
theorem dX3_learn_7 : decode cX3_learn 7 = .ok (.dup, 1) := by decide +kernel
theorem dX3_learn_8 : decode cX3_learn 8 = .ok (.getfield 51, 3) := by decide +kernel
theorem dX3_learn_11 : decode cX3_learn 11 = .ok (.sipush 4096, 3) := by decide +kernel
theorem dX3_learn_14 : decode cX3_learn 14 = .ok (.iload_n 3, 1) := by decide +kernel
theorem dX3_learn_15 : decode cX3_learn 15 = .ok (.isub, 1) := by decide +kernel
theorem dX3_learn_16 : decode cX3_learn 16 = .ok (.i2l, 1) := by decide +kernel
theorem dX3_learn_17 : decode cX3_learn 17 = .ok (.ladd, 1) := by decide +kernel
theorem dX3_learn_18 : decode cX3_learn 18 = .ok (.putfield 51, 3) := by decide +kernel
theorem dX3_learn_21 : decode cX3_learn 21 = .ok (.iconst 0, 1) := by decide +kernel
theorem dX3_learn_22 : decode cX3_learn 22 = .ok (.istore 4, 2) := by decide +kernel
theorem dX3_learn_24 : decode cX3_learn 24 = .ok (.iload 4, 2) := by decide +kernel
theorem dX3_learn_26 : decode cX3_learn 26 = .ok (.aload_n 0, 1) := by decide +kernel
theorem dX3_learn_27 : decode cX3_learn 27 = .ok (.getfield 18, 3) := by decide +kernel
theorem dX3_learn_30 : decode cX3_learn 30 = .ok (.if_icmp .ge 36, 3) := by decide +kernel
theorem dX3_learn_33 : decode cX3_learn 33 = .ok (.aload_n 0, 1) := by decide +kernel
theorem dX3_learn_34 : decode cX3_learn 34 = .ok (.getfield 11, 3) := by decide +kernel
theorem dX3_learn_37 : decode cX3_learn 37 = .ok (.iload 4, 2) := by decide +kernel
theorem dX3_learn_39 : decode cX3_learn 39 = .ok (.aaload, 1) := by decide +kernel
theorem dX3_learn_40 : decode cX3_learn 40 = .ok (.aload_n 0, 1) := by decide +kernel
theorem dX3_learn_41 : decode cX3_learn 41 = .ok (.getfield 45, 3) := by decide +kernel
theorem dX3_learn_44 : decode cX3_learn 44 = .ok (.iload_n 1, 1) := by decide +kernel
theorem dX3_learn_45 : decode cX3_learn 45 = .ok (.iload_n 3, 1) := by decide +kernel
theorem dX3_learn_46 : decode cX3_learn 46 = .ok (.invokevirtual 89, 3) := by decide +kernel
theorem dX3_learn_49 : decode cX3_learn 49 = .ok (.aload_n 0, 1) := by decide +kernel
theorem dX3_learn_50 : decode cX3_learn 50 = .ok (.getfield 11, 3) := by decide +kernel
theorem dX3_learn_53 : decode cX3_learn 53 = .ok (.iload 4, 2) := by decide +kernel
theorem dX3_learn_55 : decode cX3_learn 55 = .ok (.aaload, 1) := by decide +kernel
theorem dX3_learn_56 : decode cX3_learn 56 = .ok (.iload_n 1, 1) := by decide +kernel
theorem dX3_learn_57 : decode cX3_learn 57 = .ok (.invokevirtual 93, 3) := by decide +kernel
theorem dX3_learn_60 : decode cX3_learn 60 = .ok (.iinc 4 1, 3) := by decide +kernel
theorem dX3_learn_63 : decode cX3_learn 63 = .ok (.goto (-39), 3) := by decide +kernel
theorem dX3_learn_66 : decode cX3_learn 66 = .ok (.aload_n 0, 1) := by decide +kernel
theorem dX3_learn_67 : decode cX3_learn 67 = .ok (.dup, 1) := by decide +kernel
theorem dX3_learn_68 : decode cX3_learn 68 = .ok (.getfield 48, 3) := by decide +kernel
theorem dX3_learn_71 : decode cX3_learn 71 = .ok (.iconst 1, 1) := by decide +kernel
theorem dX3_learn_72 : decode cX3_learn 72 = .ok (.iadd, 1) := by decide +kernel
theorem dX3_learn_73 : decode cX3_learn 73 = .ok (.putfield 48, 3) := by decide +kernel
theorem dX3_learn_76 : decode cX3_learn 76 = .ok (.aload_n 0, 1) := by decide +kernel
theorem dX3_learn_77 : decode cX3_learn 77 = .ok (.iload_n 1, 1) := by decide +kernel
theorem dX3_learn_78 : decode cX3_learn 78 = .ok (.invokevirtual 97, 3) := by decide +kernel
theorem dX3_learn_81 : decode cX3_learn 81 = .ok (.aload_n 0, 1) := by decide +kernel
theorem dX3_learn_82 : decode cX3_learn 82 = .ok (.invokevirtual 58, 3) := by decide +kernel
theorem dX3_learn_85 : decode cX3_learn 85 = .ok (.return_, 1) := by decide +kernel
set_option maxRecDepth 20000 in
theorem ggX3_step_X3_readContexts : GoodIn wsX3_step wsX3_readContexts := goodIn_r _ [8, 9, 10, 3, 11, 12, 13, 14, 15, 16, 17, 18, 19, 20, 21, 22, 23, 24, 25, 26, 27, 28, 29, 30, 31, 32, 33, 34] (by decide +kernel) (by decide +kernel)
set_option maxRecDepth 20000 in
theorem gX3_step_X3_readContexts : GoodIn wsX3_step (wsV RX3 55 RX3 yX3_readContexts wsX3_readContexts) := goodIn_app (goodIn_of _ (by decide +kernel)) ggX3_step_X3_readContexts
theorem dX3_step_0 : decode cX3_step 0 = .ok (.aload_n 0, 1) := by decide +kernel
theorem dX3_step_1 : decode cX3_step 1 = .ok (.iconst 2, 1) := by decide +kernel
theorem dX3_step_2 : decode cX3_step 2 = .ok (.aload_n 0, 1) := by decide +kernel
theorem dX3_step_3 : decode cX3_step 3 = .ok (.getfield 42, 3) := by decide +kernel
theorem dX3_step_6 : decode cX3_step 6 = .ok (.imul, 1) := by decide +kernel
theorem dX3_step_7 : decode cX3_step 7 = .ok (.iload_n 1, 1) := by decide +kernel
theorem dX3_step_8 : decode cX3_step 8 = .ok (.ifCond .eq 7, 3) := by decide +kernel
theorem dX3_step_11 : decode cX3_step 11 = .ok (.iconst 1, 1) := by decide +kernel
theorem dX3_step_12 : decode cX3_step 12 = .ok (.goto 4, 3) := by decide +kernel
theorem dX3_step_15 : decode cX3_step 15 = .ok (.iconst 0, 1) := by decide +kernel
theorem dX3_step_16 : decode cX3_step 16 = .ok (.iadd, 1) := by decide +kernel
theorem dX3_step_17 : decode cX3_step 17 = .ok (.putfield 42, 3) := by decide +kernel
theorem dX3_step_20 : decode cX3_step 20 = .ok (.aload_n 0, 1) := by decide +kernel
theorem dX3_step_21 : decode cX3_step 21 = .ok (.aload_n 0, 1) := by decide +kernel
theorem dX3_step_22 : decode cX3_step 22 = .ok (.getfield 45, 3) := by decide +kernel
theorem dX3_step_25 : decode cX3_step 25 = .ok (.iconst 1, 1) := by decide +kernel
theorem dX3_step_26 : decode cX3_step 26 = .ok (.iadd, 1) := by decide +kernel
theorem dX3_step_27 : decode cX3_step 27 = .ok (.bipush 8, 2) := by decide +kernel
theorem dX3_step_29 : decode cX3_step 29 = .ok (.irem, 1) := by decide +kernel
theorem dX3_step_30 : decode cX3_step 30 = .ok (.putfield 45, 3) := by decide +kernel
theorem dX3_step_33 : decode cX3_step 33 = .ok (.aload_n 0, 1) := by decide +kernel
theorem dX3_step_34 : decode cX3_step 34 = .ok (.getfield 42, 3) := by decide +kernel
theorem dX3_step_37 : decode cX3_step 37 = .ok (.sipush 256, 3) := by decide +kernel
theorem dX3_step_40 : decode cX3_step 40 = .ok (.if_icmp .lt 52, 3) := by decide +kernel
theorem dX3_step_43 : decode cX3_step 43 = .ok (.iconst 2, 1) := by decide +kernel
theorem dX3_step_44 : decode cX3_step 44 = .ok (.istore_n 2, 1) := by decide +kernel
theorem dX3_step_45 : decode cX3_step 45 = .ok (.iload_n 2, 1) := by decide +kernel
theorem dX3_step_46 : decode cX3_step 46 = .ok (.ifCond .le 23, 3) := by decide +kernel
theorem dX3_step_49 : decode cX3_step 49 = .ok (.aload_n 0, 1) := by decide +kernel
theorem dX3_step_50 : decode cX3_step 50 = .ok (.getfield 22, 3) := by decide +kernel
theorem dX3_step_53 : decode cX3_step 53 = .ok (.iload_n 2, 1) := by decide +kernel
theorem dX3_step_54 : decode cX3_step 54 = .ok (.aload_n 0, 1) := by decide +kernel
theorem dX3_step_55 : decode cX3_step 55 = .ok (.getfield 22, 3) := by decide +kernel
theorem dX3_step_58 : decode cX3_step 58 = .ok (.iload_n 2, 1) := by decide +kernel
theorem dX3_step_59 : decode cX3_step 59 = .ok (.iconst 1, 1) := by decide +kernel
theorem dX3_step_60 : decode cX3_step 60 = .ok (.isub, 1) := by decide +kernel
theorem dX3_step_61 : decode cX3_step 61 = .ok (.iaload, 1) := by decide +kernel
theorem dX3_step_62 : decode cX3_step 62 = .ok (.iastore, 1) := by decide +kernel
theorem dX3_step_63 : decode cX3_step 63 = .ok (.iinc 2 (-1), 3) := by decide +kernel
theorem dX3_step_66 : decode cX3_step 66 = .ok (.goto (-21), 3) := by decide +kernel
theorem dX3_step_69 : decode cX3_step 69 = .ok (.aload_n 0, 1) := by decide +kernel
theorem dX3_step_70 : decode cX3_step 70 = .ok (.getfield 22, 3) := by decide +kernel
theorem dX3_step_73 : decode cX3_step 73 = .ok (.iconst 0, 1) := by decide +kernel
theorem dX3_step_74 : decode cX3_step 74 = .ok (.aload_n 0, 1) := by decide +kernel
theorem dX3_step_75 : decode cX3_step 75 = .ok (.getfield 42, 3) := by decide +kernel
theorem dX3_step_78 : decode cX3_step 78 = .ok (.sipush 256, 3) := by decide +kernel
theorem dX3_step_81 : decode cX3_step 81 = .ok (.isub, 1) := by decide +kernel
theorem dX3_step_82 : decode cX3_step 82 = .ok (.iastore, 1) := by decide +kernel
theorem dX3_step_83 : decode cX3_step 83 = .ok (.aload_n 0, 1) := by decide +kernel
theorem dX3_step_84 : decode cX3_step 84 = .ok (.iconst 1, 1) := by decide +kernel
theorem dX3_step_85 : decode cX3_step 85 = .ok (.putfield 42, 3) := by decide +kernel
theorem dX3_step_88 : decode cX3_step 88 = .ok (.aload_n 0, 1) := by decide +kernel
theorem dX3_step_89 : decode cX3_step 89 = .ok (.invokevirtual 55, 3) := by decide +kernel
theorem dX3_step_92 : decode cX3_step 92 = .ok (.return_, 1) := by decide +kernel
theorem dX3_heaviest_0 : decode cX3_heaviest 0 = .ok (.iconst (-1), 1) := by decide +kernel
theorem dX3_heaviest_1 : decode cX3_heaviest 1 = .ok (.istore_n 1, 1) := by decide +kernel
theorem dX3_heaviest_2 : decode cX3_heaviest 2 = .ok (.iconst 0, 1) := by decide +kernel
theorem dX3_heaviest_3 : decode cX3_heaviest 3 = .ok (.istore_n 2, 1) := by decide +kernel
theorem dX3_heaviest_4 : decode cX3_heaviest 4 = .ok (.iconst 0, 1) := by decide +kernel
theorem dX3_heaviest_5 : decode cX3_heaviest 5 = .ok (.istore_n 3, 1) := by decide +kernel
theorem dX3_heaviest_6 : decode cX3_heaviest 6 = .ok (.iload_n 3, 1) := by decide +kernel
theorem dX3_heaviest_7 : decode cX3_heaviest 7 = .ok (.aload_n 0, 1) := by decide +kernel
theorem dX3_heaviest_8 : decode cX3_heaviest 8 = .ok (.getfield 18, 3) := by decide +kernel
theorem dX3_heaviest_11 : decode cX3_heaviest 11 = .ok (.if_icmp .ge 44, 3) := by decide +kernel
theorem dX3_heaviest_14 : decode cX3_heaviest 14 = .ok (.aload_n 0, 1) := by decide +kernel
theorem dX3_heaviest_15 : decode cX3_heaviest 15 = .ok (.getfield 11, 3) := by decide +kernel
theorem dX3_heaviest_18 : decode cX3_heaviest 18 = .ok (.iload_n 3, 1) := by decide +kernel
theorem dX3_heaviest_19 : decode cX3_heaviest 19 = .ok (.aaload, 1) := by decide +kernel
theorem dX3_heaviest_20 : decode cX3_heaviest 20 = .ok (.getfield 69, 3) := by decide +kernel
theorem dX3_heaviest_23 : decode cX3_heaviest 23 = .ok (.aload_n 0, 1) := by decide +kernel
theorem dX3_heaviest_24 : decode cX3_heaviest 24 = .ok (.getfield 45, 3) := by decide +kernel
theorem dX3_heaviest_27 : decode cX3_heaviest 27 = .ok (.iaload, 1) := by decide +kernel
theorem dX3_heaviest_28 : decode cX3_heaviest 28 = .ok (.iload_n 2, 1) := by decide +kernel
theorem dX3_heaviest_29 : decode cX3_heaviest 29 = .ok (.if_icmp .le 20, 3) := by decide +kernel
theorem dX3_heaviest_32 : decode cX3_heaviest 32 = .ok (.iload_n 3, 1) := by decide +kernel
theorem dX3_heaviest_33 : decode cX3_heaviest 33 = .ok (.istore_n 1, 1) := by decide +kernel
theorem dX3_heaviest_34 : decode cX3_heaviest 34 = .ok (.aload_n 0, 1) := by decide +kernel
theorem dX3_heaviest_35 : decode cX3_heaviest 35 = .ok (.getfield 11, 3) := by decide +kernel
theorem dX3_heaviest_38 : decode cX3_heaviest 38 = .ok (.iload_n 3, 1) := by decide +kernel
theorem dX3_heaviest_39 : decode cX3_heaviest 39 = .ok (.aaload, 1) := by decide +kernel
theorem dX3_heaviest_40 : decode cX3_heaviest 40 = .ok (.getfield 69, 3) := by decide +kernel
theorem dX3_heaviest_43 : decode cX3_heaviest 43 = .ok (.aload_n 0, 1) := by decide +kernel
theorem dX3_heaviest_44 : decode cX3_heaviest 44 = .ok (.getfield 45, 3) := by decide +kernel
theorem dX3_heaviest_47 : decode cX3_heaviest 47 = .ok (.iaload, 1) := by decide +kernel
theorem dX3_heaviest_48 : decode cX3_heaviest 48 = .ok (.istore_n 2, 1) := by decide +kernel
theorem dX3_heaviest_49 : decode cX3_heaviest 49 = .ok (.iinc 3 1, 3) := by decide +kernel
theorem dX3_heaviest_52 : decode cX3_heaviest 52 = .ok (.goto (-46), 3) := by decide +kernel
theorem dX3_heaviest_55 : decode cX3_heaviest 55 = .ok (.iload_n 1, 1) := by decide +kernel
theorem dX3_heaviest_56 : decode cX3_heaviest 56 = .ok (.ireturn, 1) := by decide +kernel
set_option maxRecDepth 20000 in
theorem ggX4_init_X0_init : GoodIn wsX4_init wsX0_init := goodIn_r _ [20, 21, 2, 3, 22, 23, 24, 25, 26, 27, 28, 110, 111] (by decide +kernel) (by decide +kernel)
set_option maxRecDepth 20000 in
theorem gX4_init_X0_init : GoodIn wsX4_init (wsX0_init) := ggX4_init_X0_init
set_option maxRecDepth 20000 in
theorem ggX4_init_X3_init : GoodIn wsX4_init wsX3_init := goodIn_r _ [31, 32, 2, 3, 33, 34, 35, 36, 37, 26, 38, 39, 40, 41, 42, 43, 44, 45, 46, 47, 48, 49, 12, 50, 51, 52, 53, 54, 55, 56, 57, 58, 59, 60, 61, 62, 63, 64, 65, 66, 67, 68, 69, 70, 71, 72, 73, 74, 75, 76, 77, 78, 79, 80, 81, 82, 83, 84, 85, 86, 87, 88, 89, 90, 91, 92, 93, 94, 95, 24, 96, 117, 118, 119, 120, 121, 122, 123, 128, 129, 130, 131, 132, 133, 134, 135, 136, 137] (by decide +kernel) (by decide +kernel)
set_option maxRecDepth 20000 in
theorem gX4_init_X3_init : GoodIn wsX4_init (wsX3_init) := ggX4_init_X3_init
set_option maxRecDepth 20000 in
theorem ggX4_init_X1_init : GoodIn wsX4_init wsX1_init := goodIn_r _ [99, 100, 2, 3, 101, 102, 103, 16, 104, 105, 106, 107, 108, 109, 124, 125, 126, 127] (by decide +kernel) (by decide +kernel)
set_option maxRecDepth 20000 in
theorem gX4_init_X1_init : GoodIn wsX4_init (wsX1_init) := ggX4_init_X1_init
theorem dX4_init_0 : decode cX4_init 0 = .ok (.aload_n 0, 1) := by decide +kernel
theorem dX4_init_1 : decode cX4_init 1 = .ok (.invokespecial 3, 3) := by decide +kernel
theorem dX4_init_4 : decode cX4_init 4 = .ok (.aload_n 0, 1) := by decide +kernel
theorem dX4_init_5 : decode cX4_init 5 = .ok (.new 9, 3) := by decide +kernel
theorem dX4_init_8 : decode cX4_init 8 = .ok (.dup, 1) := by decide +kernel
theorem dX4_init_9 : decode cX4_init 9 = .ok (.bipush 80, 2) := by decide +kernel
theorem dX4_init_11 : decode cX4_init 11 = .ok (.invokespecial 11, 3) := by decide +kernel
theorem dX4_init_14 : decode cX4_init 14 = .ok (.putfield 14, 3) := by decide +kernel
theorem dX4_init_17 : decode cX4_init 17 = .ok (.aload_n 0, 1) := by decide +kernel
theorem dX4_init_18 : decode cX4_init 18 = .ok (.new 9, 3) := by decide +kernel
theorem dX4_init_21 : decode cX4_init 21 = .ok (.dup, 1) := by decide +kernel
theorem dX4_init_22 : decode cX4_init 22 = .ok (.sipush 2564, 3) := by decide +kernel
theorem dX4_init_25 : decode cX4_init 25 = .ok (.invokespecial 11, 3) := by decide +kernel
theorem dX4_init_28 : decode cX4_init 28 = .ok (.putfield 18, 3) := by decide +kernel
theorem dX4_init_31 : decode cX4_init 31 = .ok (.aload_n 0, 1) := by decide +kernel
theorem dX4_init_32 : decode cX4_init 32 = .ok (.new 9, 3) := by decide +kernel
theorem dX4_init_35 : decode cX4_init 35 = .ok (.dup, 1) := by decide +kernel
theorem dX4_init_36 : decode cX4_init 36 = .ok (.bipush 80, 2) := by decide +kernel
theorem dX4_init_38 : decode cX4_init 38 = .ok (.invokespecial 11, 3) := by decide +kernel
theorem dX4_init_41 : decode cX4_init 41 = .ok (.putfield 21, 3) := by decide +kernel
theorem dX4_init_44 : decode cX4_init 44 = .ok (.aload_n 0, 1) := by decide +kernel
theorem dX4_init_45 : decode cX4_init 45 = .ok (.new 24, 3) := by decide +kernel
theorem dX4_init_48 : decode cX4_init 48 = .ok (.dup, 1) := by decide +kernel
theorem dX4_init_49 : decode cX4_init 49 = .ok (.invokespecial 26, 3) := by decide +kernel
theorem dX4_init_52 : decode cX4_init 52 = .ok (.putfield 27, 3) := by decide +kernel
theorem dX4_init_55 : decode cX4_init 55 = .ok (.aload_n 0, 1) := by decide +kernel
theorem dX4_init_56 : decode cX4_init 56 = .ok (.new 31, 3) := by decide +kernel
theorem dX4_init_59 : decode cX4_init 59 = .ok (.dup, 1) := by decide +kernel
theorem dX4_init_60 : decode cX4_init 60 = .ok (.invokespecial 33, 3) := by decide +kernel
theorem dX4_init_63 : decode cX4_init 63 = .ok (.putfield 34, 3) := by decide +kernel
theorem dX4_init_66 : decode cX4_init 66 = .ok (.return_, 1) := by decide +kernel
set_option maxRecDepth 20000 in
theorem ggX4_addModel_X4_requireRate : GoodIn wsX4_addModel wsX4_requireRate := goodIn_ca (goodIn_r _ [10, 1, 2] (by decide +kernel) (by decide +kernel)) (goodIn_sub (fun _ h => List.mem_cons_of_mem _ (List.mem_append_left _ (List.mem_append_right _ h))) (by decide +kernel))
set_option maxRecDepth 20000 in
theorem gX4_addModel_X4_requireRate : GoodIn wsX4_addModel (va_wsS RX4 45 yX4_requireRate wsX4_requireRate) := goodIn_app (goodIn_of _ (by decide +kernel)) ggX4_addModel_X4_requireRate
set_option maxRecDepth 20000 in
theorem ggX4_addModel_X3_takeModel : GoodIn wsX4_addModel wsX3_takeModel := goodIn_r _ [15, 16, 17, 18, 19, 20, 21, 22, 23, 24, 25, 26, 27, 28, 14, 29, 30, 31, 32, 33, 34, 35, 36, 37, 38, 39, 40, 41, 42, 43, 44, 45, 46, 47, 48, 49, 50, 51, 52, 53, 54, 55, 56, 57, 58, 59, 60, 61, 62, 63, 64, 65, 66, 67, 68, 69, 70, 71, 72, 73, 74, 75, 76, 77, 78, 84, 85, 86, 87, 88, 89, 90, 91, 92, 93, 94, 95, 96, 97, 98, 99, 100] (by decide +kernel) (by decide +kernel)
set_option maxRecDepth 20000 in
theorem gX4_addModel_X3_takeModel : GoodIn wsX4_addModel (wsV RX4 59 RX3 yX3_takeModel wsX3_takeModel) := goodIn_app (goodIn_of _ (by decide +kernel)) ggX4_addModel_X3_takeModel
theorem dX4_addModel_0 : decode cX4_addModel 0 = .ok (.iload_n 1, 1) := by decide +kernel
theorem dX4_addModel_1 : decode cX4_addModel 1 = .ok (.ifCond .lt 8, 3) := by decide +kernel
theorem dX4_addModel_4 : decode cX4_addModel 4 = .ok (.iload_n 1, 1) := by decide +kernel
theorem dX4_addModel_5 : decode cX4_addModel 5 = .ok (.iconst 3, 1) := by decide +kernel
theorem dX4_addModel_6 : decode cX4_addModel 6 = .ok (.if_icmp .le 13, 3) := by decide +kernel
theorem dX4_addModel_9 : decode cX4_addModel 9 = .ok (.new 38, 3) := by decide +kernel
theorem dX4_addModel_12 : decode cX4_addModel 12 = .ok (.dup, 1) := by decide +kernel
theorem dX4_addModel_13 : decode cX4_addModel 13 = .ok (.ldc 40, 2) := by decide +kernel
theorem dX4_addModel_15 : decode cX4_addModel 15 = .ok (.invokespecial 42, 3) := by decide +kernel
theorem dX4_addModel_18 : decode cX4_addModel 18 = .ok (.athrow, 1) := by decide +kernel
theorem dX4_addModel_19 : decode cX4_addModel 19 = .ok (.iload_n 2, 1) := by decide +kernel
theorem dX4_addModel_20 : decode cX4_addModel 20 = .ok (.invokestatic 45, 3) := by decide +kernel
theorem dX4_addModel_23 : decode cX4_addModel 23 = .ok (.iload_n 3, 1) := by decide +kernel
theorem dX4_addModel_24 : decode cX4_addModel 24 = .ok (.iconst 4, 1) := by decide +kernel
theorem dX4_addModel_25 : decode cX4_addModel 25 = .ok (.if_icmp .lt 9, 3) := by decide +kernel
theorem dX4_addModel_28 : decode cX4_addModel 28 = .ok (.iload_n 3, 1) := by decide +kernel
theorem dX4_addModel_29 : decode cX4_addModel 29 = .ok (.bipush 9, 2) := by decide +kernel
theorem dX4_addModel_31 : decode cX4_addModel 31 = .ok (.if_icmp .le 13, 3) := by decide +kernel
theorem dX4_addModel_34 : decode cX4_addModel 34 = .ok (.new 38, 3) := by decide +kernel
theorem dX4_addModel_37 : decode cX4_addModel 37 = .ok (.dup, 1) := by decide +kernel
theorem dX4_addModel_38 : decode cX4_addModel 38 = .ok (.ldc 48, 2) := by decide +kernel
theorem dX4_addModel_40 : decode cX4_addModel 40 = .ok (.invokespecial 42, 3) := by decide +kernel
theorem dX4_addModel_43 : decode cX4_addModel 43 = .ok (.athrow, 1) := by decide +kernel
theorem dX4_addModel_44 : decode cX4_addModel 44 = .ok (.aload_n 0, 1) := by decide +kernel
theorem dX4_addModel_45 : decode cX4_addModel 45 = .ok (.getfield 27, 3) := by decide +kernel
theorem dX4_addModel_48 : decode cX4_addModel 48 = .ok (.getfield 50, 3) := by decide +kernel
theorem dX4_addModel_51 : decode cX4_addModel 51 = .ok (.bipush 6, 2) := by decide +kernel
theorem dX4_addModel_53 : decode cX4_addModel 53 = .ok (.if_icmp .lt 13, 3) := by decide +kernel
theorem dX4_addModel_56 : decode cX4_addModel 56 = .ok (.new 54, 3) := by decide +kernel
theorem dX4_addModel_59 : decode cX4_addModel 59 = .ok (.dup, 1) := by decide +kernel
theorem dX4_addModel_60 : decode cX4_addModel 60 = .ok (.ldc 56, 2) := by decide +kernel
theorem dX4_addModel_62 : decode cX4_addModel 62 = .ok (.invokespecial 58, 3) := by decide +kernel
theorem dX4_addModel_65 : decode cX4_addModel 65 = .ok (.athrow, 1) := by decide +kernel
theorem dX4_addModel_66 : decode cX4_addModel 66 = .ok (.aload_n 0, 1) := by decide +kernel
theorem dX4_addModel_67 : decode cX4_addModel 67 = .ok (.getfield 27, 3) := by decide +kernel
theorem dX4_addModel_70 : decode cX4_addModel 70 = .ok (.iload_n 1, 1) := by decide +kernel
theorem dX4_addModel_71 : decode cX4_addModel 71 = .ok (.iload_n 2, 1) := by decide +kernel
theorem dX4_addModel_72 : decode cX4_addModel 72 = .ok (.iload_n 3, 1) := by decide +kernel
theorem dX4_addModel_73 : decode cX4_addModel 73 = .ok (.invokevirtual 59, 3) := by decide +kernel
theorem dX4_addModel_76 : decode cX4_addModel 76 = .ok (.aload_n 0, 1) := by decide +kernel
theorem dX4_addModel_77 : decode cX4_addModel 77 = .ok (.getfield 27, 3) := by decide +kernel
theorem dX4_addModel_80 : decode cX4_addModel 80 = .ok (.getfield 50, 3) := by decide +kernel
theorem dX4_addModel_83 : decode cX4_addModel 83 = .ok (.iconst 1, 1) := by decide +kernel
theorem dX4_addModel_84 : decode cX4_addModel 84 = .ok (.isub, 1) := by decide +kernel
theorem dX4_addModel_85 : decode cX4_addModel 85 = .ok (.ireturn, 1) := by decide +kernel
set_option maxRecDepth 20000 in
theorem ggX4_removeModel_X3_dropModel : GoodIn wsX4_removeModel wsX3_dropModel := goodIn_r _ [9, 10, 11, 12, 13, 8, 14, 15, 16, 17, 18, 19, 20, 21, 22, 23, 24, 25, 26, 27, 28, 29, 30, 31, 32, 33, 34, 35, 36, 37, 38, 39, 40, 41, 42, 43, 44, 45, 46, 47, 48, 49, 50, 51, 52, 53, 54, 55, 56, 57, 58, 59, 60, 61, 62, 63, 64, 65, 66, 67, 73, 74, 75, 76, 77, 78, 79, 80, 81, 82, 83, 84, 85, 86, 87, 88, 89] (by decide +kernel) (by decide +kernel)
set_option maxRecDepth 20000 in
theorem gX4_removeModel_X3_dropModel : GoodIn wsX4_removeModel (wsV RX4 65 RX3 yX3_dropModel wsX3_dropModel) := goodIn_app (goodIn_of _ (by decide +kernel)) ggX4_removeModel_X3_dropModel
theorem dX4_removeModel_0 : decode cX4_removeModel 0 = .ok (.aload_n 0, 1) := by decide +kernel
theorem dX4_removeModel_1 : decode cX4_removeModel 1 = .ok (.getfield 27, 3) := by decide +kernel
theorem dX4_removeModel_4 : decode cX4_removeModel 4 = .ok (.getfield 50, 3) := by decide +kernel
theorem dX4_removeModel_7 : decode cX4_removeModel 7 = .ok (.ifCond .gt 13, 3) := by decide +kernel
theorem dX4_removeModel_10 : decode cX4_removeModel 10 = .ok (.new 54, 3) := by decide +kernel
theorem dX4_removeModel_13 : decode cX4_removeModel 13 = .ok (.dup, 1) := by decide +kernel
theorem dX4_removeModel_14 : decode cX4_removeModel 14 = .ok (.ldc 63, 2) := by decide +kernel
theorem dX4_removeModel_16 : decode cX4_removeModel 16 = .ok (.invokespecial 58, 3) := by decide +kernel
theorem dX4_removeModel_19 : decode cX4_removeModel 19 = .ok (.athrow, 1) := by decide +kernel
theorem dX4_removeModel_20 : decode cX4_removeModel 20 = .ok (.aload_n 0, 1) := by decide +kernel
theorem dX4_removeModel_21 : decode cX4_removeModel 21 = .ok (.getfield 27, 3) := by decide +kernel
theorem dX4_removeModel_24 : decode cX4_removeModel 24 = .ok (.invokevirtual 65, 3) := by decide +kernel
theorem dX4_removeModel_27 : decode cX4_removeModel 27 = .ok (.aload_n 0, 1) := by decide +kernel
theorem dX4_removeModel_28 : decode cX4_removeModel 28 = .ok (.getfield 27, 3) := by decide +kernel
theorem dX4_removeModel_31 : decode cX4_removeModel 31 = .ok (.getfield 50, 3) := by decide +kernel
theorem dX4_removeModel_34 : decode cX4_removeModel 34 = .ok (.ireturn, 1) := by decide +kernel
set_option maxRecDepth 20000 in
theorem ggX4_setRate_X4_requireModel : GoodIn wsX4_setRate wsX4_requireModel := goodIn_ca (goodIn_r _ [7, 8, 9, 2, 10, 11, 86, 87, 88, 89, 90, 91, 92, 93, 94, 95, 96, 97] (by decide +kernel) (by decide +kernel)) (goodIn_sub (fun _ h => List.mem_cons_of_mem _ (List.mem_append_left _ (List.mem_append_right _ h))) (by decide +kernel))
set_option maxRecDepth 20000 in
theorem gX4_setRate_X4_requireModel : GoodIn wsX4_setRate (wsV RX4 68 RX4 yX4_requireModel wsX4_requireModel) := goodIn_app (goodIn_of _ (by decide +kernel)) ggX4_setRate_X4_requireModel
set_option maxRecDepth 20000 in
theorem ggX4_setRate_X4_requireRate : GoodIn wsX4_setRate wsX4_requireRate := goodIn_ca (goodIn_r _ [14, 15, 16] (by decide +kernel) (by decide +kernel)) (goodIn_sub (fun _ h => List.mem_cons_of_mem _ (List.mem_append_right _ h)) (by decide +kernel))
set_option maxRecDepth 20000 in
theorem gX4_setRate_X4_requireRate : GoodIn wsX4_setRate (va_wsS RX4 45 yX4_requireRate wsX4_requireRate) := goodIn_app (goodIn_of _ (by decide +kernel)) ggX4_setRate_X4_requireRate
set_option maxRecDepth 20000 in
theorem ggX4_setRate_X3_restart : GoodIn wsX4_setRate wsX3_restart := goodIn_r _ [21, 22, 23, 24, 25, 26, 27, 28, 29, 30, 31, 32, 33, 34, 35, 36, 37, 38, 39, 40, 41, 42, 43, 44, 45, 46, 47, 48, 20, 49, 50, 51, 52, 53, 54, 55, 56, 57, 58, 59, 60, 61, 62, 63, 64, 65, 66, 67, 68, 69, 70, 71, 72, 73, 74, 75, 91, 92, 93, 94, 95, 96, 97, 76, 77, 78, 79, 80, 81, 82, 83, 84, 85] (by decide +kernel) (by decide +kernel)
set_option maxRecDepth 20000 in
theorem gX4_setRate_X3_restart : GoodIn wsX4_setRate (wsV RX4 77 RX3 yX3_restart wsX3_restart) := goodIn_app (goodIn_of _ (by decide +kernel)) ggX4_setRate_X3_restart
theorem dX4_setRate_0 : decode cX4_setRate 0 = .ok (.aload_n 0, 1) := by decide +kernel
theorem dX4_setRate_1 : decode cX4_setRate 1 = .ok (.iload_n 1, 1) := by decide +kernel
theorem dX4_setRate_2 : decode cX4_setRate 2 = .ok (.invokevirtual 68, 3) := by decide +kernel
theorem dX4_setRate_5 : decode cX4_setRate 5 = .ok (.astore_n 3, 1) := by decide +kernel
theorem dX4_setRate_6 : decode cX4_setRate 6 = .ok (.iload_n 2, 1) := by decide +kernel
theorem dX4_setRate_7 : decode cX4_setRate 7 = .ok (.invokestatic 45, 3) := by decide +kernel
theorem dX4_setRate_10 : decode cX4_setRate 10 = .ok (.aload_n 3, 1) := by decide +kernel
theorem dX4_setRate_11 : decode cX4_setRate 11 = .ok (.getfield 72, 3) := by decide +kernel
theorem dX4_setRate_14 : decode cX4_setRate 14 = .ok (.istore 4, 2) := by decide +kernel
theorem dX4_setRate_16 : decode cX4_setRate 16 = .ok (.aload_n 3, 1) := by decide +kernel
theorem dX4_setRate_17 : decode cX4_setRate 17 = .ok (.iload_n 2, 1) := by decide +kernel
theorem dX4_setRate_18 : decode cX4_setRate 18 = .ok (.putfield 72, 3) := by decide +kernel
theorem dX4_setRate_21 : decode cX4_setRate 21 = .ok (.aload_n 0, 1) := by decide +kernel
theorem dX4_setRate_22 : decode cX4_setRate 22 = .ok (.getfield 27, 3) := by decide +kernel
theorem dX4_setRate_25 : decode cX4_setRate 25 = .ok (.invokevirtual 77, 3) := by decide +kernel
theorem dX4_setRate_28 : decode cX4_setRate 28 = .ok (.iload 4, 2) := by decide +kernel
theorem dX4_setRate_30 : decode cX4_setRate 30 = .ok (.ireturn, 1) := by decide +kernel
theorem dX4_modelCount_0 : decode cX4_modelCount 0 = .ok (.aload_n 0, 1) := by decide +kernel
theorem dX4_modelCount_1 : decode cX4_modelCount 1 = .ok (.getfield 27, 3) := by decide +kernel
theorem dX4_modelCount_4 : decode cX4_modelCount 4 = .ok (.getfield 50, 3) := by decide +kernel
theorem dX4_modelCount_7 : decode cX4_modelCount 7 = .ok (.ireturn, 1) := by decide +kernel
set_option maxRecDepth 20000 in
theorem ggX4_feed_X4_requireRoom : GoodIn wsX4_feed wsX4_requireRoom := goodIn_ca (goodIn_r _ [9, 10, 11, 3, 4, 19, 20, 21, 22, 23, 24, 25] (by decide +kernel) (by decide +kernel)) (goodIn_sub (fun _ h => List.mem_cons_of_mem _ (List.mem_append_right _ h)) (by decide +kernel))
set_option maxRecDepth 20000 in
theorem gX4_feed_X4_requireRoom : GoodIn wsX4_feed (wsV RX4 82 RX4 yX4_requireRoom wsX4_requireRoom) := goodIn_app (goodIn_of _ (by decide +kernel)) ggX4_feed_X4_requireRoom
set_option maxRecDepth 20000 in
theorem ggX4_feed_X0_append : GoodIn wsX4_feed wsX0_append := goodIn_r _ [16, 17, 18, 24, 25] (by decide +kernel) (by decide +kernel)
set_option maxRecDepth 20000 in
theorem gX4_feed_X0_append : GoodIn wsX4_feed (wsV RX4 85 RX0 yX0_append wsX0_append) := goodIn_app (goodIn_of _ (by decide +kernel)) ggX4_feed_X0_append
theorem dX4_feed_0 : decode cX4_feed 0 = .ok (.iload_n 3, 1) := by decide +kernel
theorem dX4_feed_1 : decode cX4_feed 1 = .ok (.iconst 1, 1) := by decide +kernel
theorem dX4_feed_2 : decode cX4_feed 2 = .ok (.if_icmp .lt 9, 3) := by decide +kernel
theorem dX4_feed_5 : decode cX4_feed 5 = .ok (.iload_n 3, 1) := by decide +kernel
theorem dX4_feed_6 : decode cX4_feed 6 = .ok (.bipush 8, 2) := by decide +kernel
theorem dX4_feed_8 : decode cX4_feed 8 = .ok (.if_icmp .le 13, 3) := by decide +kernel
theorem dX4_feed_11 : decode cX4_feed 11 = .ok (.new 38, 3) := by decide +kernel
theorem dX4_feed_14 : decode cX4_feed 14 = .ok (.dup, 1) := by decide +kernel
theorem dX4_feed_15 : decode cX4_feed 15 = .ok (.ldc 80, 2) := by decide +kernel
theorem dX4_feed_17 : decode cX4_feed 17 = .ok (.invokespecial 42, 3) := by decide +kernel
theorem dX4_feed_20 : decode cX4_feed 20 = .ok (.athrow, 1) := by decide +kernel
theorem dX4_feed_21 : decode cX4_feed 21 = .ok (.aload_n 0, 1) := by decide +kernel
theorem dX4_feed_22 : decode cX4_feed 22 = .ok (.iload_n 3, 1) := by decide +kernel
theorem dX4_feed_23 : decode cX4_feed 23 = .ok (.invokevirtual 82, 3) := by decide +kernel
theorem dX4_feed_26 : decode cX4_feed 26 = .ok (.iload_n 3, 1) := by decide +kernel
theorem dX4_feed_27 : decode cX4_feed 27 = .ok (.iconst 1, 1) := by decide +kernel
theorem dX4_feed_28 : decode cX4_feed 28 = .ok (.isub, 1) := by decide +kernel
theorem dX4_feed_29 : decode cX4_feed 29 = .ok (.istore 4, 2) := by decide +kernel
theorem dX4_feed_31 : decode cX4_feed 31 = .ok (.iload 4, 2) := by decide +kernel
theorem dX4_feed_33 : decode cX4_feed 33 = .ok (.ifCond .lt 28, 3) := by decide +kernel
theorem dX4_feed_36 : decode cX4_feed 36 = .ok (.aload_n 0, 1) := by decide +kernel
theorem dX4_feed_37 : decode cX4_feed 37 = .ok (.getfield 14, 3) := by decide +kernel
theorem dX4_feed_40 : decode cX4_feed 40 = .ok (.lload_n 1, 1) := by decide +kernel
theorem dX4_feed_41 : decode cX4_feed 41 = .ok (.bipush 8, 2) := by decide +kernel
theorem dX4_feed_43 : decode cX4_feed 43 = .ok (.iload 4, 2) := by decide +kernel
theorem dX4_feed_45 : decode cX4_feed 45 = .ok (.imul, 1) := by decide +kernel
theorem dX4_feed_46 : decode cX4_feed 46 = .ok (.lushr, 1) := by decide +kernel
theorem dX4_feed_47 : decode cX4_feed 47 = .ok (.l2i, 1) := by decide +kernel
theorem dX4_feed_48 : decode cX4_feed 48 = .ok (.sipush 255, 3) := by decide +kernel
theorem dX4_feed_51 : decode cX4_feed 51 = .ok (.iand, 1) := by decide +kernel
theorem dX4_feed_52 : decode cX4_feed 52 = .ok (.invokevirtual 85, 3) := by decide +kernel
theorem dX4_feed_55 : decode cX4_feed 55 = .ok (.iinc 4 (-1), 3) := by decide +kernel
theorem dX4_feed_58 : decode cX4_feed 58 = .ok (.goto (-27), 3) := by decide +kernel
theorem dX4_feed_61 : decode cX4_feed 61 = .ok (.aload_n 0, 1) := by decide +kernel
theorem dX4_feed_62 : decode cX4_feed 62 = .ok (.getfield 14, 3) := by decide +kernel
theorem dX4_feed_65 : decode cX4_feed 65 = .ok (.getfield 88, 3) := by decide +kernel
theorem dX4_feed_68 : decode cX4_feed 68 = .ok (.ireturn, 1) := by decide +kernel
set_option maxRecDepth 20000 in
theorem ggX4_fill_X4_requireByte : GoodIn wsX4_fill wsX4_requireByte := goodIn_ca (goodIn_r _ [8, 1, 2] (by decide +kernel) (by decide +kernel)) (goodIn_sub (fun _ h => List.mem_cons_of_mem _ (List.mem_append_left _ (List.mem_append_right _ h))) (by decide +kernel))
set_option maxRecDepth 20000 in
theorem gX4_fill_X4_requireByte : GoodIn wsX4_fill (va_wsS RX4 91 yX4_requireByte wsX4_requireByte) := goodIn_app (goodIn_of _ (by decide +kernel)) ggX4_fill_X4_requireByte
set_option maxRecDepth 20000 in
theorem ggX4_fill_X4_requireRoom : GoodIn wsX4_fill wsX4_requireRoom := goodIn_ca (goodIn_r _ [12, 13, 14, 3, 4, 22, 23, 24, 25, 26, 27, 28] (by decide +kernel) (by decide +kernel)) (goodIn_sub (fun _ h => List.mem_cons_of_mem _ (List.mem_append_right _ h)) (by decide +kernel))
set_option maxRecDepth 20000 in
theorem gX4_fill_X4_requireRoom : GoodIn wsX4_fill (wsV RX4 82 RX4 yX4_requireRoom wsX4_requireRoom) := goodIn_app (goodIn_of _ (by decide +kernel)) ggX4_fill_X4_requireRoom
set_option maxRecDepth 20000 in
theorem ggX4_fill_X0_append : GoodIn wsX4_fill wsX0_append := goodIn_r _ [19, 20, 21, 27, 28] (by decide +kernel) (by decide +kernel)
set_option maxRecDepth 20000 in
theorem gX4_fill_X0_append : GoodIn wsX4_fill (wsV RX4 85 RX0 yX0_append wsX0_append) := goodIn_app (goodIn_of _ (by decide +kernel)) ggX4_fill_X0_append
theorem dX4_fill_0 : decode cX4_fill 0 = .ok (.iload_n 1, 1) := by decide +kernel
theorem dX4_fill_1 : decode cX4_fill 1 = .ok (.invokestatic 91, 3) := by decide +kernel
theorem dX4_fill_4 : decode cX4_fill 4 = .ok (.iload_n 2, 1) := by decide +kernel
theorem dX4_fill_5 : decode cX4_fill 5 = .ok (.iconst 1, 1) := by decide +kernel
theorem dX4_fill_6 : decode cX4_fill 6 = .ok (.if_icmp .lt 9, 3) := by decide +kernel
theorem dX4_fill_9 : decode cX4_fill 9 = .ok (.iload_n 2, 1) := by decide +kernel
theorem dX4_fill_10 : decode cX4_fill 10 = .ok (.bipush 80, 2) := by decide +kernel
theorem dX4_fill_12 : decode cX4_fill 12 = .ok (.if_icmp .le 13, 3) := by decide +kernel
theorem dX4_fill_15 : decode cX4_fill 15 = .ok (.new 38, 3) := by decide +kernel
theorem dX4_fill_18 : decode cX4_fill 18 = .ok (.dup, 1) := by decide +kernel
theorem dX4_fill_19 : decode cX4_fill 19 = .ok (.ldc 94, 2) := by decide +kernel
theorem dX4_fill_21 : decode cX4_fill 21 = .ok (.invokespecial 42, 3) := by decide +kernel
theorem dX4_fill_24 : decode cX4_fill 24 = .ok (.athrow, 1) := by decide +kernel
theorem dX4_fill_25 : decode cX4_fill 25 = .ok (.aload_n 0, 1) := by decide +kernel
theorem dX4_fill_26 : decode cX4_fill 26 = .ok (.iload_n 2, 1) := by decide +kernel
theorem dX4_fill_27 : decode cX4_fill 27 = .ok (.invokevirtual 82, 3) := by decide +kernel
theorem dX4_fill_30 : decode cX4_fill 30 = .ok (.iconst 0, 1) := by decide +kernel
theorem dX4_fill_31 : decode cX4_fill 31 = .ok (.istore_n 3, 1) := by decide +kernel
theorem dX4_fill_32 : decode cX4_fill 32 = .ok (.iload_n 3, 1) := by decide +kernel
theorem dX4_fill_33 : decode cX4_fill 33 = .ok (.iload_n 2, 1) := by decide +kernel
theorem dX4_fill_34 : decode cX4_fill 34 = .ok (.if_icmp .ge 17, 3) := by decide +kernel
theorem dX4_fill_37 : decode cX4_fill 37 = .ok (.aload_n 0, 1) := by decide +kernel
theorem dX4_fill_38 : decode cX4_fill 38 = .ok (.getfield 14, 3) := by decide +kernel
theorem dX4_fill_41 : decode cX4_fill 41 = .ok (.iload_n 1, 1) := by decide +kernel
theorem dX4_fill_42 : decode cX4_fill 42 = .ok (.invokevirtual 85, 3) := by decide +kernel
theorem dX4_fill_45 : decode cX4_fill 45 = .ok (.iinc 3 1, 3) := by decide +kernel
theorem dX4_fill_48 : decode cX4_fill 48 = .ok (.goto (-16), 3) := by decide +kernel
theorem dX4_fill_51 : decode cX4_fill 51 = .ok (.aload_n 0, 1) := by decide +kernel
theorem dX4_fill_52 : decode cX4_fill 52 = .ok (.getfield 14, 3) := by decide +kernel
theorem dX4_fill_55 : decode cX4_fill 55 = .ok (.getfield 88, 3) := by decide +kernel
theorem dX4_fill_58 : decode cX4_fill 58 = .ok (.ireturn, 1) := by decide +kernel
set_option maxRecDepth 20000 in
theorem ggX4_cut_X4_shorten : GoodIn wsX4_cut wsX4_shorten := goodIn_ca (goodIn_r _ [5, 6, 7, 8, 14, 15] (by decide +kernel) (by decide +kernel)) (goodIn_sub (fun _ h => List.mem_cons_of_mem _ (List.mem_append_right _ h)) (by decide +kernel))
set_option maxRecDepth 20000 in
theorem gX4_cut_X4_shorten : GoodIn wsX4_cut (va_wsS RX4 96 yX4_shorten wsX4_shorten) := goodIn_app (goodIn_of _ (by decide +kernel)) ggX4_cut_X4_shorten
theorem dX4_cut_0 : decode cX4_cut 0 = .ok (.aload_n 0, 1) := by decide +kernel
theorem dX4_cut_1 : decode cX4_cut 1 = .ok (.getfield 14, 3) := by decide +kernel
theorem dX4_cut_4 : decode cX4_cut 4 = .ok (.iload_n 1, 1) := by decide +kernel
theorem dX4_cut_5 : decode cX4_cut 5 = .ok (.invokestatic 96, 3) := by decide +kernel
theorem dX4_cut_8 : decode cX4_cut 8 = .ok (.ireturn, 1) := by decide +kernel
theorem dX4_size_0 : decode cX4_size 0 = .ok (.aload_n 0, 1) := by decide +kernel
theorem dX4_size_1 : decode cX4_size 1 = .ok (.getfield 14, 3) := by decide +kernel
theorem dX4_size_4 : decode cX4_size 4 = .ok (.getfield 88, 3) := by decide +kernel
theorem dX4_size_7 : decode cX4_size 7 = .ok (.ireturn, 1) := by decide +kernel
set_option maxRecDepth 20000 in
theorem ggX4_byteAt_X4_requirePlace : GoodIn wsX4_byteAt wsX4_requirePlace := goodIn_ca (goodIn_r _ [5, 6, 7, 8, 9, 10, 11, 12, 13, 14, 15, 16, 17, 18, 19, 25, 26] (by decide +kernel) (by decide +kernel)) (goodIn_sub (fun _ h => List.mem_cons_of_mem _ (List.mem_append_right _ h)) (by decide +kernel))
set_option maxRecDepth 20000 in
theorem gX4_byteAt_X4_requirePlace : GoodIn wsX4_byteAt (va_wsS RX4 100 yX4_requirePlace wsX4_requirePlace) := goodIn_app (goodIn_of _ (by decide +kernel)) ggX4_byteAt_X4_requirePlace
theorem dX4_byteAt_0 : decode cX4_byteAt 0 = .ok (.aload_n 0, 1) := by decide +kernel
theorem dX4_byteAt_1 : decode cX4_byteAt 1 = .ok (.getfield 14, 3) := by decide +kernel
theorem dX4_byteAt_4 : decode cX4_byteAt 4 = .ok (.iload_n 1, 1) := by decide +kernel
theorem dX4_byteAt_5 : decode cX4_byteAt 5 = .ok (.invokestatic 100, 3) := by decide +kernel
theorem dX4_byteAt_8 : decode cX4_byteAt 8 = .ok (.ireturn, 1) := by decide +kernel
set_option maxRecDepth 20000 in
theorem ggX4_reset_X3_restart : GoodIn wsX4_reset wsX3_restart := goodIn_r _ [7, 8, 9, 10, 11, 12, 13, 14, 15, 16, 17, 18, 19, 20, 21, 22, 23, 24, 25, 26, 27, 28, 29, 30, 31, 32, 33, 34, 6, 35, 36, 37, 38, 39, 40, 41, 42, 43, 44, 45, 46, 47, 48, 49, 50, 51, 52, 53, 54, 55, 56, 57, 58, 59, 60, 61, 67, 68, 69, 70, 71, 72, 73, 74, 75, 76, 77, 78, 79, 80, 81, 82, 83] (by decide +kernel) (by decide +kernel)
set_option maxRecDepth 20000 in
theorem gX4_reset_X3_restart : GoodIn wsX4_reset (wsV RX4 77 RX3 yX3_restart wsX3_restart) := goodIn_app (goodIn_of _ (by decide +kernel)) ggX4_reset_X3_restart
theorem dX4_reset_0 : decode cX4_reset 0 = .ok (.aload_n 0, 1) := by decide +kernel
theorem dX4_reset_1 : decode cX4_reset 1 = .ok (.getfield 27, 3) := by decide +kernel
theorem dX4_reset_4 : decode cX4_reset 4 = .ok (.getfield 103, 3) := by decide +kernel
theorem dX4_reset_7 : decode cX4_reset 7 = .ok (.istore_n 1, 1) := by decide +kernel
theorem dX4_reset_8 : decode cX4_reset 8 = .ok (.aload_n 0, 1) := by decide +kernel
theorem dX4_reset_9 : decode cX4_reset 9 = .ok (.getfield 27, 3) := by decide +kernel
theorem dX4_reset_12 : decode cX4_reset 12 = .ok (.invokevirtual 77, 3) := by decide +kernel
theorem dX4_reset_15 : decode cX4_reset 15 = .ok (.iload_n 1, 1) := by decide +kernel
theorem dX4_reset_16 : decode cX4_reset 16 = .ok (.ireturn, 1) := by decide +kernel
set_option maxRecDepth 20000 in
theorem ggX4_observe_X3_mixture : GoodIn wsX4_observe wsX3_mixture := goodIn_r _ [6, 7, 8, 9, 10, 11, 12, 13, 14, 15, 16, 17, 18, 19, 20, 21, 22, 23, 24, 87, 88, 89, 90, 91, 92, 93, 94, 95, 96, 97, 98, 99, 100, 101, 102, 103] (by decide +kernel) (by decide +kernel)
set_option maxRecDepth 20000 in
theorem gX4_observe_X3_mixture : GoodIn wsX4_observe (wsV RX4 106 RX3 yX3_mixture wsX3_mixture) := goodIn_app (goodIn_of _ (by decide +kernel)) ggX4_observe_X3_mixture
set_option maxRecDepth 20000 in
theorem ggX4_observe_X3_learn : GoodIn wsX4_observe wsX3_learn := goodIn_r _ [28, 29, 7, 8, 10, 30, 31, 32, 33, 34, 35, 36, 21, 37, 38, 39, 40, 12, 13, 14, 41, 16, 17, 42, 19, 20, 22, 23, 24, 43, 44, 45, 46, 47, 48, 49, 50, 51, 52, 53, 5, 54, 55, 56, 57, 58, 59, 60, 61, 62, 63, 64, 65, 66, 67, 68, 69, 70, 71, 72, 73, 74, 75, 76, 77, 78, 79, 80, 87, 88, 89, 90, 91, 92, 93, 94, 95, 96, 97, 98, 99, 100, 101, 102, 103] (by decide +kernel) (by decide +kernel)
set_option maxRecDepth 20000 in
theorem gX4_observe_X3_learn : GoodIn wsX4_observe (wsV RX4 110 RX3 yX3_learn wsX3_learn) := goodIn_app (goodIn_of _ (by decide +kernel)) ggX4_observe_X3_learn
set_option maxRecDepth 20000 in
theorem ggX4_observe_X4_quality : GoodIn wsX4_observe wsX4_quality := goodIn_r _ [33] (by decide +kernel) (by decide +kernel)
set_option maxRecDepth 20000 in
theorem gX4_observe_X4_quality : GoodIn wsX4_observe (va_wsS RX4 114 yX4_quality wsX4_quality) := goodIn_app (goodIn_of _ (by decide +kernel)) ggX4_observe_X4_quality
theorem dX4_observe_0 : decode cX4_observe 0 = .ok (.aload_n 0, 1) := by decide +kernel
theorem dX4_observe_1 : decode cX4_observe 1 = .ok (.getfield 27, 3) := by decide +kernel
theorem dX4_observe_4 : decode cX4_observe 4 = .ok (.invokevirtual 106, 3) := by decide +kernel
theorem dX4_observe_7 : decode cX4_observe 7 = .ok (.istore_n 2, 1) := by decide +kernel
theorem dX4_observe_8 : decode cX4_observe 8 = .ok (.aload_n 0, 1) := by decide +kernel
theorem dX4_observe_9 : decode cX4_observe 9 = .ok (.getfield 27, 3) := by decide +kernel
theorem dX4_observe_12 : decode cX4_observe 12 = .ok (.iload_n 1, 1) := by decide +kernel
theorem dX4_observe_13 : decode cX4_observe 13 = .ok (.iload_n 2, 1) := by decide +kernel
theorem dX4_observe_14 : decode cX4_observe 14 = .ok (.invokevirtual 110, 3) := by decide +kernel
theorem dX4_observe_17 : decode cX4_observe 17 = .ok (.iload_n 2, 1) := by decide +kernel
theorem dX4_observe_18 : decode cX4_observe 18 = .ok (.iload_n 1, 1) := by decide +kernel
theorem dX4_observe_19 : decode cX4_observe 19 = .ok (.invokestatic 114, 3) := by decide +kernel
theorem dX4_observe_22 : decode cX4_observe 22 = .ok (.ireturn, 1) := by decide +kernel
set_option maxRecDepth 20000 in
theorem ggX4_mixed_X3_mixture : GoodIn wsX4_mixed wsX3_mixture := goodIn_r _ [6, 7, 8, 9, 10, 11, 12, 13, 14, 15, 16, 17, 18, 19, 20, 21, 22, 23, 24, 30, 31, 32, 33, 34, 35, 36, 37, 38, 39, 40, 41, 42, 43, 44, 45, 46] (by decide +kernel) (by decide +kernel)
set_option maxRecDepth 20000 in
theorem gX4_mixed_X3_mixture : GoodIn wsX4_mixed (wsV RX4 106 RX3 yX3_mixture wsX3_mixture) := goodIn_app (goodIn_of _ (by decide +kernel)) ggX4_mixed_X3_mixture
theorem dX4_mixed_0 : decode cX4_mixed 0 = .ok (.aload_n 0, 1) := by decide +kernel
theorem dX4_mixed_1 : decode cX4_mixed 1 = .ok (.getfield 27, 3) := by decide +kernel
theorem dX4_mixed_4 : decode cX4_mixed 4 = .ok (.invokevirtual 106, 3) := by decide +kernel
theorem dX4_mixed_7 : decode cX4_mixed 7 = .ok (.ireturn, 1) := by decide +kernel
set_option maxRecDepth 20000 in
theorem ggX4_prediction_X4_requireModel : GoodIn wsX4_prediction wsX4_requireModel := goodIn_ca (goodIn_r _ [5, 6, 7, 8, 9, 10, 18, 19, 20, 21, 22, 23, 24, 25, 26, 27, 28, 29] (by decide +kernel) (by decide +kernel)) (goodIn_sub (fun _ h => List.mem_cons_of_mem _ (List.mem_append_right _ h)) (by decide +kernel))
set_option maxRecDepth 20000 in
theorem gX4_prediction_X4_requireModel : GoodIn wsX4_prediction (wsV RX4 68 RX4 yX4_requireModel wsX4_requireModel) := goodIn_app (goodIn_of _ (by decide +kernel)) ggX4_prediction_X4_requireModel
set_option maxRecDepth 20000 in
theorem ggX4_prediction_X2_guess : GoodIn wsX4_prediction wsX2_guess := goodIn_r _ [15, 16, 17, 30, 31, 32, 33, 34, 35, 36, 37, 38, 39] (by decide +kernel) (by decide +kernel)
set_option maxRecDepth 20000 in
theorem gX4_prediction_X2_guess : GoodIn wsX4_prediction (wsV RX4 118 RX2 yX2_guess wsX2_guess) := goodIn_app (goodIn_of _ (by decide +kernel)) ggX4_prediction_X2_guess
theorem dX4_prediction_0 : decode cX4_prediction 0 = .ok (.aload_n 0, 1) := by decide +kernel
theorem dX4_prediction_1 : decode cX4_prediction 1 = .ok (.iload_n 1, 1) := by decide +kernel
theorem dX4_prediction_2 : decode cX4_prediction 2 = .ok (.invokevirtual 68, 3) := by decide +kernel
theorem dX4_prediction_5 : decode cX4_prediction 5 = .ok (.invokevirtual 118, 3) := by decide +kernel
theorem dX4_prediction_8 : decode cX4_prediction 8 = .ok (.ireturn, 1) := by decide +kernel
set_option maxRecDepth 20000 in
theorem ggX4_index_X4_requireModel : GoodIn wsX4_index wsX4_requireModel := goodIn_ca (goodIn_r _ [6, 7, 8, 9, 10, 11, 22, 23, 24, 25, 26, 27, 28, 29, 30, 31, 32, 33] (by decide +kernel) (by decide +kernel)) (goodIn_sub (fun _ h => List.mem_cons_of_mem _ (List.mem_append_right _ h)) (by decide +kernel))
set_option maxRecDepth 20000 in
theorem gX4_index_X4_requireModel : GoodIn wsX4_index (wsV RX4 68 RX4 yX4_requireModel wsX4_requireModel) := goodIn_app (goodIn_of _ (by decide +kernel)) ggX4_index_X4_requireModel
theorem dX4_index_0 : decode cX4_index 0 = .ok (.aload_n 0, 1) := by decide +kernel
theorem dX4_index_1 : decode cX4_index 1 = .ok (.iload_n 1, 1) := by decide +kernel
theorem dX4_index_2 : decode cX4_index 2 = .ok (.invokevirtual 68, 3) := by decide +kernel
theorem dX4_index_5 : decode cX4_index 5 = .ok (.getfield 121, 3) := by decide +kernel
theorem dX4_index_8 : decode cX4_index 8 = .ok (.ireturn, 1) := by decide +kernel
set_option maxRecDepth 20000 in
theorem ggX4_counter_X4_requireModel : GoodIn wsX4_counter wsX4_requireModel := goodIn_ca (goodIn_r _ [8, 1, 2, 9, 10, 11, 32, 33, 34, 35, 36, 37, 38, 39, 40, 41, 42, 43] (by decide +kernel) (by decide +kernel)) (goodIn_sub (fun _ h => List.mem_cons_of_mem _ (List.mem_append_right _ h)) (by decide +kernel))
set_option maxRecDepth 20000 in
theorem gX4_counter_X4_requireModel : GoodIn wsX4_counter (wsV RX4 68 RX4 yX4_requireModel wsX4_requireModel) := goodIn_app (goodIn_of _ (by decide +kernel)) ggX4_counter_X4_requireModel
set_option maxRecDepth 20000 in
theorem ggX4_counter_X2_tableSize : GoodIn wsX4_counter wsX2_tableSize := goodIn_r _ [16, 17, 18, 19, 20, 21, 22, 23, 24, 25, 26, 27, 28, 29, 30, 31] (by decide +kernel) (by decide +kernel)
set_option maxRecDepth 20000 in
theorem gX4_counter_X2_tableSize : GoodIn wsX4_counter (wsV RX4 124 RX2 yX2_tableSize wsX2_tableSize) := goodIn_app (goodIn_of _ (by decide +kernel)) ggX4_counter_X2_tableSize
theorem dX4_counter_0 : decode cX4_counter 0 = .ok (.aload_n 0, 1) := by decide +kernel
theorem dX4_counter_1 : decode cX4_counter 1 = .ok (.iload_n 1, 1) := by decide +kernel
theorem dX4_counter_2 : decode cX4_counter 2 = .ok (.invokevirtual 68, 3) := by decide +kernel
theorem dX4_counter_5 : decode cX4_counter 5 = .ok (.astore_n 3, 1) := by decide +kernel
theorem dX4_counter_6 : decode cX4_counter 6 = .ok (.iload_n 2, 1) := by decide +kernel
theorem dX4_counter_7 : decode cX4_counter 7 = .ok (.ifCond .lt 11, 3) := by decide +kernel
theorem dX4_counter_10 : decode cX4_counter 10 = .ok (.iload_n 2, 1) := by decide +kernel
theorem dX4_counter_11 : decode cX4_counter 11 = .ok (.aload_n 3, 1) := by decide +kernel
theorem dX4_counter_12 : decode cX4_counter 12 = .ok (.invokevirtual 124, 3) := by decide +kernel
theorem dX4_counter_15 : decode cX4_counter 15 = .ok (.if_icmp .lt 13, 3) := by decide +kernel
theorem dX4_counter_18 : decode cX4_counter 18 = .ok (.new 127, 3) := by decide +kernel
theorem dX4_counter_21 : decode cX4_counter 21 = .ok (.dup, 1) := by decide +kernel
theorem dX4_counter_22 : decode cX4_counter 22 = .ok (.ldc 129, 2) := by decide +kernel
theorem dX4_counter_24 : decode cX4_counter 24 = .ok (.invokespecial 131, 3) := by decide +kernel
theorem dX4_counter_27 : decode cX4_counter 27 = .ok (.athrow, 1) := by decide +kernel
theorem dX4_counter_28 : decode cX4_counter 28 = .ok (.aload_n 3, 1) := by decide +kernel
theorem dX4_counter_29 : decode cX4_counter 29 = .ok (.getfield 132, 3) := by decide +kernel
theorem dX4_counter_32 : decode cX4_counter 32 = .ok (.iload_n 2, 1) := by decide +kernel
theorem dX4_counter_33 : decode cX4_counter 33 = .ok (.iaload, 1) := by decide +kernel
theorem dX4_counter_34 : decode cX4_counter 34 = .ok (.ireturn, 1) := by decide +kernel
set_option maxRecDepth 20000 in
theorem ggX4_weight_X4_requireModel : GoodIn wsX4_weight wsX4_requireModel := goodIn_ca (goodIn_r _ [8, 1, 2, 9, 10, 11, 22, 23, 24, 25, 26, 27, 28, 29, 30, 31, 32, 33] (by decide +kernel) (by decide +kernel)) (goodIn_sub (fun _ h => List.mem_cons_of_mem _ (List.mem_append_right _ h)) (by decide +kernel))
set_option maxRecDepth 20000 in
theorem gX4_weight_X4_requireModel : GoodIn wsX4_weight (wsV RX4 68 RX4 yX4_requireModel wsX4_requireModel) := goodIn_app (goodIn_of _ (by decide +kernel)) ggX4_weight_X4_requireModel
theorem dX4_weight_0 : decode cX4_weight 0 = .ok (.aload_n 0, 1) := by decide +kernel
theorem dX4_weight_1 : decode cX4_weight 1 = .ok (.iload_n 1, 1) := by decide +kernel
theorem dX4_weight_2 : decode cX4_weight 2 = .ok (.invokevirtual 68, 3) := by decide +kernel
theorem dX4_weight_5 : decode cX4_weight 5 = .ok (.astore_n 3, 1) := by decide +kernel
theorem dX4_weight_6 : decode cX4_weight 6 = .ok (.iload_n 2, 1) := by decide +kernel
theorem dX4_weight_7 : decode cX4_weight 7 = .ok (.ifCond .lt 9, 3) := by decide +kernel
theorem dX4_weight_10 : decode cX4_weight 10 = .ok (.iload_n 2, 1) := by decide +kernel
theorem dX4_weight_11 : decode cX4_weight 11 = .ok (.bipush 8, 2) := by decide +kernel
theorem dX4_weight_13 : decode cX4_weight 13 = .ok (.if_icmp .lt 13, 3) := by decide +kernel
theorem dX4_weight_16 : decode cX4_weight 16 = .ok (.new 127, 3) := by decide +kernel
theorem dX4_weight_19 : decode cX4_weight 19 = .ok (.dup, 1) := by decide +kernel
theorem dX4_weight_20 : decode cX4_weight 20 = .ok (.ldc 136, 2) := by decide +kernel
theorem dX4_weight_22 : decode cX4_weight 22 = .ok (.invokespecial 131, 3) := by decide +kernel
theorem dX4_weight_25 : decode cX4_weight 25 = .ok (.athrow, 1) := by decide +kernel
theorem dX4_weight_26 : decode cX4_weight 26 = .ok (.aload_n 3, 1) := by decide +kernel
theorem dX4_weight_27 : decode cX4_weight 27 = .ok (.getfield 138, 3) := by decide +kernel
theorem dX4_weight_30 : decode cX4_weight 30 = .ok (.iload_n 2, 1) := by decide +kernel
theorem dX4_weight_31 : decode cX4_weight 31 = .ok (.iaload, 1) := by decide +kernel
theorem dX4_weight_32 : decode cX4_weight 32 = .ok (.ireturn, 1) := by decide +kernel
set_option maxRecDepth 20000 in
theorem ggX4_leader_X3_heaviest : GoodIn wsX4_leader wsX3_heaviest := goodIn_r _ [6, 7, 8, 9, 10, 16, 17, 18, 19, 20, 21, 22, 23, 24, 25, 26, 27, 28, 29, 30, 31, 32] (by decide +kernel) (by decide +kernel)
set_option maxRecDepth 20000 in
theorem gX4_leader_X3_heaviest : GoodIn wsX4_leader (wsV RX4 141 RX3 yX3_heaviest wsX3_heaviest) := goodIn_app (goodIn_of _ (by decide +kernel)) ggX4_leader_X3_heaviest
theorem dX4_leader_0 : decode cX4_leader 0 = .ok (.aload_n 0, 1) := by decide +kernel
theorem dX4_leader_1 : decode cX4_leader 1 = .ok (.getfield 27, 3) := by decide +kernel
theorem dX4_leader_4 : decode cX4_leader 4 = .ok (.invokevirtual 141, 3) := by decide +kernel
theorem dX4_leader_7 : decode cX4_leader 7 = .ok (.ireturn, 1) := by decide +kernel
set_option maxRecDepth 20000 in
theorem ggX4_collisions_X4_requireModel : GoodIn wsX4_collisions wsX4_requireModel := goodIn_ca (goodIn_r _ [6, 7, 8, 9, 10, 11, 22, 23, 24, 25, 26, 27, 28, 29, 30, 31, 32, 33] (by decide +kernel) (by decide +kernel)) (goodIn_sub (fun _ h => List.mem_cons_of_mem _ (List.mem_append_right _ h)) (by decide +kernel))
set_option maxRecDepth 20000 in
theorem gX4_collisions_X4_requireModel : GoodIn wsX4_collisions (wsV RX4 68 RX4 yX4_requireModel wsX4_requireModel) := goodIn_app (goodIn_of _ (by decide +kernel)) ggX4_collisions_X4_requireModel
theorem dX4_collisions_0 : decode cX4_collisions 0 = .ok (.aload_n 0, 1) := by decide +kernel
theorem dX4_collisions_1 : decode cX4_collisions 1 = .ok (.iload_n 1, 1) := by decide +kernel
theorem dX4_collisions_2 : decode cX4_collisions 2 = .ok (.invokevirtual 68, 3) := by decide +kernel
theorem dX4_collisions_5 : decode cX4_collisions 5 = .ok (.getfield 144, 3) := by decide +kernel
theorem dX4_collisions_8 : decode cX4_collisions 8 = .ok (.ireturn, 1) := by decide +kernel
theorem dX4_history_0 : decode cX4_history 0 = .ok (.iload_n 1, 1) := by decide +kernel
theorem dX4_history_1 : decode cX4_history 1 = .ok (.ifCond .lt 8, 3) := by decide +kernel
theorem dX4_history_4 : decode cX4_history 4 = .ok (.iload_n 1, 1) := by decide +kernel
theorem dX4_history_5 : decode cX4_history 5 = .ok (.iconst 3, 1) := by decide +kernel
theorem dX4_history_6 : decode cX4_history 6 = .ok (.if_icmp .lt 13, 3) := by decide +kernel
theorem dX4_history_9 : decode cX4_history 9 = .ok (.new 127, 3) := by decide +kernel
theorem dX4_history_12 : decode cX4_history 12 = .ok (.dup, 1) := by decide +kernel
theorem dX4_history_13 : decode cX4_history 13 = .ok (.ldc 147, 2) := by decide +kernel
theorem dX4_history_15 : decode cX4_history 15 = .ok (.invokespecial 131, 3) := by decide +kernel
theorem dX4_history_18 : decode cX4_history 18 = .ok (.athrow, 1) := by decide +kernel
theorem dX4_history_19 : decode cX4_history 19 = .ok (.aload_n 0, 1) := by decide +kernel
theorem dX4_history_20 : decode cX4_history 20 = .ok (.getfield 27, 3) := by decide +kernel
theorem dX4_history_23 : decode cX4_history 23 = .ok (.getfield 149, 3) := by decide +kernel
theorem dX4_history_26 : decode cX4_history 26 = .ok (.iload_n 1, 1) := by decide +kernel
theorem dX4_history_27 : decode cX4_history 27 = .ok (.iaload, 1) := by decide +kernel
theorem dX4_history_28 : decode cX4_history 28 = .ok (.ireturn, 1) := by decide +kernel
theorem dX4_node_0 : decode cX4_node 0 = .ok (.aload_n 0, 1) := by decide +kernel
theorem dX4_node_1 : decode cX4_node 1 = .ok (.getfield 27, 3) := by decide +kernel
theorem dX4_node_4 : decode cX4_node 4 = .ok (.getfield 152, 3) := by decide +kernel
end
section
theorem dX4_node_7 : decode cX4_node 7 = .ok (.ireturn, 1) := by decide +kernel
theorem dX4_observed_0 : decode cX4_observed 0 = .ok (.aload_n 0, 1) := by decide +kernel
theorem dX4_observed_1 : decode cX4_observed 1 = .ok (.getfield 27, 3) := by decide +kernel
theorem dX4_observed_4 : decode cX4_observed 4 = .ok (.getfield 103, 3) := by decide +kernel
theorem dX4_observed_7 : decode cX4_observed 7 = .ok (.ireturn, 1) := by decide +kernel
theorem dX4_error_0 : decode cX4_error 0 = .ok (.aload_n 0, 1) := by decide +kernel
theorem dX4_error_1 : decode cX4_error 1 = .ok (.getfield 27, 3) := by decide +kernel
theorem dX4_error_4 : decode cX4_error 4 = .ok (.getfield 155, 3) := by decide +kernel
theorem dX4_error_7 : decode cX4_error 7 = .ok (.lreturn, 1) := by decide +kernel
theorem dX4_meanError_0 : decode cX4_meanError 0 = .ok (.aload_n 0, 1) := by decide +kernel
theorem dX4_meanError_1 : decode cX4_meanError 1 = .ok (.getfield 27, 3) := by decide +kernel
theorem dX4_meanError_4 : decode cX4_meanError 4 = .ok (.getfield 103, 3) := by decide +kernel
theorem dX4_meanError_7 : decode cX4_meanError 7 = .ok (.ifCond .gt 5, 3) := by decide +kernel
theorem dX4_meanError_10 : decode cX4_meanError 10 = .ok (.dconst 0, 1) := by decide +kernel
theorem dX4_meanError_11 : decode cX4_meanError 11 = .ok (.dreturn, 1) := by decide +kernel
theorem dX4_meanError_12 : decode cX4_meanError 12 = .ok (.aload_n 0, 1) := by decide +kernel
theorem dX4_meanError_13 : decode cX4_meanError 13 = .ok (.getfield 27, 3) := by decide +kernel
theorem dX4_meanError_16 : decode cX4_meanError 16 = .ok (.getfield 155, 3) := by decide +kernel
theorem dX4_meanError_19 : decode cX4_meanError 19 = .ok (.l2d, 1) := by decide +kernel
theorem dX4_meanError_20 : decode cX4_meanError 20 = .ok (.ldc2_w 159, 3) := by decide +kernel
theorem dX4_meanError_23 : decode cX4_meanError 23 = .ok (.aload_n 0, 1) := by decide +kernel
theorem dX4_meanError_24 : decode cX4_meanError 24 = .ok (.getfield 27, 3) := by decide +kernel
theorem dX4_meanError_27 : decode cX4_meanError 27 = .ok (.getfield 103, 3) := by decide +kernel
theorem dX4_meanError_30 : decode cX4_meanError 30 = .ok (.i2d, 1) := by decide +kernel
theorem dX4_meanError_31 : decode cX4_meanError 31 = .ok (.dmul, 1) := by decide +kernel
theorem dX4_meanError_32 : decode cX4_meanError 32 = .ok (.ddiv, 1) := by decide +kernel
theorem dX4_meanError_33 : decode cX4_meanError 33 = .ok (.dreturn, 1) := by decide +kernel
set_option maxRecDepth 20000 in
theorem ggX4_encode_X3_restart : GoodIn wsX4_encode wsX3_restart := goodIn_r _ [10, 11, 12, 13, 14, 15, 16, 17, 18, 19, 20, 21, 22, 23, 24, 25, 26, 27, 28, 29, 30, 31, 32, 33, 34, 35, 36, 37, 9, 38, 39, 40, 41, 42, 43, 44, 45, 46, 47, 48, 49, 50, 51, 52, 53, 54, 55, 56, 57, 58, 59, 60, 61, 62, 63, 64, 162, 163, 164, 165, 166, 167, 168, 169, 170, 171, 172, 173, 174, 175, 176, 177, 178] (by decide +kernel) (by decide +kernel)
set_option maxRecDepth 20000 in
theorem gX4_encode_X3_restart : GoodIn wsX4_encode (wsV RX4 77 RX3 yX3_restart wsX3_restart) := goodIn_app (goodIn_of _ (by decide +kernel)) ggX4_encode_X3_restart
set_option maxRecDepth 20000 in
theorem ggX4_encode_X1_open : GoodIn wsX4_encode wsX1_open := goodIn_r _ [69, 70, 71, 72, 73, 74, 179, 180, 181, 182] (by decide +kernel) (by decide +kernel)
set_option maxRecDepth 20000 in
theorem gX4_encode_X1_open : GoodIn wsX4_encode (wsV RX4 161 RX1 yX1_open wsX1_open) := goodIn_app (goodIn_of _ (by decide +kernel)) ggX4_encode_X1_open
set_option maxRecDepth 20000 in
theorem ggX4_encode_X0_clear : GoodIn wsX4_encode wsX0_clear := goodIn_r _ [79, 80, 160, 161] (by decide +kernel) (by decide +kernel)
set_option maxRecDepth 20000 in
theorem gX4_encode_X0_clear : GoodIn wsX4_encode (wsV RX4 164 RX0 yX0_clear wsX0_clear) := goodIn_app (goodIn_of _ (by decide +kernel)) ggX4_encode_X0_clear
set_option maxRecDepth 20000 in
theorem ggX4_encode_X0_at : GoodIn wsX4_encode wsX0_at := goodIn_r _ [84, 85, 86, 87, 88, 78, 89, 80, 160, 161] (by decide +kernel) (by decide +kernel)
set_option maxRecDepth 20000 in
theorem gX4_encode_X0_at : GoodIn wsX4_encode (wsV RX4 167 RX0 yX0_at wsX0_at) := goodIn_app (goodIn_of _ (by decide +kernel)) ggX4_encode_X0_at
set_option maxRecDepth 20000 in
theorem ggX4_encode_X4_encodeByte : GoodIn wsX4_encode wsX4_encodeByte := goodIn_r _ [94, 1, 2, 3, 95, 96, 97, 9, 98, 11, 12, 99, 15, 100, 62, 63, 64, 101, 102, 103, 104, 105, 106, 21, 107, 23, 55, 108, 109, 110, 68, 111, 70, 72, 112, 113, 114, 115, 116, 117, 118, 119, 120, 121, 122, 123, 124, 125, 126, 127, 71, 128, 129, 130, 131, 78, 132, 80, 85, 133, 134, 135, 136, 17, 16, 137, 93, 138, 139, 140, 141, 142, 25, 143, 61, 144, 145, 146, 147, 148, 149, 150, 24, 54, 26, 151, 152, 153, 154, 14, 13, 35, 36, 37, 38, 39, 40, 41, 42, 43, 44, 45, 46, 47, 48, 49, 50, 51, 52, 53, 56, 57, 58, 59, 60, 155, 156, 157, 158, 159, 162, 163, 164, 165, 166, 167, 168, 169, 170, 171, 172, 173, 174, 175, 176, 177, 178, 179, 180, 181, 182, 160, 161] (by decide +kernel) (by decide +kernel)
set_option maxRecDepth 20000 in
theorem gX4_encode_X4_encodeByte : GoodIn wsX4_encode (wsV RX4 171 RX4 yX4_encodeByte wsX4_encodeByte) := goodIn_app (goodIn_of _ (by decide +kernel)) ggX4_encode_X4_encodeByte
set_option maxRecDepth 20000 in
theorem ggX4_encode_X1_shift : GoodIn wsX4_encode wsX1_shift := goodIn_r _ [127, 70, 71, 72, 128, 121, 122, 68, 123, 179, 180, 181, 182] (by decide +kernel) (by decide +kernel)
set_option maxRecDepth 20000 in
theorem gX4_encode_X1_shift : GoodIn wsX4_encode (wsV RX4 174 RX1 yX1_shift wsX1_shift) := goodIn_app (goodIn_of _ (by decide +kernel)) ggX4_encode_X1_shift
set_option maxRecDepth 20000 in
theorem ggX4_encode_X0_append : GoodIn wsX4_encode wsX0_append := goodIn_r _ [132, 80, 85, 160, 161] (by decide +kernel) (by decide +kernel)
set_option maxRecDepth 20000 in
theorem gX4_encode_X0_append : GoodIn wsX4_encode (wsV RX4 85 RX0 yX0_append wsX0_append) := goodIn_app (goodIn_of _ (by decide +kernel)) ggX4_encode_X0_append
theorem dX4_encode_0 : decode cX4_encode 0 = .ok (.aload_n 0, 1) := by decide +kernel
theorem dX4_encode_1 : decode cX4_encode 1 = .ok (.getfield 27, 3) := by decide +kernel
theorem dX4_encode_4 : decode cX4_encode 4 = .ok (.invokevirtual 77, 3) := by decide +kernel
theorem dX4_encode_7 : decode cX4_encode 7 = .ok (.aload_n 0, 1) := by decide +kernel
theorem dX4_encode_8 : decode cX4_encode 8 = .ok (.getfield 34, 3) := by decide +kernel
theorem dX4_encode_11 : decode cX4_encode 11 = .ok (.invokevirtual 161, 3) := by decide +kernel
theorem dX4_encode_14 : decode cX4_encode 14 = .ok (.aload_n 0, 1) := by decide +kernel
theorem dX4_encode_15 : decode cX4_encode 15 = .ok (.getfield 18, 3) := by decide +kernel
theorem dX4_encode_18 : decode cX4_encode 18 = .ok (.invokevirtual 164, 3) := by decide +kernel
theorem dX4_encode_21 : decode cX4_encode 21 = .ok (.iconst 0, 1) := by decide +kernel
theorem dX4_encode_22 : decode cX4_encode 22 = .ok (.istore_n 1, 1) := by decide +kernel
theorem dX4_encode_23 : decode cX4_encode 23 = .ok (.iload_n 1, 1) := by decide +kernel
theorem dX4_encode_24 : decode cX4_encode 24 = .ok (.aload_n 0, 1) := by decide +kernel
theorem dX4_encode_25 : decode cX4_encode 25 = .ok (.getfield 14, 3) := by decide +kernel
theorem dX4_encode_28 : decode cX4_encode 28 = .ok (.getfield 88, 3) := by decide +kernel
theorem dX4_encode_31 : decode cX4_encode 31 = .ok (.if_icmp .ge 21, 3) := by decide +kernel
theorem dX4_encode_34 : decode cX4_encode 34 = .ok (.aload_n 0, 1) := by decide +kernel
theorem dX4_encode_35 : decode cX4_encode 35 = .ok (.aload_n 0, 1) := by decide +kernel
theorem dX4_encode_36 : decode cX4_encode 36 = .ok (.getfield 14, 3) := by decide +kernel
theorem dX4_encode_39 : decode cX4_encode 39 = .ok (.iload_n 1, 1) := by decide +kernel
theorem dX4_encode_40 : decode cX4_encode 40 = .ok (.invokevirtual 167, 3) := by decide +kernel
theorem dX4_encode_43 : decode cX4_encode 43 = .ok (.invokevirtual 171, 3) := by decide +kernel
theorem dX4_encode_46 : decode cX4_encode 46 = .ok (.iinc 1 1, 3) := by decide +kernel
theorem dX4_encode_49 : decode cX4_encode 49 = .ok (.goto (-26), 3) := by decide +kernel
theorem dX4_encode_52 : decode cX4_encode 52 = .ok (.iconst 0, 1) := by decide +kernel
theorem dX4_encode_53 : decode cX4_encode 53 = .ok (.istore_n 1, 1) := by decide +kernel
theorem dX4_encode_54 : decode cX4_encode 54 = .ok (.iload_n 1, 1) := by decide +kernel
theorem dX4_encode_55 : decode cX4_encode 55 = .ok (.iconst 4, 1) := by decide +kernel
theorem dX4_encode_56 : decode cX4_encode 56 = .ok (.if_icmp .ge 23, 3) := by decide +kernel
theorem dX4_encode_59 : decode cX4_encode 59 = .ok (.aload_n 0, 1) := by decide +kernel
theorem dX4_encode_60 : decode cX4_encode 60 = .ok (.getfield 18, 3) := by decide +kernel
theorem dX4_encode_63 : decode cX4_encode 63 = .ok (.aload_n 0, 1) := by decide +kernel
theorem dX4_encode_64 : decode cX4_encode 64 = .ok (.getfield 34, 3) := by decide +kernel
theorem dX4_encode_67 : decode cX4_encode 67 = .ok (.invokevirtual 174, 3) := by decide +kernel
theorem dX4_encode_70 : decode cX4_encode 70 = .ok (.invokevirtual 85, 3) := by decide +kernel
theorem dX4_encode_73 : decode cX4_encode 73 = .ok (.iinc 1 1, 3) := by decide +kernel
theorem dX4_encode_76 : decode cX4_encode 76 = .ok (.goto (-22), 3) := by decide +kernel
theorem dX4_encode_79 : decode cX4_encode 79 = .ok (.aload_n 0, 1) := by decide +kernel
theorem dX4_encode_80 : decode cX4_encode 80 = .ok (.getfield 18, 3) := by decide +kernel
theorem dX4_encode_83 : decode cX4_encode 83 = .ok (.getfield 88, 3) := by decide +kernel
theorem dX4_encode_86 : decode cX4_encode 86 = .ok (.ireturn, 1) := by decide +kernel
theorem dX4_codeSize_0 : decode cX4_codeSize 0 = .ok (.aload_n 0, 1) := by decide +kernel
theorem dX4_codeSize_1 : decode cX4_codeSize 1 = .ok (.getfield 18, 3) := by decide +kernel
theorem dX4_codeSize_4 : decode cX4_codeSize 4 = .ok (.getfield 88, 3) := by decide +kernel
theorem dX4_codeSize_7 : decode cX4_codeSize 7 = .ok (.ireturn, 1) := by decide +kernel
set_option maxRecDepth 20000 in
theorem ggX4_code_X4_requirePlace : GoodIn wsX4_code wsX4_requirePlace := goodIn_ca (goodIn_r _ [5, 6, 7, 8, 9, 10, 11, 12, 13, 14, 15, 16, 17, 18, 19, 25, 26] (by decide +kernel) (by decide +kernel)) (goodIn_sub (fun _ h => List.mem_cons_of_mem _ (List.mem_append_right _ h)) (by decide +kernel))
set_option maxRecDepth 20000 in
theorem gX4_code_X4_requirePlace : GoodIn wsX4_code (va_wsS RX4 100 yX4_requirePlace wsX4_requirePlace) := goodIn_app (goodIn_of _ (by decide +kernel)) ggX4_code_X4_requirePlace
theorem dX4_code_0 : decode cX4_code 0 = .ok (.aload_n 0, 1) := by decide +kernel
theorem dX4_code_1 : decode cX4_code 1 = .ok (.getfield 18, 3) := by decide +kernel
theorem dX4_code_4 : decode cX4_code 4 = .ok (.iload_n 1, 1) := by decide +kernel
theorem dX4_code_5 : decode cX4_code 5 = .ok (.invokestatic 100, 3) := by decide +kernel
theorem dX4_code_8 : decode cX4_code 8 = .ok (.ireturn, 1) := by decide +kernel
set_option maxRecDepth 20000 in
theorem ggX4_setCode_X4_requirePlace : GoodIn wsX4_setCode wsX4_requirePlace := goodIn_ca (goodIn_r _ [5, 6, 7, 8, 9, 10, 11, 12, 13, 14, 15, 16, 17, 18, 19, 34, 35] (by decide +kernel) (by decide +kernel)) (goodIn_sub (fun _ h => List.mem_cons_of_mem _ (List.mem_append_left _ (List.mem_append_right _ h))) (by decide +kernel))
set_option maxRecDepth 20000 in
theorem gX4_setCode_X4_requirePlace : GoodIn wsX4_setCode (va_wsS RX4 100 yX4_requirePlace wsX4_requirePlace) := goodIn_app (goodIn_of _ (by decide +kernel)) ggX4_setCode_X4_requirePlace
set_option maxRecDepth 20000 in
theorem ggX4_setCode_X4_requireByte : GoodIn wsX4_setCode wsX4_requireByte := goodIn_ca (goodIn_r _ [22, 23, 24] (by decide +kernel) (by decide +kernel)) (goodIn_sub (fun _ h => List.mem_cons_of_mem _ (List.mem_append_right _ h)) (by decide +kernel))
set_option maxRecDepth 20000 in
theorem gX4_setCode_X4_requireByte : GoodIn wsX4_setCode (va_wsS RX4 91 yX4_requireByte wsX4_requireByte) := goodIn_app (goodIn_of _ (by decide +kernel)) ggX4_setCode_X4_requireByte
set_option maxRecDepth 20000 in
theorem ggX4_setCode_X0_put : GoodIn wsX4_setCode wsX0_put := goodIn_r _ [28, 14, 19, 9, 10, 11, 12, 13, 34, 35] (by decide +kernel) (by decide +kernel)
set_option maxRecDepth 20000 in
theorem gX4_setCode_X0_put : GoodIn wsX4_setCode (wsV RX4 177 RX0 yX0_put wsX0_put) := goodIn_app (goodIn_of _ (by decide +kernel)) ggX4_setCode_X0_put
theorem dX4_setCode_0 : decode cX4_setCode 0 = .ok (.aload_n 0, 1) := by decide +kernel
theorem dX4_setCode_1 : decode cX4_setCode 1 = .ok (.getfield 18, 3) := by decide +kernel
theorem dX4_setCode_4 : decode cX4_setCode 4 = .ok (.iload_n 1, 1) := by decide +kernel
theorem dX4_setCode_5 : decode cX4_setCode 5 = .ok (.invokestatic 100, 3) := by decide +kernel
theorem dX4_setCode_8 : decode cX4_setCode 8 = .ok (.istore_n 3, 1) := by decide +kernel
theorem dX4_setCode_9 : decode cX4_setCode 9 = .ok (.iload_n 2, 1) := by decide +kernel
theorem dX4_setCode_10 : decode cX4_setCode 10 = .ok (.invokestatic 91, 3) := by decide +kernel
theorem dX4_setCode_13 : decode cX4_setCode 13 = .ok (.aload_n 0, 1) := by decide +kernel
theorem dX4_setCode_14 : decode cX4_setCode 14 = .ok (.getfield 18, 3) := by decide +kernel
theorem dX4_setCode_17 : decode cX4_setCode 17 = .ok (.iload_n 1, 1) := by decide +kernel
theorem dX4_setCode_18 : decode cX4_setCode 18 = .ok (.iload_n 2, 1) := by decide +kernel
theorem dX4_setCode_19 : decode cX4_setCode 19 = .ok (.invokevirtual 177, 3) := by decide +kernel
theorem dX4_setCode_22 : decode cX4_setCode 22 = .ok (.iload_n 3, 1) := by decide +kernel
theorem dX4_setCode_23 : decode cX4_setCode 23 = .ok (.ireturn, 1) := by decide +kernel
set_option maxRecDepth 20000 in
theorem ggX4_cutCode_X4_shorten : GoodIn wsX4_cutCode wsX4_shorten := goodIn_ca (goodIn_r _ [5, 6, 7, 8, 14, 15] (by decide +kernel) (by decide +kernel)) (goodIn_sub (fun _ h => List.mem_cons_of_mem _ (List.mem_append_right _ h)) (by decide +kernel))
set_option maxRecDepth 20000 in
theorem gX4_cutCode_X4_shorten : GoodIn wsX4_cutCode (va_wsS RX4 96 yX4_shorten wsX4_shorten) := goodIn_app (goodIn_of _ (by decide +kernel)) ggX4_cutCode_X4_shorten
theorem dX4_cutCode_0 : decode cX4_cutCode 0 = .ok (.aload_n 0, 1) := by decide +kernel
theorem dX4_cutCode_1 : decode cX4_cutCode 1 = .ok (.getfield 18, 3) := by decide +kernel
theorem dX4_cutCode_4 : decode cX4_cutCode 4 = .ok (.iload_n 1, 1) := by decide +kernel
theorem dX4_cutCode_5 : decode cX4_cutCode 5 = .ok (.invokestatic 96, 3) := by decide +kernel
theorem dX4_cutCode_8 : decode cX4_cutCode 8 = .ok (.ireturn, 1) := by decide +kernel
set_option maxRecDepth 20000 in
theorem ggX4_decode_X3_restart : GoodIn wsX4_decode wsX3_restart := goodIn_r _ [11, 12, 13, 14, 15, 16, 17, 18, 19, 20, 21, 22, 23, 24, 25, 26, 27, 28, 29, 30, 31, 32, 33, 34, 35, 36, 37, 38, 10, 39, 40, 41, 42, 43, 44, 45, 46, 47, 48, 49, 50, 51, 52, 53, 54, 55, 56, 57, 58, 59, 60, 61, 62, 63, 64, 65, 180, 181, 182, 183, 184, 185, 186, 187, 188, 189, 190, 191, 192, 193, 194, 195, 196] (by decide +kernel) (by decide +kernel)
set_option maxRecDepth 20000 in
theorem gX4_decode_X3_restart : GoodIn wsX4_decode (wsV RX4 77 RX3 yX3_restart wsX3_restart) := goodIn_app (goodIn_of _ (by decide +kernel)) ggX4_decode_X3_restart
set_option maxRecDepth 20000 in
theorem ggX4_decode_X1_open : GoodIn wsX4_decode wsX1_open := goodIn_r _ [70, 71, 72, 73, 74, 75, 197, 198, 199, 200] (by decide +kernel) (by decide +kernel)
set_option maxRecDepth 20000 in
theorem gX4_decode_X1_open : GoodIn wsX4_decode (wsV RX4 161 RX1 yX1_open wsX1_open) := goodIn_app (goodIn_of _ (by decide +kernel)) ggX4_decode_X1_open
set_option maxRecDepth 20000 in
theorem ggX4_decode_X1_load : GoodIn wsX4_decode wsX1_load := goodIn_r _ [79, 80, 81, 82, 69, 83, 74, 72, 75, 84, 85, 86, 87, 88, 89, 90, 91, 92, 93, 94, 197, 198, 199, 200, 201, 202] (by decide +kernel) (by decide +kernel)
set_option maxRecDepth 20000 in
theorem gX4_decode_X1_load : GoodIn wsX4_decode (wsV RX4 183 RX1 yX1_load wsX1_load) := goodIn_app (goodIn_of _ (by decide +kernel)) ggX4_decode_X1_load
set_option maxRecDepth 20000 in
theorem ggX4_decode_X0_clear : GoodIn wsX4_decode wsX0_clear := goodIn_r _ [98, 94, 201, 202] (by decide +kernel) (by decide +kernel)
set_option maxRecDepth 20000 in
theorem gX4_decode_X0_clear : GoodIn wsX4_decode (wsV RX4 164 RX0 yX0_clear wsX0_clear) := goodIn_app (goodIn_of _ (by decide +kernel)) ggX4_decode_X0_clear
set_option maxRecDepth 20000 in
theorem ggX4_decode_X4_decodeByte : GoodIn wsX4_decode wsX4_decodeByte := goodIn_r _ [103, 3, 4, 104, 5, 105, 106, 107, 10, 108, 12, 13, 109, 16, 110, 63, 64, 65, 111, 112, 113, 114, 115, 116, 22, 117, 24, 56, 118, 119, 120, 69, 121, 71, 73, 122, 123, 124, 125, 126, 127, 128, 129, 130, 131, 132, 133, 134, 135, 136, 137, 72, 138, 139, 81, 82, 83, 74, 75, 84, 85, 86, 87, 88, 89, 90, 91, 92, 93, 94, 140, 141, 142, 143, 18, 17, 144, 102, 145, 146, 147, 148, 149, 26, 150, 62, 151, 152, 153, 154, 155, 156, 157, 25, 55, 27, 158, 159, 160, 161, 15, 14, 36, 37, 38, 39, 40, 41, 42, 43, 44, 45, 46, 47, 48, 49, 50, 51, 52, 53, 54, 57, 58, 59, 60, 61, 175, 176, 177, 178, 179, 197, 198, 199, 200, 180, 181, 182, 183, 184, 185, 186, 187, 188, 189, 190, 191, 192, 193, 194, 195, 196, 201, 202] (by decide +kernel) (by decide +kernel)
set_option maxRecDepth 20000 in
theorem gX4_decode_X4_decodeByte : GoodIn wsX4_decode (wsV RX4 187 RX4 yX4_decodeByte wsX4_decodeByte) := goodIn_app (goodIn_of _ (by decide +kernel)) ggX4_decode_X4_decodeByte
set_option maxRecDepth 20000 in
theorem ggX4_decode_X0_append : GoodIn wsX4_decode wsX0_append := goodIn_r _ [165, 94, 89, 201, 202] (by decide +kernel) (by decide +kernel)
set_option maxRecDepth 20000 in
theorem gX4_decode_X0_append : GoodIn wsX4_decode (wsV RX4 85 RX0 yX0_append wsX0_append) := goodIn_app (goodIn_of _ (by decide +kernel)) ggX4_decode_X0_append
set_option maxRecDepth 20000 in
theorem ggX4_decode_X4_differences : GoodIn wsX4_decode wsX4_differences := goodIn_r _ [169, 170, 171, 6, 172, 112, 64, 113, 173, 91, 92, 87, 93, 94, 89, 174, 85, 86, 88, 90, 175, 176, 177, 178, 179, 201, 202] (by decide +kernel) (by decide +kernel)
set_option maxRecDepth 20000 in
theorem gX4_decode_X4_differences : GoodIn wsX4_decode (wsV RX4 190 RX4 yX4_differences wsX4_differences) := goodIn_app (goodIn_of _ (by decide +kernel)) ggX4_decode_X4_differences
theorem dX4_decode_0 : decode cX4_decode 0 = .ok (.iload_n 1, 1) := by decide +kernel
theorem dX4_decode_1 : decode cX4_decode 1 = .ok (.ifCond .lt 9, 3) := by decide +kernel
theorem dX4_decode_4 : decode cX4_decode 4 = .ok (.iload_n 1, 1) := by decide +kernel
theorem dX4_decode_5 : decode cX4_decode 5 = .ok (.bipush 80, 2) := by decide +kernel
theorem dX4_decode_7 : decode cX4_decode 7 = .ok (.if_icmp .le 13, 3) := by decide +kernel
theorem dX4_decode_10 : decode cX4_decode 10 = .ok (.new 38, 3) := by decide +kernel
theorem dX4_decode_13 : decode cX4_decode 13 = .ok (.dup, 1) := by decide +kernel
theorem dX4_decode_14 : decode cX4_decode 14 = .ok (.ldc 181, 2) := by decide +kernel
theorem dX4_decode_16 : decode cX4_decode 16 = .ok (.invokespecial 42, 3) := by decide +kernel
theorem dX4_decode_19 : decode cX4_decode 19 = .ok (.athrow, 1) := by decide +kernel
theorem dX4_decode_20 : decode cX4_decode 20 = .ok (.aload_n 0, 1) := by decide +kernel
theorem dX4_decode_21 : decode cX4_decode 21 = .ok (.getfield 27, 3) := by decide +kernel
theorem dX4_decode_24 : decode cX4_decode 24 = .ok (.invokevirtual 77, 3) := by decide +kernel
theorem dX4_decode_27 : decode cX4_decode 27 = .ok (.aload_n 0, 1) := by decide +kernel
theorem dX4_decode_28 : decode cX4_decode 28 = .ok (.getfield 34, 3) := by decide +kernel
theorem dX4_decode_31 : decode cX4_decode 31 = .ok (.invokevirtual 161, 3) := by decide +kernel
theorem dX4_decode_34 : decode cX4_decode 34 = .ok (.aload_n 0, 1) := by decide +kernel
theorem dX4_decode_35 : decode cX4_decode 35 = .ok (.getfield 34, 3) := by decide +kernel
theorem dX4_decode_38 : decode cX4_decode 38 = .ok (.aload_n 0, 1) := by decide +kernel
theorem dX4_decode_39 : decode cX4_decode 39 = .ok (.getfield 18, 3) := by decide +kernel
theorem dX4_decode_42 : decode cX4_decode 42 = .ok (.invokevirtual 183, 3) := by decide +kernel
theorem dX4_decode_45 : decode cX4_decode 45 = .ok (.aload_n 0, 1) := by decide +kernel
theorem dX4_decode_46 : decode cX4_decode 46 = .ok (.getfield 21, 3) := by decide +kernel
theorem dX4_decode_49 : decode cX4_decode 49 = .ok (.invokevirtual 164, 3) := by decide +kernel
theorem dX4_decode_52 : decode cX4_decode 52 = .ok (.iconst 0, 1) := by decide +kernel
theorem dX4_decode_53 : decode cX4_decode 53 = .ok (.istore_n 2, 1) := by decide +kernel
theorem dX4_decode_54 : decode cX4_decode 54 = .ok (.iload_n 2, 1) := by decide +kernel
theorem dX4_decode_55 : decode cX4_decode 55 = .ok (.iload_n 1, 1) := by decide +kernel
theorem dX4_decode_56 : decode cX4_decode 56 = .ok (.if_icmp .ge 20, 3) := by decide +kernel
theorem dX4_decode_59 : decode cX4_decode 59 = .ok (.aload_n 0, 1) := by decide +kernel
theorem dX4_decode_60 : decode cX4_decode 60 = .ok (.getfield 21, 3) := by decide +kernel
theorem dX4_decode_63 : decode cX4_decode 63 = .ok (.aload_n 0, 1) := by decide +kernel
theorem dX4_decode_64 : decode cX4_decode 64 = .ok (.invokevirtual 187, 3) := by decide +kernel
theorem dX4_decode_67 : decode cX4_decode 67 = .ok (.invokevirtual 85, 3) := by decide +kernel
theorem dX4_decode_70 : decode cX4_decode 70 = .ok (.iinc 2 1, 3) := by decide +kernel
theorem dX4_decode_73 : decode cX4_decode 73 = .ok (.goto (-19), 3) := by decide +kernel
theorem dX4_decode_76 : decode cX4_decode 76 = .ok (.aload_n 0, 1) := by decide +kernel
theorem dX4_decode_77 : decode cX4_decode 77 = .ok (.invokevirtual 190, 3) := by decide +kernel
theorem dX4_decode_80 : decode cX4_decode 80 = .ok (.ireturn, 1) := by decide +kernel
theorem dX4_outputSize_0 : decode cX4_outputSize 0 = .ok (.aload_n 0, 1) := by decide +kernel
theorem dX4_outputSize_1 : decode cX4_outputSize 1 = .ok (.getfield 21, 3) := by decide +kernel
theorem dX4_outputSize_4 : decode cX4_outputSize 4 = .ok (.getfield 88, 3) := by decide +kernel
theorem dX4_outputSize_7 : decode cX4_outputSize 7 = .ok (.ireturn, 1) := by decide +kernel
set_option maxRecDepth 20000 in
theorem ggX4_output_X4_requirePlace : GoodIn wsX4_output wsX4_requirePlace := goodIn_ca (goodIn_r _ [5, 6, 7, 8, 9, 10, 11, 12, 13, 14, 15, 16, 17, 18, 19, 25, 26] (by decide +kernel) (by decide +kernel)) (goodIn_sub (fun _ h => List.mem_cons_of_mem _ (List.mem_append_right _ h)) (by decide +kernel))
set_option maxRecDepth 20000 in
theorem gX4_output_X4_requirePlace : GoodIn wsX4_output (va_wsS RX4 100 yX4_requirePlace wsX4_requirePlace) := goodIn_app (goodIn_of _ (by decide +kernel)) ggX4_output_X4_requirePlace
theorem dX4_output_0 : decode cX4_output 0 = .ok (.aload_n 0, 1) := by decide +kernel
theorem dX4_output_1 : decode cX4_output 1 = .ok (.getfield 21, 3) := by decide +kernel
theorem dX4_output_4 : decode cX4_output 4 = .ok (.iload_n 1, 1) := by decide +kernel
theorem dX4_output_5 : decode cX4_output 5 = .ok (.invokestatic 100, 3) := by decide +kernel
theorem dX4_output_8 : decode cX4_output 8 = .ok (.ireturn, 1) := by decide +kernel
theorem dX4_ratio_0 : decode cX4_ratio 0 = .ok (.aload_n 0, 1) := by decide +kernel
theorem dX4_ratio_1 : decode cX4_ratio 1 = .ok (.getfield 14, 3) := by decide +kernel
theorem dX4_ratio_4 : decode cX4_ratio 4 = .ok (.getfield 88, 3) := by decide +kernel
theorem dX4_ratio_7 : decode cX4_ratio 7 = .ok (.ifCond .gt 5, 3) := by decide +kernel
theorem dX4_ratio_10 : decode cX4_ratio 10 = .ok (.dconst 0, 1) := by decide +kernel
theorem dX4_ratio_11 : decode cX4_ratio 11 = .ok (.dreturn, 1) := by decide +kernel
theorem dX4_ratio_12 : decode cX4_ratio 12 = .ok (.aload_n 0, 1) := by decide +kernel
theorem dX4_ratio_13 : decode cX4_ratio 13 = .ok (.getfield 18, 3) := by decide +kernel
theorem dX4_ratio_16 : decode cX4_ratio 16 = .ok (.getfield 88, 3) := by decide +kernel
theorem dX4_ratio_19 : decode cX4_ratio 19 = .ok (.i2d, 1) := by decide +kernel
theorem dX4_ratio_20 : decode cX4_ratio 20 = .ok (.aload_n 0, 1) := by decide +kernel
theorem dX4_ratio_21 : decode cX4_ratio 21 = .ok (.getfield 14, 3) := by decide +kernel
theorem dX4_ratio_24 : decode cX4_ratio 24 = .ok (.getfield 88, 3) := by decide +kernel
theorem dX4_ratio_27 : decode cX4_ratio 27 = .ok (.i2d, 1) := by decide +kernel
theorem dX4_ratio_28 : decode cX4_ratio 28 = .ok (.ddiv, 1) := by decide +kernel
theorem dX4_ratio_29 : decode cX4_ratio 29 = .ok (.dreturn, 1) := by decide +kernel
set_option maxRecDepth 20000 in
theorem ggX4_digest_X4_digestModels : GoodIn wsX4_digest wsX4_digestModels := goodIn_r _ [14, 3, 4, 15, 16, 17, 18, 19, 20, 21, 37, 38, 39, 40, 41, 42, 43, 44, 45, 46, 47, 48, 49, 50, 51, 52, 53, 54, 55, 56, 57, 58] (by decide +kernel) (by decide +kernel)
set_option maxRecDepth 20000 in
theorem gX4_digest_X4_digestModels : GoodIn wsX4_digest (wsV RX4 195 RX4 yX4_digestModels wsX4_digestModels) := goodIn_app (goodIn_of _ (by decide +kernel)) ggX4_digest_X4_digestModels
set_option maxRecDepth 20000 in
theorem ggX4_digest_X4_digestBytes : GoodIn wsX4_digest wsX4_digestBytes := goodIn_r _ [24, 3, 25, 26, 27, 28, 29, 30, 31, 32, 33, 34, 35, 36, 59, 60] (by decide +kernel) (by decide +kernel)
set_option maxRecDepth 20000 in
theorem gX4_digest_X4_digestBytes : GoodIn wsX4_digest (va_wsS RX4 199 yX4_digestBytes wsX4_digestBytes) := goodIn_app (goodIn_of _ (by decide +kernel)) ggX4_digest_X4_digestBytes
theorem dX4_digest_0 : decode cX4_digest 0 = .ok (.aload_n 0, 1) := by decide +kernel
theorem dX4_digest_1 : decode cX4_digest 1 = .ok (.ldc2_w 193, 3) := by decide +kernel
theorem dX4_digest_4 : decode cX4_digest 4 = .ok (.invokevirtual 195, 3) := by decide +kernel
theorem dX4_digest_7 : decode cX4_digest 7 = .ok (.lstore_n 1, 1) := by decide +kernel
theorem dX4_digest_8 : decode cX4_digest 8 = .ok (.lload_n 1, 1) := by decide +kernel
theorem dX4_digest_9 : decode cX4_digest 9 = .ok (.aload_n 0, 1) := by decide +kernel
theorem dX4_digest_10 : decode cX4_digest 10 = .ok (.getfield 14, 3) := by decide +kernel
theorem dX4_digest_13 : decode cX4_digest 13 = .ok (.invokestatic 199, 3) := by decide +kernel
theorem dX4_digest_16 : decode cX4_digest 16 = .ok (.lstore_n 1, 1) := by decide +kernel
theorem dX4_digest_17 : decode cX4_digest 17 = .ok (.lload_n 1, 1) := by decide +kernel
theorem dX4_digest_18 : decode cX4_digest 18 = .ok (.ldc2_w 203, 3) := by decide +kernel
theorem dX4_digest_21 : decode cX4_digest 21 = .ok (.lmul, 1) := by decide +kernel
theorem dX4_digest_22 : decode cX4_digest 22 = .ok (.aload_n 0, 1) := by decide +kernel
theorem dX4_digest_23 : decode cX4_digest 23 = .ok (.getfield 27, 3) := by decide +kernel
theorem dX4_digest_26 : decode cX4_digest 26 = .ok (.getfield 152, 3) := by decide +kernel
theorem dX4_digest_29 : decode cX4_digest 29 = .ok (.i2l, 1) := by decide +kernel
theorem dX4_digest_30 : decode cX4_digest 30 = .ok (.ladd, 1) := by decide +kernel
theorem dX4_digest_31 : decode cX4_digest 31 = .ok (.lstore_n 1, 1) := by decide +kernel
theorem dX4_digest_32 : decode cX4_digest 32 = .ok (.lload_n 1, 1) := by decide +kernel
theorem dX4_digest_33 : decode cX4_digest 33 = .ok (.ldc2_w 203, 3) := by decide +kernel
theorem dX4_digest_36 : decode cX4_digest 36 = .ok (.lmul, 1) := by decide +kernel
theorem dX4_digest_37 : decode cX4_digest 37 = .ok (.aload_n 0, 1) := by decide +kernel
theorem dX4_digest_38 : decode cX4_digest 38 = .ok (.getfield 27, 3) := by decide +kernel
theorem dX4_digest_41 : decode cX4_digest 41 = .ok (.getfield 103, 3) := by decide +kernel
theorem dX4_digest_44 : decode cX4_digest 44 = .ok (.i2l, 1) := by decide +kernel
theorem dX4_digest_45 : decode cX4_digest 45 = .ok (.ladd, 1) := by decide +kernel
theorem dX4_digest_46 : decode cX4_digest 46 = .ok (.lstore_n 1, 1) := by decide +kernel
theorem dX4_digest_47 : decode cX4_digest 47 = .ok (.lload_n 1, 1) := by decide +kernel
theorem dX4_digest_48 : decode cX4_digest 48 = .ok (.ldc2_w 203, 3) := by decide +kernel
theorem dX4_digest_51 : decode cX4_digest 51 = .ok (.lmul, 1) := by decide +kernel
theorem dX4_digest_52 : decode cX4_digest 52 = .ok (.aload_n 0, 1) := by decide +kernel
theorem dX4_digest_53 : decode cX4_digest 53 = .ok (.getfield 27, 3) := by decide +kernel
theorem dX4_digest_56 : decode cX4_digest 56 = .ok (.getfield 155, 3) := by decide +kernel
theorem dX4_digest_59 : decode cX4_digest 59 = .ok (.ladd, 1) := by decide +kernel
theorem dX4_digest_60 : decode cX4_digest 60 = .ok (.lstore_n 1, 1) := by decide +kernel
theorem dX4_digest_61 : decode cX4_digest 61 = .ok (.lload_n 1, 1) := by decide +kernel
theorem dX4_digest_62 : decode cX4_digest 62 = .ok (.aload_n 0, 1) := by decide +kernel
theorem dX4_digest_63 : decode cX4_digest 63 = .ok (.getfield 18, 3) := by decide +kernel
theorem dX4_digest_66 : decode cX4_digest 66 = .ok (.invokestatic 199, 3) := by decide +kernel
theorem dX4_digest_69 : decode cX4_digest 69 = .ok (.lstore_n 1, 1) := by decide +kernel
theorem dX4_digest_70 : decode cX4_digest 70 = .ok (.lload_n 1, 1) := by decide +kernel
theorem dX4_digest_71 : decode cX4_digest 71 = .ok (.aload_n 0, 1) := by decide +kernel
theorem dX4_digest_72 : decode cX4_digest 72 = .ok (.getfield 21, 3) := by decide +kernel
theorem dX4_digest_75 : decode cX4_digest 75 = .ok (.invokestatic 199, 3) := by decide +kernel
theorem dX4_digest_78 : decode cX4_digest 78 = .ok (.lreturn, 1) := by decide +kernel
theorem dX4_requireModel_0 : decode cX4_requireModel 0 = .ok (.iload_n 1, 1) := by decide +kernel
theorem dX4_requireModel_1 : decode cX4_requireModel 1 = .ok (.ifCond .lt 14, 3) := by decide +kernel
theorem dX4_requireModel_4 : decode cX4_requireModel 4 = .ok (.iload_n 1, 1) := by decide +kernel
theorem dX4_requireModel_5 : decode cX4_requireModel 5 = .ok (.aload_n 0, 1) := by decide +kernel
theorem dX4_requireModel_6 : decode cX4_requireModel 6 = .ok (.getfield 27, 3) := by decide +kernel
theorem dX4_requireModel_9 : decode cX4_requireModel 9 = .ok (.getfield 50, 3) := by decide +kernel
theorem dX4_requireModel_12 : decode cX4_requireModel 12 = .ok (.if_icmp .lt 13, 3) := by decide +kernel
theorem dX4_requireModel_15 : decode cX4_requireModel 15 = .ok (.new 127, 3) := by decide +kernel
theorem dX4_requireModel_18 : decode cX4_requireModel 18 = .ok (.dup, 1) := by decide +kernel
theorem dX4_requireModel_19 : decode cX4_requireModel 19 = .ok (.ldc 205, 2) := by decide +kernel
theorem dX4_requireModel_21 : decode cX4_requireModel 21 = .ok (.invokespecial 131, 3) := by decide +kernel
theorem dX4_requireModel_24 : decode cX4_requireModel 24 = .ok (.athrow, 1) := by decide +kernel
theorem dX4_requireModel_25 : decode cX4_requireModel 25 = .ok (.aload_n 0, 1) := by decide +kernel
theorem dX4_requireModel_26 : decode cX4_requireModel 26 = .ok (.getfield 27, 3) := by decide +kernel
theorem dX4_requireModel_29 : decode cX4_requireModel 29 = .ok (.getfield 207, 3) := by decide +kernel
theorem dX4_requireModel_32 : decode cX4_requireModel 32 = .ok (.iload_n 1, 1) := by decide +kernel
theorem dX4_requireModel_33 : decode cX4_requireModel 33 = .ok (.aaload, 1) := by decide +kernel
theorem dX4_requireModel_34 : decode cX4_requireModel 34 = .ok (.areturn, 1) := by decide +kernel
theorem dX4_requireRate_0 : decode cX4_requireRate 0 = .ok (.iload_n 0, 1) := by decide +kernel
theorem dX4_requireRate_1 : decode cX4_requireRate 1 = .ok (.iconst 2, 1) := by decide +kernel
theorem dX4_requireRate_2 : decode cX4_requireRate 2 = .ok (.if_icmp .lt 9, 3) := by decide +kernel
theorem dX4_requireRate_5 : decode cX4_requireRate 5 = .ok (.iload_n 0, 1) := by decide +kernel
theorem dX4_requireRate_6 : decode cX4_requireRate 6 = .ok (.bipush 7, 2) := by decide +kernel
theorem dX4_requireRate_8 : decode cX4_requireRate 8 = .ok (.if_icmp .le 13, 3) := by decide +kernel
theorem dX4_requireRate_11 : decode cX4_requireRate 11 = .ok (.new 38, 3) := by decide +kernel
theorem dX4_requireRate_14 : decode cX4_requireRate 14 = .ok (.dup, 1) := by decide +kernel
theorem dX4_requireRate_15 : decode cX4_requireRate 15 = .ok (.ldc 211, 2) := by decide +kernel
theorem dX4_requireRate_17 : decode cX4_requireRate 17 = .ok (.invokespecial 42, 3) := by decide +kernel
theorem dX4_requireRate_20 : decode cX4_requireRate 20 = .ok (.athrow, 1) := by decide +kernel
theorem dX4_requireRate_21 : decode cX4_requireRate 21 = .ok (.return_, 1) := by decide +kernel
theorem dX4_requireByte_0 : decode cX4_requireByte 0 = .ok (.iload_n 0, 1) := by decide +kernel
theorem dX4_requireByte_1 : decode cX4_requireByte 1 = .ok (.ifCond .lt 10, 3) := by decide +kernel
theorem dX4_requireByte_4 : decode cX4_requireByte 4 = .ok (.iload_n 0, 1) := by decide +kernel
theorem dX4_requireByte_5 : decode cX4_requireByte 5 = .ok (.sipush 256, 3) := by decide +kernel
theorem dX4_requireByte_8 : decode cX4_requireByte 8 = .ok (.if_icmp .lt 13, 3) := by decide +kernel
theorem dX4_requireByte_11 : decode cX4_requireByte 11 = .ok (.new 38, 3) := by decide +kernel
theorem dX4_requireByte_14 : decode cX4_requireByte 14 = .ok (.dup, 1) := by decide +kernel
theorem dX4_requireByte_15 : decode cX4_requireByte 15 = .ok (.ldc 213, 2) := by decide +kernel
theorem dX4_requireByte_17 : decode cX4_requireByte 17 = .ok (.invokespecial 42, 3) := by decide +kernel
theorem dX4_requireByte_20 : decode cX4_requireByte 20 = .ok (.athrow, 1) := by decide +kernel
theorem dX4_requireByte_21 : decode cX4_requireByte 21 = .ok (.return_, 1) := by decide +kernel
theorem dX4_requireRoom_0 : decode cX4_requireRoom 0 = .ok (.iload_n 1, 1) := by decide +kernel
theorem dX4_requireRoom_1 : decode cX4_requireRoom 1 = .ok (.bipush 80, 2) := by decide +kernel
theorem dX4_requireRoom_3 : decode cX4_requireRoom 3 = .ok (.aload_n 0, 1) := by decide +kernel
theorem dX4_requireRoom_4 : decode cX4_requireRoom 4 = .ok (.getfield 14, 3) := by decide +kernel
theorem dX4_requireRoom_7 : decode cX4_requireRoom 7 = .ok (.getfield 88, 3) := by decide +kernel
theorem dX4_requireRoom_10 : decode cX4_requireRoom 10 = .ok (.isub, 1) := by decide +kernel
theorem dX4_requireRoom_11 : decode cX4_requireRoom 11 = .ok (.if_icmp .le 13, 3) := by decide +kernel
theorem dX4_requireRoom_14 : decode cX4_requireRoom 14 = .ok (.new 54, 3) := by decide +kernel
theorem dX4_requireRoom_17 : decode cX4_requireRoom 17 = .ok (.dup, 1) := by decide +kernel
theorem dX4_requireRoom_18 : decode cX4_requireRoom 18 = .ok (.ldc 215, 2) := by decide +kernel
theorem dX4_requireRoom_20 : decode cX4_requireRoom 20 = .ok (.invokespecial 58, 3) := by decide +kernel
theorem dX4_requireRoom_23 : decode cX4_requireRoom 23 = .ok (.athrow, 1) := by decide +kernel
theorem dX4_requireRoom_24 : decode cX4_requireRoom 24 = .ok (.return_, 1) := by decide +kernel
set_option maxRecDepth 20000 in
theorem ggX4_requirePlace_X0_has : GoodIn wsX4_requirePlace wsX0_has := goodIn_r _ [7, 8, 9, 15, 16] (by decide +kernel) (by decide +kernel)
set_option maxRecDepth 20000 in
theorem gX4_requirePlace_X0_has : GoodIn wsX4_requirePlace (wsV RX4 217 RX0 yX0_has wsX0_has) := goodIn_app (goodIn_of _ (by decide +kernel)) ggX4_requirePlace_X0_has
set_option maxRecDepth 20000 in
theorem ggX4_requirePlace_X0_at : GoodIn wsX4_requirePlace wsX0_at := goodIn_r _ [13, 9, 14, 4, 5, 6, 7, 8, 15, 16] (by decide +kernel) (by decide +kernel)
set_option maxRecDepth 20000 in
theorem gX4_requirePlace_X0_at : GoodIn wsX4_requirePlace (wsV RX4 167 RX0 yX0_at wsX0_at) := goodIn_app (goodIn_of _ (by decide +kernel)) ggX4_requirePlace_X0_at
theorem dX4_requirePlace_0 : decode cX4_requirePlace 0 = .ok (.aload_n 0, 1) := by decide +kernel
theorem dX4_requirePlace_1 : decode cX4_requirePlace 1 = .ok (.iload_n 1, 1) := by decide +kernel
theorem dX4_requirePlace_2 : decode cX4_requirePlace 2 = .ok (.invokevirtual 217, 3) := by decide +kernel
theorem dX4_requirePlace_5 : decode cX4_requirePlace 5 = .ok (.ifCond .ne 13, 3) := by decide +kernel
theorem dX4_requirePlace_8 : decode cX4_requirePlace 8 = .ok (.new 127, 3) := by decide +kernel
theorem dX4_requirePlace_11 : decode cX4_requirePlace 11 = .ok (.dup, 1) := by decide +kernel
theorem dX4_requirePlace_12 : decode cX4_requirePlace 12 = .ok (.ldc 221, 2) := by decide +kernel
theorem dX4_requirePlace_14 : decode cX4_requirePlace 14 = .ok (.invokespecial 131, 3) := by decide +kernel
theorem dX4_requirePlace_17 : decode cX4_requirePlace 17 = .ok (.athrow, 1) := by decide +kernel
theorem dX4_requirePlace_18 : decode cX4_requirePlace 18 = .ok (.aload_n 0, 1) := by decide +kernel
theorem dX4_requirePlace_19 : decode cX4_requirePlace 19 = .ok (.iload_n 1, 1) := by decide +kernel
theorem dX4_requirePlace_20 : decode cX4_requirePlace 20 = .ok (.invokevirtual 167, 3) := by decide +kernel
theorem dX4_requirePlace_23 : decode cX4_requirePlace 23 = .ok (.ireturn, 1) := by decide +kernel
theorem dX4_shorten_0 : decode cX4_shorten 0 = .ok (.iload_n 1, 1) := by decide +kernel
theorem dX4_shorten_1 : decode cX4_shorten 1 = .ok (.ifCond .lt 11, 3) := by decide +kernel
theorem dX4_shorten_4 : decode cX4_shorten 4 = .ok (.iload_n 1, 1) := by decide +kernel
theorem dX4_shorten_5 : decode cX4_shorten 5 = .ok (.aload_n 0, 1) := by decide +kernel
theorem dX4_shorten_6 : decode cX4_shorten 6 = .ok (.getfield 88, 3) := by decide +kernel
theorem dX4_shorten_9 : decode cX4_shorten 9 = .ok (.if_icmp .le 13, 3) := by decide +kernel
theorem dX4_shorten_12 : decode cX4_shorten 12 = .ok (.new 38, 3) := by decide +kernel
theorem dX4_shorten_15 : decode cX4_shorten 15 = .ok (.dup, 1) := by decide +kernel
theorem dX4_shorten_16 : decode cX4_shorten 16 = .ok (.ldc 223, 2) := by decide +kernel
theorem dX4_shorten_18 : decode cX4_shorten 18 = .ok (.invokespecial 42, 3) := by decide +kernel
theorem dX4_shorten_21 : decode cX4_shorten 21 = .ok (.athrow, 1) := by decide +kernel
theorem dX4_shorten_22 : decode cX4_shorten 22 = .ok (.aload_n 0, 1) := by decide +kernel
theorem dX4_shorten_23 : decode cX4_shorten 23 = .ok (.dup, 1) := by decide +kernel
theorem dX4_shorten_24 : decode cX4_shorten 24 = .ok (.getfield 88, 3) := by decide +kernel
theorem dX4_shorten_27 : decode cX4_shorten 27 = .ok (.iload_n 1, 1) := by decide +kernel
theorem dX4_shorten_28 : decode cX4_shorten 28 = .ok (.isub, 1) := by decide +kernel
theorem dX4_shorten_29 : decode cX4_shorten 29 = .ok (.putfield 88, 3) := by decide +kernel
theorem dX4_shorten_32 : decode cX4_shorten 32 = .ok (.aload_n 0, 1) := by decide +kernel
theorem dX4_shorten_33 : decode cX4_shorten 33 = .ok (.getfield 88, 3) := by decide +kernel
theorem dX4_shorten_36 : decode cX4_shorten 36 = .ok (.ireturn, 1) := by decide +kernel
theorem dX4_quality_0 : decode cX4_quality 0 = .ok (.iload_n 1, 1) := by decide +kernel
theorem dX4_quality_1 : decode cX4_quality 1 = .ok (.ifCond .eq 7, 3) := by decide +kernel
theorem dX4_quality_4 : decode cX4_quality 4 = .ok (.iload_n 0, 1) := by decide +kernel
theorem dX4_quality_5 : decode cX4_quality 5 = .ok (.goto 8, 3) := by decide +kernel
theorem dX4_quality_8 : decode cX4_quality 8 = .ok (.sipush 4096, 3) := by decide +kernel
theorem dX4_quality_11 : decode cX4_quality 11 = .ok (.iload_n 0, 1) := by decide +kernel
theorem dX4_quality_12 : decode cX4_quality 12 = .ok (.isub, 1) := by decide +kernel
theorem dX4_quality_13 : decode cX4_quality 13 = .ok (.ireturn, 1) := by decide +kernel
set_option maxRecDepth 20000 in
theorem ggX4_encodeByte_X3_mixture : GoodIn wsX4_encodeByte wsX3_mixture := goodIn_r _ [8, 9, 10, 11, 12, 13, 14, 15, 16, 17, 18, 19, 20, 21, 22, 23, 24, 25, 26, 120, 121, 122, 123, 124, 125, 126, 127, 128, 129, 130, 131, 132, 133, 134, 135, 136] (by decide +kernel) (by decide +kernel)
set_option maxRecDepth 20000 in
theorem gX4_encodeByte_X3_mixture : GoodIn wsX4_encodeByte (wsV RX4 106 RX3 yX3_mixture wsX3_mixture) := goodIn_app (goodIn_of _ (by decide +kernel)) ggX4_encodeByte_X3_mixture
set_option maxRecDepth 20000 in
theorem ggX4_encodeByte_X1_middle : GoodIn wsX4_encodeByte wsX1_middle := goodIn_r _ [31, 32, 33, 34, 137, 138, 139, 140] (by decide +kernel) (by decide +kernel)
set_option maxRecDepth 20000 in
theorem gX4_encodeByte_X1_middle : GoodIn wsX4_encodeByte (wsV RX4 225 RX1 yX1_middle wsX1_middle) := goodIn_app (goodIn_of _ (by decide +kernel)) ggX4_encodeByte_X1_middle
set_option maxRecDepth 20000 in
theorem ggX4_encodeByte_X1_narrow : GoodIn wsX4_encodeByte wsX1_narrow := goodIn_r _ [38, 33, 32, 137, 138, 139, 140] (by decide +kernel) (by decide +kernel)
set_option maxRecDepth 20000 in
theorem gX4_encodeByte_X1_narrow : GoodIn wsX4_encodeByte (wsV RX4 229 RX1 yX1_narrow wsX1_narrow) := goodIn_app (goodIn_of _ (by decide +kernel)) ggX4_encodeByte_X1_narrow
set_option maxRecDepth 20000 in
theorem ggX4_encodeByte_X1_isSettled : GoodIn wsX4_encodeByte wsX1_isSettled := goodIn_r _ [42, 32, 33, 43, 44, 30, 45, 137, 138, 139, 140] (by decide +kernel) (by decide +kernel)
set_option maxRecDepth 20000 in
theorem gX4_encodeByte_X1_isSettled : GoodIn wsX4_encodeByte (wsV RX4 233 RX1 yX1_isSettled wsX1_isSettled) := goodIn_app (goodIn_of _ (by decide +kernel)) ggX4_encodeByte_X1_isSettled
set_option maxRecDepth 20000 in
theorem ggX4_encodeByte_X1_shift : GoodIn wsX4_encodeByte wsX1_shift := goodIn_r _ [49, 32, 50, 33, 51, 43, 44, 30, 45, 137, 138, 139, 140] (by decide +kernel) (by decide +kernel)
set_option maxRecDepth 20000 in
theorem gX4_encodeByte_X1_shift : GoodIn wsX4_encodeByte (wsV RX4 174 RX1 yX1_shift wsX1_shift) := goodIn_app (goodIn_of _ (by decide +kernel)) ggX4_encodeByte_X1_shift
set_option maxRecDepth 20000 in
theorem ggX4_encodeByte_X0_append : GoodIn wsX4_encodeByte wsX0_append := goodIn_r _ [56, 57, 58, 141, 142] (by decide +kernel) (by decide +kernel)
set_option maxRecDepth 20000 in
theorem gX4_encodeByte_X0_append : GoodIn wsX4_encodeByte (wsV RX4 85 RX0 yX0_append wsX0_append) := goodIn_app (goodIn_of _ (by decide +kernel)) ggX4_encodeByte_X0_append
set_option maxRecDepth 20000 in
theorem ggX4_encodeByte_X3_learn : GoodIn wsX4_encodeByte wsX3_learn := goodIn_r _ [62, 63, 9, 10, 12, 64, 65, 66, 67, 68, 69, 70, 23, 71, 72, 73, 74, 14, 15, 16, 75, 18, 19, 76, 21, 22, 24, 25, 26, 77, 78, 79, 80, 81, 82, 83, 84, 85, 86, 87, 7, 88, 89, 90, 91, 92, 93, 94, 95, 96, 97, 98, 99, 100, 101, 102, 103, 104, 105, 106, 107, 108, 109, 110, 111, 112, 113, 114, 120, 121, 122, 123, 124, 125, 126, 127, 128, 129, 130, 131, 132, 133, 134, 135, 136] (by decide +kernel) (by decide +kernel)
set_option maxRecDepth 20000 in
theorem gX4_encodeByte_X3_learn : GoodIn wsX4_encodeByte (wsV RX4 110 RX3 yX3_learn wsX3_learn) := goodIn_app (goodIn_of _ (by decide +kernel)) ggX4_encodeByte_X3_learn
theorem dX4_encodeByte_0 : decode cX4_encodeByte 0 = .ok (.bipush 7, 2) := by decide +kernel
theorem dX4_encodeByte_2 : decode cX4_encodeByte 2 = .ok (.istore_n 2, 1) := by decide +kernel
theorem dX4_encodeByte_3 : decode cX4_encodeByte 3 = .ok (.iload_n 2, 1) := by decide +kernel
theorem dX4_encodeByte_4 : decode cX4_encodeByte 4 = .ok (.ifCond .lt 99, 3) := by decide +kernel
theorem dX4_encodeByte_7 : decode cX4_encodeByte 7 = .ok (.iload_n 1, 1) := by decide +kernel
theorem dX4_encodeByte_8 : decode cX4_encodeByte 8 = .ok (.iload_n 2, 1) := by decide +kernel
theorem dX4_encodeByte_9 : decode cX4_encodeByte 9 = .ok (.iushr, 1) := by decide +kernel
theorem dX4_encodeByte_10 : decode cX4_encodeByte 10 = .ok (.iconst 1, 1) := by decide +kernel
theorem dX4_encodeByte_11 : decode cX4_encodeByte 11 = .ok (.iand, 1) := by decide +kernel
theorem dX4_encodeByte_12 : decode cX4_encodeByte 12 = .ok (.iconst 1, 1) := by decide +kernel
theorem dX4_encodeByte_13 : decode cX4_encodeByte 13 = .ok (.if_icmp .ne 7, 3) := by decide +kernel
theorem dX4_encodeByte_16 : decode cX4_encodeByte 16 = .ok (.iconst 1, 1) := by decide +kernel
theorem dX4_encodeByte_17 : decode cX4_encodeByte 17 = .ok (.goto 4, 3) := by decide +kernel
theorem dX4_encodeByte_20 : decode cX4_encodeByte 20 = .ok (.iconst 0, 1) := by decide +kernel
theorem dX4_encodeByte_21 : decode cX4_encodeByte 21 = .ok (.istore_n 3, 1) := by decide +kernel
theorem dX4_encodeByte_22 : decode cX4_encodeByte 22 = .ok (.aload_n 0, 1) := by decide +kernel
theorem dX4_encodeByte_23 : decode cX4_encodeByte 23 = .ok (.getfield 27, 3) := by decide +kernel
theorem dX4_encodeByte_26 : decode cX4_encodeByte 26 = .ok (.invokevirtual 106, 3) := by decide +kernel
theorem dX4_encodeByte_29 : decode cX4_encodeByte 29 = .ok (.istore 4, 2) := by decide +kernel
theorem dX4_encodeByte_31 : decode cX4_encodeByte 31 = .ok (.aload_n 0, 1) := by decide +kernel
theorem dX4_encodeByte_32 : decode cX4_encodeByte 32 = .ok (.getfield 34, 3) := by decide +kernel
theorem dX4_encodeByte_35 : decode cX4_encodeByte 35 = .ok (.iload_n 3, 1) := by decide +kernel
theorem dX4_encodeByte_36 : decode cX4_encodeByte 36 = .ok (.aload_n 0, 1) := by decide +kernel
theorem dX4_encodeByte_37 : decode cX4_encodeByte 37 = .ok (.getfield 34, 3) := by decide +kernel
theorem dX4_encodeByte_40 : decode cX4_encodeByte 40 = .ok (.iload 4, 2) := by decide +kernel
theorem dX4_encodeByte_42 : decode cX4_encodeByte 42 = .ok (.invokevirtual 225, 3) := by decide +kernel
theorem dX4_encodeByte_45 : decode cX4_encodeByte 45 = .ok (.invokevirtual 229, 3) := by decide +kernel
theorem dX4_encodeByte_48 : decode cX4_encodeByte 48 = .ok (.iconst 0, 1) := by decide +kernel
theorem dX4_encodeByte_49 : decode cX4_encodeByte 49 = .ok (.istore 5, 2) := by decide +kernel
theorem dX4_encodeByte_51 : decode cX4_encodeByte 51 = .ok (.iload 5, 2) := by decide +kernel
theorem dX4_encodeByte_53 : decode cX4_encodeByte 53 = .ok (.iconst 4, 1) := by decide +kernel
theorem dX4_encodeByte_54 : decode cX4_encodeByte 54 = .ok (.if_icmp .ge 33, 3) := by decide +kernel
theorem dX4_encodeByte_57 : decode cX4_encodeByte 57 = .ok (.aload_n 0, 1) := by decide +kernel
theorem dX4_encodeByte_58 : decode cX4_encodeByte 58 = .ok (.getfield 34, 3) := by decide +kernel
theorem dX4_encodeByte_61 : decode cX4_encodeByte 61 = .ok (.invokevirtual 233, 3) := by decide +kernel
theorem dX4_encodeByte_64 : decode cX4_encodeByte 64 = .ok (.ifCond .eq 23, 3) := by decide +kernel
theorem dX4_encodeByte_67 : decode cX4_encodeByte 67 = .ok (.aload_n 0, 1) := by decide +kernel
theorem dX4_encodeByte_68 : decode cX4_encodeByte 68 = .ok (.getfield 18, 3) := by decide +kernel
theorem dX4_encodeByte_71 : decode cX4_encodeByte 71 = .ok (.aload_n 0, 1) := by decide +kernel
theorem dX4_encodeByte_72 : decode cX4_encodeByte 72 = .ok (.getfield 34, 3) := by decide +kernel
theorem dX4_encodeByte_75 : decode cX4_encodeByte 75 = .ok (.invokevirtual 174, 3) := by decide +kernel
theorem dX4_encodeByte_78 : decode cX4_encodeByte 78 = .ok (.invokevirtual 85, 3) := by decide +kernel
theorem dX4_encodeByte_81 : decode cX4_encodeByte 81 = .ok (.iinc 5 1, 3) := by decide +kernel
theorem dX4_encodeByte_84 : decode cX4_encodeByte 84 = .ok (.goto (-33), 3) := by decide +kernel
theorem dX4_encodeByte_87 : decode cX4_encodeByte 87 = .ok (.aload_n 0, 1) := by decide +kernel
theorem dX4_encodeByte_88 : decode cX4_encodeByte 88 = .ok (.getfield 27, 3) := by decide +kernel
theorem dX4_encodeByte_91 : decode cX4_encodeByte 91 = .ok (.iload_n 3, 1) := by decide +kernel
theorem dX4_encodeByte_92 : decode cX4_encodeByte 92 = .ok (.iload 4, 2) := by decide +kernel
theorem dX4_encodeByte_94 : decode cX4_encodeByte 94 = .ok (.invokevirtual 110, 3) := by decide +kernel
theorem dX4_encodeByte_97 : decode cX4_encodeByte 97 = .ok (.iinc 2 (-1), 3) := by decide +kernel
theorem dX4_encodeByte_100 : decode cX4_encodeByte 100 = .ok (.goto (-97), 3) := by decide +kernel
theorem dX4_encodeByte_103 : decode cX4_encodeByte 103 = .ok (.return_, 1) := by decide +kernel
set_option maxRecDepth 20000 in
theorem ggX4_decodeByte_X3_mixture : GoodIn wsX4_decodeByte wsX3_mixture := goodIn_r _ [9, 10, 11, 12, 13, 14, 15, 16, 17, 18, 19, 20, 21, 22, 23, 24, 25, 26, 27, 135, 136, 137, 138, 139, 140, 141, 142, 143, 144, 145, 146, 147, 148, 149, 150, 151] (by decide +kernel) (by decide +kernel)
set_option maxRecDepth 20000 in
theorem gX4_decodeByte_X3_mixture : GoodIn wsX4_decodeByte (wsV RX4 106 RX3 yX3_mixture wsX3_mixture) := goodIn_app (goodIn_of _ (by decide +kernel)) ggX4_decodeByte_X3_mixture
set_option maxRecDepth 20000 in
theorem ggX4_decodeByte_X1_middle : GoodIn wsX4_decodeByte wsX1_middle := goodIn_r _ [32, 33, 34, 35, 131, 132, 133, 134] (by decide +kernel) (by decide +kernel)
set_option maxRecDepth 20000 in
theorem gX4_decodeByte_X1_middle : GoodIn wsX4_decodeByte (wsV RX4 225 RX1 yX1_middle wsX1_middle) := goodIn_app (goodIn_of _ (by decide +kernel)) ggX4_decodeByte_X1_middle
set_option maxRecDepth 20000 in
theorem ggX4_decodeByte_X1_narrow : GoodIn wsX4_decodeByte wsX1_narrow := goodIn_r _ [39, 34, 33, 131, 132, 133, 134] (by decide +kernel) (by decide +kernel)
set_option maxRecDepth 20000 in
theorem gX4_decodeByte_X1_narrow : GoodIn wsX4_decodeByte (wsV RX4 229 RX1 yX1_narrow wsX1_narrow) := goodIn_app (goodIn_of _ (by decide +kernel)) ggX4_decodeByte_X1_narrow
set_option maxRecDepth 20000 in
theorem ggX4_decodeByte_X1_isSettled : GoodIn wsX4_decodeByte wsX1_isSettled := goodIn_r _ [43, 33, 34, 44, 45, 31, 46, 131, 132, 133, 134] (by decide +kernel) (by decide +kernel)
set_option maxRecDepth 20000 in
theorem gX4_decodeByte_X1_isSettled : GoodIn wsX4_decodeByte (wsV RX4 233 RX1 yX1_isSettled wsX1_isSettled) := goodIn_app (goodIn_of _ (by decide +kernel)) ggX4_decodeByte_X1_isSettled
set_option maxRecDepth 20000 in
theorem ggX4_decodeByte_X1_shift : GoodIn wsX4_decodeByte wsX1_shift := goodIn_r _ [50, 33, 51, 34, 52, 44, 45, 31, 46, 131, 132, 133, 134] (by decide +kernel) (by decide +kernel)
set_option maxRecDepth 20000 in
theorem gX4_decodeByte_X1_shift : GoodIn wsX4_decodeByte (wsV RX4 174 RX1 yX1_shift wsX1_shift) := goodIn_app (goodIn_of _ (by decide +kernel)) ggX4_decodeByte_X1_shift
set_option maxRecDepth 20000 in
theorem ggX4_decodeByte_X1_pull : GoodIn wsX4_decodeByte wsX1_pull := goodIn_r _ [56, 57, 51, 58, 59, 60, 61, 62, 63, 64, 65, 66, 67, 68, 69, 131, 132, 133, 134, 152, 153] (by decide +kernel) (by decide +kernel)
set_option maxRecDepth 20000 in
theorem gX4_decodeByte_X1_pull : GoodIn wsX4_decodeByte (wsV RX4 240 RX1 yX1_pull wsX1_pull) := goodIn_app (goodIn_of _ (by decide +kernel)) ggX4_decodeByte_X1_pull
set_option maxRecDepth 20000 in
theorem ggX4_decodeByte_X3_learn : GoodIn wsX4_decodeByte wsX3_learn := goodIn_r _ [73, 74, 10, 11, 13, 75, 76, 77, 78, 79, 80, 81, 24, 82, 83, 84, 85, 15, 16, 17, 86, 19, 20, 87, 22, 23, 25, 26, 27, 88, 89, 90, 91, 92, 93, 94, 95, 96, 97, 98, 8, 99, 100, 101, 102, 103, 104, 105, 106, 107, 108, 109, 110, 111, 112, 113, 114, 115, 116, 117, 118, 119, 120, 121, 122, 123, 124, 125, 135, 136, 137, 138, 139, 140, 141, 142, 143, 144, 145, 146, 147, 148, 149, 150, 151] (by decide +kernel) (by decide +kernel)
set_option maxRecDepth 20000 in
theorem gX4_decodeByte_X3_learn : GoodIn wsX4_decodeByte (wsV RX4 110 RX3 yX3_learn wsX3_learn) := goodIn_app (goodIn_of _ (by decide +kernel)) ggX4_decodeByte_X3_learn
theorem dX4_decodeByte_0 : decode cX4_decodeByte 0 = .ok (.iconst 0, 1) := by decide +kernel
theorem dX4_decodeByte_1 : decode cX4_decodeByte 1 = .ok (.istore_n 1, 1) := by decide +kernel
theorem dX4_decodeByte_2 : decode cX4_decodeByte 2 = .ok (.iconst 0, 1) := by decide +kernel
theorem dX4_decodeByte_3 : decode cX4_decodeByte 3 = .ok (.istore_n 2, 1) := by decide +kernel
theorem dX4_decodeByte_4 : decode cX4_decodeByte 4 = .ok (.iload_n 2, 1) := by decide +kernel
theorem dX4_decodeByte_5 : decode cX4_decodeByte 5 = .ok (.bipush 8, 2) := by decide +kernel
theorem dX4_decodeByte_7 : decode cX4_decodeByte 7 = .ok (.if_icmp .ge 127, 3) := by decide +kernel
theorem dX4_decodeByte_10 : decode cX4_decodeByte 10 = .ok (.aload_n 0, 1) := by decide +kernel
theorem dX4_decodeByte_11 : decode cX4_decodeByte 11 = .ok (.getfield 27, 3) := by decide +kernel
theorem dX4_decodeByte_14 : decode cX4_decodeByte 14 = .ok (.invokevirtual 106, 3) := by decide +kernel
theorem dX4_decodeByte_17 : decode cX4_decodeByte 17 = .ok (.istore_n 3, 1) := by decide +kernel
theorem dX4_decodeByte_18 : decode cX4_decodeByte 18 = .ok (.aload_n 0, 1) := by decide +kernel
theorem dX4_decodeByte_19 : decode cX4_decodeByte 19 = .ok (.getfield 34, 3) := by decide +kernel
theorem dX4_decodeByte_22 : decode cX4_decodeByte 22 = .ok (.iload_n 3, 1) := by decide +kernel
theorem dX4_decodeByte_23 : decode cX4_decodeByte 23 = .ok (.invokevirtual 225, 3) := by decide +kernel
theorem dX4_decodeByte_26 : decode cX4_decodeByte 26 = .ok (.lstore 4, 2) := by decide +kernel
theorem dX4_decodeByte_28 : decode cX4_decodeByte 28 = .ok (.aload_n 0, 1) := by decide +kernel
theorem dX4_decodeByte_29 : decode cX4_decodeByte 29 = .ok (.getfield 34, 3) := by decide +kernel
theorem dX4_decodeByte_32 : decode cX4_decodeByte 32 = .ok (.getfield 237, 3) := by decide +kernel
theorem dX4_decodeByte_35 : decode cX4_decodeByte 35 = .ok (.lload 4, 2) := by decide +kernel
theorem dX4_decodeByte_37 : decode cX4_decodeByte 37 = .ok (.lcmp, 1) := by decide +kernel
theorem dX4_decodeByte_38 : decode cX4_decodeByte 38 = .ok (.ifCond .gt 7, 3) := by decide +kernel
theorem dX4_decodeByte_41 : decode cX4_decodeByte 41 = .ok (.iconst 1, 1) := by decide +kernel
theorem dX4_decodeByte_42 : decode cX4_decodeByte 42 = .ok (.goto 4, 3) := by decide +kernel
theorem dX4_decodeByte_45 : decode cX4_decodeByte 45 = .ok (.iconst 0, 1) := by decide +kernel
theorem dX4_decodeByte_46 : decode cX4_decodeByte 46 = .ok (.istore 6, 2) := by decide +kernel
theorem dX4_decodeByte_48 : decode cX4_decodeByte 48 = .ok (.aload_n 0, 1) := by decide +kernel
theorem dX4_decodeByte_49 : decode cX4_decodeByte 49 = .ok (.getfield 34, 3) := by decide +kernel
theorem dX4_decodeByte_52 : decode cX4_decodeByte 52 = .ok (.iload 6, 2) := by decide +kernel
theorem dX4_decodeByte_54 : decode cX4_decodeByte 54 = .ok (.lload 4, 2) := by decide +kernel
theorem dX4_decodeByte_56 : decode cX4_decodeByte 56 = .ok (.invokevirtual 229, 3) := by decide +kernel
theorem dX4_decodeByte_59 : decode cX4_decodeByte 59 = .ok (.iconst 0, 1) := by decide +kernel
theorem dX4_decodeByte_60 : decode cX4_decodeByte 60 = .ok (.istore 7, 2) := by decide +kernel
theorem dX4_decodeByte_62 : decode cX4_decodeByte 62 = .ok (.iload 7, 2) := by decide +kernel
theorem dX4_decodeByte_64 : decode cX4_decodeByte 64 = .ok (.iconst 4, 1) := by decide +kernel
theorem dX4_decodeByte_65 : decode cX4_decodeByte 65 = .ok (.if_icmp .ge 38, 3) := by decide +kernel
theorem dX4_decodeByte_68 : decode cX4_decodeByte 68 = .ok (.aload_n 0, 1) := by decide +kernel
theorem dX4_decodeByte_69 : decode cX4_decodeByte 69 = .ok (.getfield 34, 3) := by decide +kernel
theorem dX4_decodeByte_72 : decode cX4_decodeByte 72 = .ok (.invokevirtual 233, 3) := by decide +kernel
theorem dX4_decodeByte_75 : decode cX4_decodeByte 75 = .ok (.ifCond .eq 28, 3) := by decide +kernel
theorem dX4_decodeByte_78 : decode cX4_decodeByte 78 = .ok (.aload_n 0, 1) := by decide +kernel
theorem dX4_decodeByte_79 : decode cX4_decodeByte 79 = .ok (.getfield 34, 3) := by decide +kernel
theorem dX4_decodeByte_82 : decode cX4_decodeByte 82 = .ok (.invokevirtual 174, 3) := by decide +kernel
theorem dX4_decodeByte_85 : decode cX4_decodeByte 85 = .ok (.pop, 1) := by decide +kernel
theorem dX4_decodeByte_86 : decode cX4_decodeByte 86 = .ok (.aload_n 0, 1) := by decide +kernel
theorem dX4_decodeByte_87 : decode cX4_decodeByte 87 = .ok (.getfield 34, 3) := by decide +kernel
theorem dX4_decodeByte_90 : decode cX4_decodeByte 90 = .ok (.aload_n 0, 1) := by decide +kernel
theorem dX4_decodeByte_91 : decode cX4_decodeByte 91 = .ok (.getfield 18, 3) := by decide +kernel
theorem dX4_decodeByte_94 : decode cX4_decodeByte 94 = .ok (.invokevirtual 240, 3) := by decide +kernel
theorem dX4_decodeByte_97 : decode cX4_decodeByte 97 = .ok (.iinc 7 1, 3) := by decide +kernel
theorem dX4_decodeByte_100 : decode cX4_decodeByte 100 = .ok (.goto (-38), 3) := by decide +kernel
theorem dX4_decodeByte_103 : decode cX4_decodeByte 103 = .ok (.aload_n 0, 1) := by decide +kernel
theorem dX4_decodeByte_104 : decode cX4_decodeByte 104 = .ok (.getfield 27, 3) := by decide +kernel
theorem dX4_decodeByte_107 : decode cX4_decodeByte 107 = .ok (.iload 6, 2) := by decide +kernel
theorem dX4_decodeByte_109 : decode cX4_decodeByte 109 = .ok (.iload_n 3, 1) := by decide +kernel
theorem dX4_decodeByte_110 : decode cX4_decodeByte 110 = .ok (.invokevirtual 110, 3) := by decide +kernel
theorem dX4_decodeByte_113 : decode cX4_decodeByte 113 = .ok (.iconst 2, 1) := by decide +kernel
theorem dX4_decodeByte_114 : decode cX4_decodeByte 114 = .ok (.iload_n 1, 1) := by decide +kernel
theorem dX4_decodeByte_115 : decode cX4_decodeByte 115 = .ok (.imul, 1) := by decide +kernel
theorem dX4_decodeByte_116 : decode cX4_decodeByte 116 = .ok (.iload 6, 2) := by decide +kernel
theorem dX4_decodeByte_118 : decode cX4_decodeByte 118 = .ok (.ifCond .eq 7, 3) := by decide +kernel
theorem dX4_decodeByte_121 : decode cX4_decodeByte 121 = .ok (.iconst 1, 1) := by decide +kernel
theorem dX4_decodeByte_122 : decode cX4_decodeByte 122 = .ok (.goto 4, 3) := by decide +kernel
theorem dX4_decodeByte_125 : decode cX4_decodeByte 125 = .ok (.iconst 0, 1) := by decide +kernel
theorem dX4_decodeByte_126 : decode cX4_decodeByte 126 = .ok (.iadd, 1) := by decide +kernel
theorem dX4_decodeByte_127 : decode cX4_decodeByte 127 = .ok (.istore_n 1, 1) := by decide +kernel
theorem dX4_decodeByte_128 : decode cX4_decodeByte 128 = .ok (.iinc 2 1, 3) := by decide +kernel
theorem dX4_decodeByte_131 : decode cX4_decodeByte 131 = .ok (.goto (-127), 3) := by decide +kernel
theorem dX4_decodeByte_134 : decode cX4_decodeByte 134 = .ok (.iload_n 1, 1) := by decide +kernel
theorem dX4_decodeByte_135 : decode cX4_decodeByte 135 = .ok (.ireturn, 1) := by decide +kernel
set_option maxRecDepth 20000 in
theorem ggX4_differences_X0_has : GoodIn wsX4_differences wsX0_has := goodIn_r _ [12, 13, 14, 25, 26] (by decide +kernel) (by decide +kernel)
set_option maxRecDepth 20000 in
theorem gX4_differences_X0_has : GoodIn wsX4_differences (wsV RX4 217 RX0 yX0_has wsX0_has) := goodIn_app (goodIn_of _ (by decide +kernel)) ggX4_differences_X0_has
set_option maxRecDepth 20000 in
theorem ggX4_differences_X0_at : GoodIn wsX4_differences wsX0_at := goodIn_r _ [18, 14, 19, 9, 10, 11, 12, 13, 25, 26] (by decide +kernel) (by decide +kernel)
set_option maxRecDepth 20000 in
theorem gX4_differences_X0_at : GoodIn wsX4_differences (wsV RX4 167 RX0 yX0_at wsX0_at) := goodIn_app (goodIn_of _ (by decide +kernel)) ggX4_differences_X0_at
theorem dX4_differences_0 : decode cX4_differences 0 = .ok (.aload_n 0, 1) := by decide +kernel
theorem dX4_differences_1 : decode cX4_differences 1 = .ok (.getfield 14, 3) := by decide +kernel
theorem dX4_differences_4 : decode cX4_differences 4 = .ok (.getfield 88, 3) := by decide +kernel
theorem dX4_differences_7 : decode cX4_differences 7 = .ok (.aload_n 0, 1) := by decide +kernel
theorem dX4_differences_8 : decode cX4_differences 8 = .ok (.getfield 21, 3) := by decide +kernel
theorem dX4_differences_11 : decode cX4_differences 11 = .ok (.getfield 88, 3) := by decide +kernel
theorem dX4_differences_14 : decode cX4_differences 14 = .ok (.invokestatic 243, 3) := by decide +kernel
theorem dX4_differences_17 : decode cX4_differences 17 = .ok (.istore_n 1, 1) := by decide +kernel
theorem dX4_differences_18 : decode cX4_differences 18 = .ok (.iconst 0, 1) := by decide +kernel
theorem dX4_differences_19 : decode cX4_differences 19 = .ok (.istore_n 2, 1) := by decide +kernel
theorem dX4_differences_20 : decode cX4_differences 20 = .ok (.iconst 0, 1) := by decide +kernel
theorem dX4_differences_21 : decode cX4_differences 21 = .ok (.istore_n 3, 1) := by decide +kernel
theorem dX4_differences_22 : decode cX4_differences 22 = .ok (.iload_n 3, 1) := by decide +kernel
theorem dX4_differences_23 : decode cX4_differences 23 = .ok (.iload_n 1, 1) := by decide +kernel
theorem dX4_differences_24 : decode cX4_differences 24 = .ok (.if_icmp .ge 65, 3) := by decide +kernel
theorem dX4_differences_27 : decode cX4_differences 27 = .ok (.aload_n 0, 1) := by decide +kernel
theorem dX4_differences_28 : decode cX4_differences 28 = .ok (.getfield 14, 3) := by decide +kernel
theorem dX4_differences_31 : decode cX4_differences 31 = .ok (.iload_n 3, 1) := by decide +kernel
theorem dX4_differences_32 : decode cX4_differences 32 = .ok (.invokevirtual 217, 3) := by decide +kernel
theorem dX4_differences_35 : decode cX4_differences 35 = .ok (.ifCond .eq 37, 3) := by decide +kernel
theorem dX4_differences_38 : decode cX4_differences 38 = .ok (.aload_n 0, 1) := by decide +kernel
theorem dX4_differences_39 : decode cX4_differences 39 = .ok (.getfield 21, 3) := by decide +kernel
theorem dX4_differences_42 : decode cX4_differences 42 = .ok (.iload_n 3, 1) := by decide +kernel
theorem dX4_differences_43 : decode cX4_differences 43 = .ok (.invokevirtual 217, 3) := by decide +kernel
theorem dX4_differences_46 : decode cX4_differences 46 = .ok (.ifCond .eq 26, 3) := by decide +kernel
theorem dX4_differences_49 : decode cX4_differences 49 = .ok (.aload_n 0, 1) := by decide +kernel
theorem dX4_differences_50 : decode cX4_differences 50 = .ok (.getfield 14, 3) := by decide +kernel
theorem dX4_differences_53 : decode cX4_differences 53 = .ok (.iload_n 3, 1) := by decide +kernel
theorem dX4_differences_54 : decode cX4_differences 54 = .ok (.invokevirtual 167, 3) := by decide +kernel
theorem dX4_differences_57 : decode cX4_differences 57 = .ok (.aload_n 0, 1) := by decide +kernel
theorem dX4_differences_58 : decode cX4_differences 58 = .ok (.getfield 21, 3) := by decide +kernel
theorem dX4_differences_61 : decode cX4_differences 61 = .ok (.iload_n 3, 1) := by decide +kernel
theorem dX4_differences_62 : decode cX4_differences 62 = .ok (.invokevirtual 167, 3) := by decide +kernel
theorem dX4_differences_65 : decode cX4_differences 65 = .ok (.if_icmp .ne 7, 3) := by decide +kernel
theorem dX4_differences_68 : decode cX4_differences 68 = .ok (.iconst 1, 1) := by decide +kernel
theorem dX4_differences_69 : decode cX4_differences 69 = .ok (.goto 4, 3) := by decide +kernel
theorem dX4_differences_72 : decode cX4_differences 72 = .ok (.iconst 0, 1) := by decide +kernel
theorem dX4_differences_73 : decode cX4_differences 73 = .ok (.istore 4, 2) := by decide +kernel
theorem dX4_differences_75 : decode cX4_differences 75 = .ok (.iload 4, 2) := by decide +kernel
theorem dX4_differences_77 : decode cX4_differences 77 = .ok (.ifCond .ne 6, 3) := by decide +kernel
theorem dX4_differences_80 : decode cX4_differences 80 = .ok (.iinc 2 1, 3) := by decide +kernel
theorem dX4_differences_83 : decode cX4_differences 83 = .ok (.iinc 3 1, 3) := by decide +kernel
theorem dX4_differences_86 : decode cX4_differences 86 = .ok (.goto (-64), 3) := by decide +kernel
theorem dX4_differences_89 : decode cX4_differences 89 = .ok (.iload_n 2, 1) := by decide +kernel
theorem dX4_differences_90 : decode cX4_differences 90 = .ok (.ireturn, 1) := by decide +kernel
theorem dX4_digestModels_0 : decode cX4_digestModels 0 = .ok (.lload_n 1, 1) := by decide +kernel
theorem dX4_digestModels_1 : decode cX4_digestModels 1 = .ok (.ldc2_w 203, 3) := by decide +kernel
theorem dX4_digestModels_4 : decode cX4_digestModels 4 = .ok (.lmul, 1) := by decide +kernel
theorem dX4_digestModels_5 : decode cX4_digestModels 5 = .ok (.aload_n 0, 1) := by decide +kernel
theorem dX4_digestModels_6 : decode cX4_digestModels 6 = .ok (.getfield 27, 3) := by decide +kernel
theorem dX4_digestModels_9 : decode cX4_digestModels 9 = .ok (.getfield 50, 3) := by decide +kernel
theorem dX4_digestModels_12 : decode cX4_digestModels 12 = .ok (.i2l, 1) := by decide +kernel
theorem dX4_digestModels_13 : decode cX4_digestModels 13 = .ok (.ladd, 1) := by decide +kernel
theorem dX4_digestModels_14 : decode cX4_digestModels 14 = .ok (.lstore_n 3, 1) := by decide +kernel
theorem dX4_digestModels_15 : decode cX4_digestModels 15 = .ok (.iconst 0, 1) := by decide +kernel
theorem dX4_digestModels_16 : decode cX4_digestModels 16 = .ok (.istore 5, 2) := by decide +kernel
theorem dX4_digestModels_18 : decode cX4_digestModels 18 = .ok (.iload 5, 2) := by decide +kernel
theorem dX4_digestModels_20 : decode cX4_digestModels 20 = .ok (.aload_n 0, 1) := by decide +kernel
theorem dX4_digestModels_21 : decode cX4_digestModels 21 = .ok (.getfield 27, 3) := by decide +kernel
theorem dX4_digestModels_24 : decode cX4_digestModels 24 = .ok (.getfield 50, 3) := by decide +kernel
theorem dX4_digestModels_27 : decode cX4_digestModels 27 = .ok (.if_icmp .ge 105, 3) := by decide +kernel
theorem dX4_digestModels_30 : decode cX4_digestModels 30 = .ok (.aload_n 0, 1) := by decide +kernel
theorem dX4_digestModels_31 : decode cX4_digestModels 31 = .ok (.getfield 27, 3) := by decide +kernel
theorem dX4_digestModels_34 : decode cX4_digestModels 34 = .ok (.getfield 207, 3) := by decide +kernel
theorem dX4_digestModels_37 : decode cX4_digestModels 37 = .ok (.iload 5, 2) := by decide +kernel
theorem dX4_digestModels_39 : decode cX4_digestModels 39 = .ok (.aaload, 1) := by decide +kernel
theorem dX4_digestModels_40 : decode cX4_digestModels 40 = .ok (.astore 6, 2) := by decide +kernel
theorem dX4_digestModels_42 : decode cX4_digestModels 42 = .ok (.lload_n 3, 1) := by decide +kernel
theorem dX4_digestModels_43 : decode cX4_digestModels 43 = .ok (.ldc2_w 203, 3) := by decide +kernel
theorem dX4_digestModels_46 : decode cX4_digestModels 46 = .ok (.lmul, 1) := by decide +kernel
theorem dX4_digestModels_47 : decode cX4_digestModels 47 = .ok (.aload 6, 2) := by decide +kernel
theorem dX4_digestModels_49 : decode cX4_digestModels 49 = .ok (.getfield 249, 3) := by decide +kernel
theorem dX4_digestModels_52 : decode cX4_digestModels 52 = .ok (.i2l, 1) := by decide +kernel
theorem dX4_digestModels_53 : decode cX4_digestModels 53 = .ok (.ladd, 1) := by decide +kernel
theorem dX4_digestModels_54 : decode cX4_digestModels 54 = .ok (.lstore_n 3, 1) := by decide +kernel
theorem dX4_digestModels_55 : decode cX4_digestModels 55 = .ok (.lload_n 3, 1) := by decide +kernel
theorem dX4_digestModels_56 : decode cX4_digestModels 56 = .ok (.ldc2_w 203, 3) := by decide +kernel
theorem dX4_digestModels_59 : decode cX4_digestModels 59 = .ok (.lmul, 1) := by decide +kernel
theorem dX4_digestModels_60 : decode cX4_digestModels 60 = .ok (.aload 6, 2) := by decide +kernel
theorem dX4_digestModels_62 : decode cX4_digestModels 62 = .ok (.getfield 72, 3) := by decide +kernel
theorem dX4_digestModels_65 : decode cX4_digestModels 65 = .ok (.i2l, 1) := by decide +kernel
theorem dX4_digestModels_66 : decode cX4_digestModels 66 = .ok (.ladd, 1) := by decide +kernel
theorem dX4_digestModels_67 : decode cX4_digestModels 67 = .ok (.lstore_n 3, 1) := by decide +kernel
theorem dX4_digestModels_68 : decode cX4_digestModels 68 = .ok (.lload_n 3, 1) := by decide +kernel
theorem dX4_digestModels_69 : decode cX4_digestModels 69 = .ok (.ldc2_w 203, 3) := by decide +kernel
theorem dX4_digestModels_72 : decode cX4_digestModels 72 = .ok (.lmul, 1) := by decide +kernel
theorem dX4_digestModels_73 : decode cX4_digestModels 73 = .ok (.aload 6, 2) := by decide +kernel
theorem dX4_digestModels_75 : decode cX4_digestModels 75 = .ok (.getfield 252, 3) := by decide +kernel
theorem dX4_digestModels_78 : decode cX4_digestModels 78 = .ok (.i2l, 1) := by decide +kernel
theorem dX4_digestModels_79 : decode cX4_digestModels 79 = .ok (.ladd, 1) := by decide +kernel
theorem dX4_digestModels_80 : decode cX4_digestModels 80 = .ok (.lstore_n 3, 1) := by decide +kernel
theorem dX4_digestModels_81 : decode cX4_digestModels 81 = .ok (.iconst 0, 1) := by decide +kernel
theorem dX4_digestModels_82 : decode cX4_digestModels 82 = .ok (.istore 7, 2) := by decide +kernel
theorem dX4_digestModels_84 : decode cX4_digestModels 84 = .ok (.iload 7, 2) := by decide +kernel
theorem dX4_digestModels_86 : decode cX4_digestModels 86 = .ok (.bipush 8, 2) := by decide +kernel
theorem dX4_digestModels_88 : decode cX4_digestModels 88 = .ok (.if_icmp .ge 25, 3) := by decide +kernel
theorem dX4_digestModels_91 : decode cX4_digestModels 91 = .ok (.lload_n 3, 1) := by decide +kernel
theorem dX4_digestModels_92 : decode cX4_digestModels 92 = .ok (.ldc2_w 203, 3) := by decide +kernel
theorem dX4_digestModels_95 : decode cX4_digestModels 95 = .ok (.lmul, 1) := by decide +kernel
theorem dX4_digestModels_96 : decode cX4_digestModels 96 = .ok (.aload 6, 2) := by decide +kernel
theorem dX4_digestModels_98 : decode cX4_digestModels 98 = .ok (.getfield 138, 3) := by decide +kernel
theorem dX4_digestModels_101 : decode cX4_digestModels 101 = .ok (.iload 7, 2) := by decide +kernel
theorem dX4_digestModels_103 : decode cX4_digestModels 103 = .ok (.iaload, 1) := by decide +kernel
theorem dX4_digestModels_104 : decode cX4_digestModels 104 = .ok (.i2l, 1) := by decide +kernel
theorem dX4_digestModels_105 : decode cX4_digestModels 105 = .ok (.ladd, 1) := by decide +kernel
theorem dX4_digestModels_106 : decode cX4_digestModels 106 = .ok (.lstore_n 3, 1) := by decide +kernel
theorem dX4_digestModels_107 : decode cX4_digestModels 107 = .ok (.iinc 7 1, 3) := by decide +kernel
theorem dX4_digestModels_110 : decode cX4_digestModels 110 = .ok (.goto (-26), 3) := by decide +kernel
theorem dX4_digestModels_113 : decode cX4_digestModels 113 = .ok (.lload_n 3, 1) := by decide +kernel
theorem dX4_digestModels_114 : decode cX4_digestModels 114 = .ok (.ldc2_w 203, 3) := by decide +kernel
theorem dX4_digestModels_117 : decode cX4_digestModels 117 = .ok (.lmul, 1) := by decide +kernel
theorem dX4_digestModels_118 : decode cX4_digestModels 118 = .ok (.aload 6, 2) := by decide +kernel
theorem dX4_digestModels_120 : decode cX4_digestModels 120 = .ok (.getfield 144, 3) := by decide +kernel
theorem dX4_digestModels_123 : decode cX4_digestModels 123 = .ok (.i2l, 1) := by decide +kernel
theorem dX4_digestModels_124 : decode cX4_digestModels 124 = .ok (.ladd, 1) := by decide +kernel
theorem dX4_digestModels_125 : decode cX4_digestModels 125 = .ok (.lstore_n 3, 1) := by decide +kernel
theorem dX4_digestModels_126 : decode cX4_digestModels 126 = .ok (.iinc 5 1, 3) := by decide +kernel
theorem dX4_digestModels_129 : decode cX4_digestModels 129 = .ok (.goto (-111), 3) := by decide +kernel
theorem dX4_digestModels_132 : decode cX4_digestModels 132 = .ok (.lload_n 3, 1) := by decide +kernel
theorem dX4_digestModels_133 : decode cX4_digestModels 133 = .ok (.lreturn, 1) := by decide +kernel
set_option maxRecDepth 20000 in
theorem ggX4_digestBytes_X0_at : GoodIn wsX4_digestBytes wsX0_at := goodIn_r _ [7, 8, 9, 10, 11, 6, 12, 13, 14, 15] (by decide +kernel) (by decide +kernel)
set_option maxRecDepth 20000 in
theorem gX4_digestBytes_X0_at : GoodIn wsX4_digestBytes (wsV RX4 167 RX0 yX0_at wsX0_at) := goodIn_app (goodIn_of _ (by decide +kernel)) ggX4_digestBytes_X0_at
theorem dX4_digestBytes_0 : decode cX4_digestBytes 0 = .ok (.lload_n 0, 1) := by decide +kernel
theorem dX4_digestBytes_1 : decode cX4_digestBytes 1 = .ok (.ldc2_w 203, 3) := by decide +kernel
theorem dX4_digestBytes_4 : decode cX4_digestBytes 4 = .ok (.lmul, 1) := by decide +kernel
theorem dX4_digestBytes_5 : decode cX4_digestBytes 5 = .ok (.aload_n 2, 1) := by decide +kernel
theorem dX4_digestBytes_6 : decode cX4_digestBytes 6 = .ok (.getfield 88, 3) := by decide +kernel
theorem dX4_digestBytes_9 : decode cX4_digestBytes 9 = .ok (.i2l, 1) := by decide +kernel
theorem dX4_digestBytes_10 : decode cX4_digestBytes 10 = .ok (.ladd, 1) := by decide +kernel
theorem dX4_digestBytes_11 : decode cX4_digestBytes 11 = .ok (.lstore_n 3, 1) := by decide +kernel
theorem dX4_digestBytes_12 : decode cX4_digestBytes 12 = .ok (.iconst 0, 1) := by decide +kernel
theorem dX4_digestBytes_13 : decode cX4_digestBytes 13 = .ok (.istore 5, 2) := by decide +kernel
theorem dX4_digestBytes_15 : decode cX4_digestBytes 15 = .ok (.iload 5, 2) := by decide +kernel
theorem dX4_digestBytes_17 : decode cX4_digestBytes 17 = .ok (.aload_n 2, 1) := by decide +kernel
theorem dX4_digestBytes_18 : decode cX4_digestBytes 18 = .ok (.getfield 88, 3) := by decide +kernel
theorem dX4_digestBytes_21 : decode cX4_digestBytes 21 = .ok (.if_icmp .ge 23, 3) := by decide +kernel
theorem dX4_digestBytes_24 : decode cX4_digestBytes 24 = .ok (.lload_n 3, 1) := by decide +kernel
theorem dX4_digestBytes_25 : decode cX4_digestBytes 25 = .ok (.ldc2_w 203, 3) := by decide +kernel
theorem dX4_digestBytes_28 : decode cX4_digestBytes 28 = .ok (.lmul, 1) := by decide +kernel
theorem dX4_digestBytes_29 : decode cX4_digestBytes 29 = .ok (.aload_n 2, 1) := by decide +kernel
theorem dX4_digestBytes_30 : decode cX4_digestBytes 30 = .ok (.iload 5, 2) := by decide +kernel
theorem dX4_digestBytes_32 : decode cX4_digestBytes 32 = .ok (.invokevirtual 167, 3) := by decide +kernel
theorem dX4_digestBytes_35 : decode cX4_digestBytes 35 = .ok (.i2l, 1) := by decide +kernel
theorem dX4_digestBytes_36 : decode cX4_digestBytes 36 = .ok (.ladd, 1) := by decide +kernel
theorem dX4_digestBytes_37 : decode cX4_digestBytes 37 = .ok (.lstore_n 3, 1) := by decide +kernel
theorem dX4_digestBytes_38 : decode cX4_digestBytes 38 = .ok (.iinc 5 1, 3) := by decide +kernel
theorem dX4_digestBytes_41 : decode cX4_digestBytes 41 = .ok (.goto (-26), 3) := by decide +kernel
theorem dX4_digestBytes_44 : decode cX4_digestBytes 44 = .ok (.lload_n 3, 1) := by decide +kernel
theorem dX4_digestBytes_45 : decode cX4_digestBytes 45 = .ok (.lreturn, 1) := by decide +kernel
set_option maxRecDepth 20000 in
theorem ggX5_init_X5_clear : GoodIn wsX5_init wsX5_clear := goodIn_r _ [21, 9, 11, 12, 13, 14, 22, 23, 24, 25, 26, 27, 28, 29, 30, 31, 32, 33, 34, 35, 36, 37, 38, 39, 40, 41, 42, 43, 44, 45, 46] (by decide +kernel) (by decide +kernel)
set_option maxRecDepth 20000 in
theorem gX5_init_X5_clear : GoodIn wsX5_init (wsV RX5 46 RX5 yX5_clear wsX5_clear) := goodIn_app (goodIn_of _ (by decide +kernel)) ggX5_init_X5_clear
theorem dX5_init_0 : decode cX5_init 0 = .ok (.aload_n 0, 1) := by decide +kernel
theorem dX5_init_1 : decode cX5_init 1 = .ok (.invokespecial 1, 3) := by decide +kernel
theorem dX5_init_4 : decode cX5_init 4 = .ok (.aload_n 0, 1) := by decide +kernel
theorem dX5_init_5 : decode cX5_init 5 = .ok (.bipush 6, 2) := by decide +kernel
theorem dX5_init_7 : decode cX5_init 7 = .ok (.newarray .int, 2) := by decide +kernel
theorem dX5_init_9 : decode cX5_init 9 = .ok (.putfield 9, 3) := by decide +kernel
theorem dX5_init_12 : decode cX5_init 12 = .ok (.aload_n 0, 1) := by decide +kernel
theorem dX5_init_13 : decode cX5_init 13 = .ok (.bipush 6, 2) := by decide +kernel
theorem dX5_init_15 : decode cX5_init 15 = .ok (.newarray .int, 2) := by decide +kernel
theorem dX5_init_17 : decode cX5_init 17 = .ok (.putfield 13, 3) := by decide +kernel
theorem dX5_init_20 : decode cX5_init 20 = .ok (.aload_n 0, 1) := by decide +kernel
theorem dX5_init_21 : decode cX5_init 21 = .ok (.bipush 6, 2) := by decide +kernel
theorem dX5_init_23 : decode cX5_init 23 = .ok (.newarray .int, 2) := by decide +kernel
theorem dX5_init_25 : decode cX5_init 25 = .ok (.putfield 16, 3) := by decide +kernel
theorem dX5_init_28 : decode cX5_init 28 = .ok (.aload_n 0, 1) := by decide +kernel
theorem dX5_init_29 : decode cX5_init 29 = .ok (.bipush 80, 2) := by decide +kernel
theorem dX5_init_31 : decode cX5_init 31 = .ok (.newarray .int, 2) := by decide +kernel
theorem dX5_init_33 : decode cX5_init 33 = .ok (.putfield 19, 3) := by decide +kernel
theorem dX5_init_36 : decode cX5_init 36 = .ok (.aload_n 0, 1) := by decide +kernel
theorem dX5_init_37 : decode cX5_init 37 = .ok (.sipush 3072, 3) := by decide +kernel
theorem dX5_init_40 : decode cX5_init 40 = .ok (.newarray .int, 2) := by decide +kernel
theorem dX5_init_42 : decode cX5_init 42 = .ok (.putfield 22, 3) := by decide +kernel
theorem dX5_init_45 : decode cX5_init 45 = .ok (.aload_n 0, 1) := by decide +kernel
theorem dX5_init_46 : decode cX5_init 46 = .ok (.sipush 3072, 3) := by decide +kernel
theorem dX5_init_49 : decode cX5_init 49 = .ok (.newarray .int, 2) := by decide +kernel
theorem dX5_init_51 : decode cX5_init 51 = .ok (.putfield 25, 3) := by decide +kernel
theorem dX5_init_54 : decode cX5_init 54 = .ok (.aload_n 0, 1) := by decide +kernel
theorem dX5_init_55 : decode cX5_init 55 = .ok (.sipush 3072, 3) := by decide +kernel
theorem dX5_init_58 : decode cX5_init 58 = .ok (.newarray .int, 2) := by decide +kernel
theorem dX5_init_60 : decode cX5_init 60 = .ok (.putfield 28, 3) := by decide +kernel
theorem dX5_init_63 : decode cX5_init 63 = .ok (.aload_n 0, 1) := by decide +kernel
theorem dX5_init_64 : decode cX5_init 64 = .ok (.bipush 48, 2) := by decide +kernel
theorem dX5_init_66 : decode cX5_init 66 = .ok (.newarray .int, 2) := by decide +kernel
theorem dX5_init_68 : decode cX5_init 68 = .ok (.putfield 31, 3) := by decide +kernel
theorem dX5_init_71 : decode cX5_init 71 = .ok (.aload_n 0, 1) := by decide +kernel
theorem dX5_init_72 : decode cX5_init 72 = .ok (.bipush 6, 2) := by decide +kernel
theorem dX5_init_74 : decode cX5_init 74 = .ok (.newarray .int, 2) := by decide +kernel
theorem dX5_init_76 : decode cX5_init 76 = .ok (.putfield 34, 3) := by decide +kernel
theorem dX5_init_79 : decode cX5_init 79 = .ok (.aload_n 0, 1) := by decide +kernel
theorem dX5_init_80 : decode cX5_init 80 = .ok (.iconst 3, 1) := by decide +kernel
theorem dX5_init_81 : decode cX5_init 81 = .ok (.newarray .int, 2) := by decide +kernel
theorem dX5_init_83 : decode cX5_init 83 = .ok (.putfield 37, 3) := by decide +kernel
theorem dX5_init_86 : decode cX5_init 86 = .ok (.aload_n 0, 1) := by decide +kernel
theorem dX5_init_87 : decode cX5_init 87 = .ok (.sipush 3000, 3) := by decide +kernel
theorem dX5_init_90 : decode cX5_init 90 = .ok (.newarray .int, 2) := by decide +kernel
theorem dX5_init_92 : decode cX5_init 92 = .ok (.putfield 40, 3) := by decide +kernel
theorem dX5_init_95 : decode cX5_init 95 = .ok (.aload_n 0, 1) := by decide +kernel
theorem dX5_init_96 : decode cX5_init 96 = .ok (.bipush 80, 2) := by decide +kernel
theorem dX5_init_98 : decode cX5_init 98 = .ok (.newarray .int, 2) := by decide +kernel
theorem dX5_init_100 : decode cX5_init 100 = .ok (.putfield 43, 3) := by decide +kernel
theorem dX5_init_103 : decode cX5_init 103 = .ok (.aload_n 0, 1) := by decide +kernel
theorem dX5_init_104 : decode cX5_init 104 = .ok (.invokevirtual 46, 3) := by decide +kernel
theorem dX5_init_107 : decode cX5_init 107 = .ok (.return_, 1) := by decide +kernel
theorem dX5_thrown_0 : decode cX5_thrown 0 = .ok (.aload_n 0, 1) := by decide +kernel
theorem dX5_thrown_1 : decode cX5_thrown 1 = .ok (.getfield 49, 3) := by decide +kernel
theorem dX5_thrown_4 : decode cX5_thrown 4 = .ok (.ireturn, 1) := by decide +kernel
theorem dX5_no_0 : decode cX5_no 0 = .ok (.aload_n 0, 1) := by decide +kernel
theorem dX5_no_1 : decode cX5_no 1 = .ok (.iload_n 1, 1) := by decide +kernel
theorem dX5_no_2 : decode cX5_no 2 = .ok (.putfield 49, 3) := by decide +kernel
theorem dX5_no_5 : decode cX5_no 5 = .ok (.iconst 0, 1) := by decide +kernel
theorem dX5_no_6 : decode cX5_no 6 = .ok (.ireturn, 1) := by decide +kernel
theorem dX5_isIn_0 : decode cX5_isIn 0 = .ok (.iload_n 0, 1) := by decide +kernel
theorem dX5_isIn_1 : decode cX5_isIn 1 = .ok (.iload_n 1, 1) := by decide +kernel
theorem dX5_isIn_2 : decode cX5_isIn 2 = .ok (.if_icmp .lt 12, 3) := by decide +kernel
theorem dX5_isIn_5 : decode cX5_isIn 5 = .ok (.iload_n 0, 1) := by decide +kernel
theorem dX5_isIn_6 : decode cX5_isIn 6 = .ok (.iload_n 2, 1) := by decide +kernel
theorem dX5_isIn_7 : decode cX5_isIn 7 = .ok (.if_icmp .gt 7, 3) := by decide +kernel
theorem dX5_isIn_10 : decode cX5_isIn 10 = .ok (.iconst 1, 1) := by decide +kernel
theorem dX5_isIn_11 : decode cX5_isIn 11 = .ok (.goto 4, 3) := by decide +kernel
theorem dX5_isIn_14 : decode cX5_isIn 14 = .ok (.iconst 0, 1) := by decide +kernel
theorem dX5_isIn_15 : decode cX5_isIn 15 = .ok (.ireturn, 1) := by decide +kernel
set_option maxRecDepth 20000 in
theorem ggX5_isModel_X5_isIn : GoodIn wsX5_isModel wsX5_isIn := goodIn_r _ [5] (by decide +kernel) (by decide +kernel)
set_option maxRecDepth 20000 in
theorem gX5_isModel_X5_isIn : GoodIn wsX5_isModel (va_wsS RX5 56 yX5_isIn wsX5_isIn) := goodIn_app (goodIn_of _ (by decide +kernel)) ggX5_isModel_X5_isIn
theorem dX5_isModel_0 : decode cX5_isModel 0 = .ok (.iload_n 1, 1) := by decide +kernel
theorem dX5_isModel_1 : decode cX5_isModel 1 = .ok (.iconst 0, 1) := by decide +kernel
theorem dX5_isModel_2 : decode cX5_isModel 2 = .ok (.aload_n 0, 1) := by decide +kernel
theorem dX5_isModel_3 : decode cX5_isModel 3 = .ok (.getfield 53, 3) := by decide +kernel
theorem dX5_isModel_6 : decode cX5_isModel 6 = .ok (.iconst 1, 1) := by decide +kernel
theorem dX5_isModel_7 : decode cX5_isModel 7 = .ok (.isub, 1) := by decide +kernel
theorem dX5_isModel_8 : decode cX5_isModel 8 = .ok (.invokestatic 56, 3) := by decide +kernel
theorem dX5_isModel_11 : decode cX5_isModel 11 = .ok (.ireturn, 1) := by decide +kernel
theorem dX5_clear_0 : decode cX5_clear 0 = .ok (.iconst 0, 1) := by decide +kernel
theorem dX5_clear_1 : decode cX5_clear 1 = .ok (.istore_n 1, 1) := by decide +kernel
theorem dX5_clear_2 : decode cX5_clear 2 = .ok (.iload_n 1, 1) := by decide +kernel
theorem dX5_clear_3 : decode cX5_clear 3 = .ok (.sipush 3072, 3) := by decide +kernel
theorem dX5_clear_6 : decode cX5_clear 6 = .ok (.if_icmp .ge 25, 3) := by decide +kernel
theorem dX5_clear_9 : decode cX5_clear 9 = .ok (.aload_n 0, 1) := by decide +kernel
theorem dX5_clear_10 : decode cX5_clear 10 = .ok (.getfield 22, 3) := by decide +kernel
theorem dX5_clear_13 : decode cX5_clear 13 = .ok (.iload_n 1, 1) := by decide +kernel
theorem dX5_clear_14 : decode cX5_clear 14 = .ok (.sipush 2048, 3) := by decide +kernel
theorem dX5_clear_17 : decode cX5_clear 17 = .ok (.iastore, 1) := by decide +kernel
theorem dX5_clear_18 : decode cX5_clear 18 = .ok (.aload_n 0, 1) := by decide +kernel
theorem dX5_clear_19 : decode cX5_clear 19 = .ok (.getfield 28, 3) := by decide +kernel
theorem dX5_clear_22 : decode cX5_clear 22 = .ok (.iload_n 1, 1) := by decide +kernel
theorem dX5_clear_23 : decode cX5_clear 23 = .ok (.iconst 0, 1) := by decide +kernel
theorem dX5_clear_24 : decode cX5_clear 24 = .ok (.iastore, 1) := by decide +kernel
theorem dX5_clear_25 : decode cX5_clear 25 = .ok (.iinc 1 1, 3) := by decide +kernel
theorem dX5_clear_28 : decode cX5_clear 28 = .ok (.goto (-26), 3) := by decide +kernel
theorem dX5_clear_31 : decode cX5_clear 31 = .ok (.iconst 0, 1) := by decide +kernel
theorem dX5_clear_32 : decode cX5_clear 32 = .ok (.istore_n 1, 1) := by decide +kernel
theorem dX5_clear_33 : decode cX5_clear 33 = .ok (.iload_n 1, 1) := by decide +kernel
theorem dX5_clear_34 : decode cX5_clear 34 = .ok (.bipush 48, 2) := by decide +kernel
theorem dX5_clear_36 : decode cX5_clear 36 = .ok (.if_icmp .ge 18, 3) := by decide +kernel
theorem dX5_clear_39 : decode cX5_clear 39 = .ok (.aload_n 0, 1) := by decide +kernel
theorem dX5_clear_40 : decode cX5_clear 40 = .ok (.getfield 31, 3) := by decide +kernel
theorem dX5_clear_43 : decode cX5_clear 43 = .ok (.iload_n 1, 1) := by decide +kernel
theorem dX5_clear_44 : decode cX5_clear 44 = .ok (.sipush 256, 3) := by decide +kernel
theorem dX5_clear_47 : decode cX5_clear 47 = .ok (.iastore, 1) := by decide +kernel
theorem dX5_clear_48 : decode cX5_clear 48 = .ok (.iinc 1 1, 3) := by decide +kernel
theorem dX5_clear_51 : decode cX5_clear 51 = .ok (.goto (-18), 3) := by decide +kernel
theorem dX5_clear_54 : decode cX5_clear 54 = .ok (.iconst 0, 1) := by decide +kernel
theorem dX5_clear_55 : decode cX5_clear 55 = .ok (.istore_n 1, 1) := by decide +kernel
theorem dX5_clear_56 : decode cX5_clear 56 = .ok (.iload_n 1, 1) := by decide +kernel
theorem dX5_clear_57 : decode cX5_clear 57 = .ok (.bipush 6, 2) := by decide +kernel
theorem dX5_clear_59 : decode cX5_clear 59 = .ok (.if_icmp .ge 16, 3) := by decide +kernel
theorem dX5_clear_62 : decode cX5_clear 62 = .ok (.aload_n 0, 1) := by decide +kernel
theorem dX5_clear_63 : decode cX5_clear 63 = .ok (.getfield 34, 3) := by decide +kernel
theorem dX5_clear_66 : decode cX5_clear 66 = .ok (.iload_n 1, 1) := by decide +kernel
theorem dX5_clear_67 : decode cX5_clear 67 = .ok (.iconst 0, 1) := by decide +kernel
theorem dX5_clear_68 : decode cX5_clear 68 = .ok (.iastore, 1) := by decide +kernel
theorem dX5_clear_69 : decode cX5_clear 69 = .ok (.iinc 1 1, 3) := by decide +kernel
theorem dX5_clear_72 : decode cX5_clear 72 = .ok (.goto (-16), 3) := by decide +kernel
theorem dX5_clear_75 : decode cX5_clear 75 = .ok (.iconst 0, 1) := by decide +kernel
theorem dX5_clear_76 : decode cX5_clear 76 = .ok (.istore_n 1, 1) := by decide +kernel
theorem dX5_clear_77 : decode cX5_clear 77 = .ok (.iload_n 1, 1) := by decide +kernel
theorem dX5_clear_78 : decode cX5_clear 78 = .ok (.iconst 3, 1) := by decide +kernel
theorem dX5_clear_79 : decode cX5_clear 79 = .ok (.if_icmp .ge 16, 3) := by decide +kernel
theorem dX5_clear_82 : decode cX5_clear 82 = .ok (.aload_n 0, 1) := by decide +kernel
theorem dX5_clear_83 : decode cX5_clear 83 = .ok (.getfield 37, 3) := by decide +kernel
theorem dX5_clear_86 : decode cX5_clear 86 = .ok (.iload_n 1, 1) := by decide +kernel
theorem dX5_clear_87 : decode cX5_clear 87 = .ok (.iconst 0, 1) := by decide +kernel
theorem dX5_clear_88 : decode cX5_clear 88 = .ok (.iastore, 1) := by decide +kernel
theorem dX5_clear_89 : decode cX5_clear 89 = .ok (.iinc 1 1, 3) := by decide +kernel
theorem dX5_clear_92 : decode cX5_clear 92 = .ok (.goto (-15), 3) := by decide +kernel
theorem dX5_clear_95 : decode cX5_clear 95 = .ok (.aload_n 0, 1) := by decide +kernel
theorem dX5_clear_96 : decode cX5_clear 96 = .ok (.iconst 1, 1) := by decide +kernel
theorem dX5_clear_97 : decode cX5_clear 97 = .ok (.putfield 60, 3) := by decide +kernel
theorem dX5_clear_100 : decode cX5_clear 100 = .ok (.aload_n 0, 1) := by decide +kernel
theorem dX5_clear_101 : decode cX5_clear 101 = .ok (.iconst 0, 1) := by decide +kernel
theorem dX5_clear_102 : decode cX5_clear 102 = .ok (.putfield 63, 3) := by decide +kernel
theorem dX5_clear_105 : decode cX5_clear 105 = .ok (.aload_n 0, 1) := by decide +kernel
theorem dX5_clear_106 : decode cX5_clear 106 = .ok (.lconst 0, 1) := by decide +kernel
theorem dX5_clear_107 : decode cX5_clear 107 = .ok (.putfield 66, 3) := by decide +kernel
theorem dX5_clear_110 : decode cX5_clear 110 = .ok (.return_, 1) := by decide +kernel
set_option maxRecDepth 20000 in
theorem ggX5_addModel_X5_isIn : GoodIn wsX5_addModel wsX5_isIn := goodIn_r _ [9] (by decide +kernel) (by decide +kernel)
set_option maxRecDepth 20000 in
theorem gX5_addModel_X5_isIn : GoodIn wsX5_addModel (va_wsS RX5 56 yX5_isIn wsX5_isIn) := goodIn_app (goodIn_of _ (by decide +kernel)) ggX5_addModel_X5_isIn
set_option maxRecDepth 20000 in
theorem ggX5_addModel_X5_no : GoodIn wsX5_addModel wsX5_no := goodIn_r _ [13, 1, 26, 27, 28, 29, 30, 31, 32, 33, 34, 35, 36, 37, 38, 39, 40, 41, 42, 43, 44, 45, 46, 47] (by decide +kernel) (by decide +kernel)
set_option maxRecDepth 20000 in
theorem gX5_addModel_X5_no : GoodIn wsX5_addModel (wsV RX5 70 RX5 yX5_no wsX5_no) := goodIn_app (goodIn_of _ (by decide +kernel)) ggX5_addModel_X5_no
set_option maxRecDepth 20000 in
theorem ggX5_addModel_X5_clear : GoodIn wsX5_addModel wsX5_clear := goodIn_r _ [17, 18, 19, 20, 21, 22, 23, 24, 25, 26, 27, 28, 29, 30, 31, 32, 33, 34, 35, 36, 37, 38, 39, 40, 41, 42, 43, 44, 45, 46, 47] (by decide +kernel) (by decide +kernel)
set_option maxRecDepth 20000 in
theorem gX5_addModel_X5_clear : GoodIn wsX5_addModel (wsV RX5 46 RX5 yX5_clear wsX5_clear) := goodIn_app (goodIn_of _ (by decide +kernel)) ggX5_addModel_X5_clear
theorem dX5_addModel_0 : decode cX5_addModel 0 = .ok (.aload_n 0, 1) := by decide +kernel
theorem dX5_addModel_1 : decode cX5_addModel 1 = .ok (.iconst 0, 1) := by decide +kernel
theorem dX5_addModel_2 : decode cX5_addModel 2 = .ok (.putfield 49, 3) := by decide +kernel
theorem dX5_addModel_5 : decode cX5_addModel 5 = .ok (.iload_n 1, 1) := by decide +kernel
theorem dX5_addModel_6 : decode cX5_addModel 6 = .ok (.iconst 0, 1) := by decide +kernel
theorem dX5_addModel_7 : decode cX5_addModel 7 = .ok (.iconst 3, 1) := by decide +kernel
theorem dX5_addModel_8 : decode cX5_addModel 8 = .ok (.invokestatic 56, 3) := by decide +kernel
theorem dX5_addModel_11 : decode cX5_addModel 11 = .ok (.ifCond .eq 23, 3) := by decide +kernel
theorem dX5_addModel_14 : decode cX5_addModel 14 = .ok (.iload_n 2, 1) := by decide +kernel
theorem dX5_addModel_15 : decode cX5_addModel 15 = .ok (.iconst 2, 1) := by decide +kernel
theorem dX5_addModel_16 : decode cX5_addModel 16 = .ok (.bipush 7, 2) := by decide +kernel
theorem dX5_addModel_18 : decode cX5_addModel 18 = .ok (.invokestatic 56, 3) := by decide +kernel
theorem dX5_addModel_21 : decode cX5_addModel 21 = .ok (.ifCond .eq 13, 3) := by decide +kernel
theorem dX5_addModel_24 : decode cX5_addModel 24 = .ok (.iload_n 3, 1) := by decide +kernel
theorem dX5_addModel_25 : decode cX5_addModel 25 = .ok (.iconst 4, 1) := by decide +kernel
theorem dX5_addModel_26 : decode cX5_addModel 26 = .ok (.bipush 9, 2) := by decide +kernel
theorem dX5_addModel_28 : decode cX5_addModel 28 = .ok (.invokestatic 56, 3) := by decide +kernel
theorem dX5_addModel_31 : decode cX5_addModel 31 = .ok (.ifCond .ne 9, 3) := by decide +kernel
theorem dX5_addModel_34 : decode cX5_addModel 34 = .ok (.aload_n 0, 1) := by decide +kernel
theorem dX5_addModel_35 : decode cX5_addModel 35 = .ok (.iconst 1, 1) := by decide +kernel
theorem dX5_addModel_36 : decode cX5_addModel 36 = .ok (.invokevirtual 70, 3) := by decide +kernel
theorem dX5_addModel_39 : decode cX5_addModel 39 = .ok (.ireturn, 1) := by decide +kernel
theorem dX5_addModel_40 : decode cX5_addModel 40 = .ok (.aload_n 0, 1) := by decide +kernel
theorem dX5_addModel_41 : decode cX5_addModel 41 = .ok (.getfield 53, 3) := by decide +kernel
theorem dX5_addModel_44 : decode cX5_addModel 44 = .ok (.bipush 6, 2) := by decide +kernel
theorem dX5_addModel_46 : decode cX5_addModel 46 = .ok (.if_icmp .ne 9, 3) := by decide +kernel
theorem dX5_addModel_49 : decode cX5_addModel 49 = .ok (.aload_n 0, 1) := by decide +kernel
theorem dX5_addModel_50 : decode cX5_addModel 50 = .ok (.iconst 2, 1) := by decide +kernel
theorem dX5_addModel_51 : decode cX5_addModel 51 = .ok (.invokevirtual 70, 3) := by decide +kernel
theorem dX5_addModel_54 : decode cX5_addModel 54 = .ok (.ireturn, 1) := by decide +kernel
theorem dX5_addModel_55 : decode cX5_addModel 55 = .ok (.aload_n 0, 1) := by decide +kernel
theorem dX5_addModel_56 : decode cX5_addModel 56 = .ok (.getfield 9, 3) := by decide +kernel
theorem dX5_addModel_59 : decode cX5_addModel 59 = .ok (.aload_n 0, 1) := by decide +kernel
theorem dX5_addModel_60 : decode cX5_addModel 60 = .ok (.getfield 53, 3) := by decide +kernel
theorem dX5_addModel_63 : decode cX5_addModel 63 = .ok (.iload_n 1, 1) := by decide +kernel
theorem dX5_addModel_64 : decode cX5_addModel 64 = .ok (.iastore, 1) := by decide +kernel
theorem dX5_addModel_65 : decode cX5_addModel 65 = .ok (.aload_n 0, 1) := by decide +kernel
theorem dX5_addModel_66 : decode cX5_addModel 66 = .ok (.getfield 13, 3) := by decide +kernel
theorem dX5_addModel_69 : decode cX5_addModel 69 = .ok (.aload_n 0, 1) := by decide +kernel
theorem dX5_addModel_70 : decode cX5_addModel 70 = .ok (.getfield 53, 3) := by decide +kernel
theorem dX5_addModel_73 : decode cX5_addModel 73 = .ok (.iload_n 2, 1) := by decide +kernel
theorem dX5_addModel_74 : decode cX5_addModel 74 = .ok (.iastore, 1) := by decide +kernel
theorem dX5_addModel_75 : decode cX5_addModel 75 = .ok (.aload_n 0, 1) := by decide +kernel
theorem dX5_addModel_76 : decode cX5_addModel 76 = .ok (.getfield 16, 3) := by decide +kernel
theorem dX5_addModel_79 : decode cX5_addModel 79 = .ok (.aload_n 0, 1) := by decide +kernel
theorem dX5_addModel_80 : decode cX5_addModel 80 = .ok (.getfield 53, 3) := by decide +kernel
theorem dX5_addModel_83 : decode cX5_addModel 83 = .ok (.iload_n 3, 1) := by decide +kernel
theorem dX5_addModel_84 : decode cX5_addModel 84 = .ok (.iastore, 1) := by decide +kernel
theorem dX5_addModel_85 : decode cX5_addModel 85 = .ok (.aload_n 0, 1) := by decide +kernel
theorem dX5_addModel_86 : decode cX5_addModel 86 = .ok (.dup, 1) := by decide +kernel
theorem dX5_addModel_87 : decode cX5_addModel 87 = .ok (.getfield 53, 3) := by decide +kernel
theorem dX5_addModel_90 : decode cX5_addModel 90 = .ok (.iconst 1, 1) := by decide +kernel
theorem dX5_addModel_91 : decode cX5_addModel 91 = .ok (.iadd, 1) := by decide +kernel
theorem dX5_addModel_92 : decode cX5_addModel 92 = .ok (.putfield 53, 3) := by decide +kernel
theorem dX5_addModel_95 : decode cX5_addModel 95 = .ok (.aload_n 0, 1) := by decide +kernel
theorem dX5_addModel_96 : decode cX5_addModel 96 = .ok (.invokevirtual 46, 3) := by decide +kernel
theorem dX5_addModel_99 : decode cX5_addModel 99 = .ok (.aload_n 0, 1) := by decide +kernel
theorem dX5_addModel_100 : decode cX5_addModel 100 = .ok (.getfield 53, 3) := by decide +kernel
theorem dX5_addModel_103 : decode cX5_addModel 103 = .ok (.iconst 1, 1) := by decide +kernel
theorem dX5_addModel_104 : decode cX5_addModel 104 = .ok (.isub, 1) := by decide +kernel
theorem dX5_addModel_105 : decode cX5_addModel 105 = .ok (.ireturn, 1) := by decide +kernel
set_option maxRecDepth 20000 in
theorem ggX5_removeModel_X5_no : GoodIn wsX5_removeModel wsX5_no := goodIn_r _ [7, 1, 20, 21, 22, 23, 24, 25, 26, 27, 28, 29, 30, 31, 32, 33, 34, 35, 36, 37, 38, 39, 40, 41] (by decide +kernel) (by decide +kernel)
set_option maxRecDepth 20000 in
theorem gX5_removeModel_X5_no : GoodIn wsX5_removeModel (wsV RX5 70 RX5 yX5_no wsX5_no) := goodIn_app (goodIn_of _ (by decide +kernel)) ggX5_removeModel_X5_no
set_option maxRecDepth 20000 in
theorem ggX5_removeModel_X5_clear : GoodIn wsX5_removeModel wsX5_clear := goodIn_r _ [11, 12, 13, 14, 15, 16, 17, 18, 19, 20, 21, 22, 23, 24, 25, 26, 27, 28, 29, 30, 31, 32, 33, 34, 35, 36, 37, 38, 39, 40, 41] (by decide +kernel) (by decide +kernel)
set_option maxRecDepth 20000 in
theorem gX5_removeModel_X5_clear : GoodIn wsX5_removeModel (wsV RX5 46 RX5 yX5_clear wsX5_clear) := goodIn_app (goodIn_of _ (by decide +kernel)) ggX5_removeModel_X5_clear
theorem dX5_removeModel_0 : decode cX5_removeModel 0 = .ok (.aload_n 0, 1) := by decide +kernel
theorem dX5_removeModel_1 : decode cX5_removeModel 1 = .ok (.iconst 0, 1) := by decide +kernel
theorem dX5_removeModel_2 : decode cX5_removeModel 2 = .ok (.putfield 49, 3) := by decide +kernel
theorem dX5_removeModel_5 : decode cX5_removeModel 5 = .ok (.aload_n 0, 1) := by decide +kernel
theorem dX5_removeModel_6 : decode cX5_removeModel 6 = .ok (.getfield 53, 3) := by decide +kernel
theorem dX5_removeModel_9 : decode cX5_removeModel 9 = .ok (.ifCond .ne 9, 3) := by decide +kernel
theorem dX5_removeModel_12 : decode cX5_removeModel 12 = .ok (.aload_n 0, 1) := by decide +kernel
theorem dX5_removeModel_13 : decode cX5_removeModel 13 = .ok (.iconst 1, 1) := by decide +kernel
theorem dX5_removeModel_14 : decode cX5_removeModel 14 = .ok (.invokevirtual 70, 3) := by decide +kernel
theorem dX5_removeModel_17 : decode cX5_removeModel 17 = .ok (.ireturn, 1) := by decide +kernel
theorem dX5_removeModel_18 : decode cX5_removeModel 18 = .ok (.aload_n 0, 1) := by decide +kernel
theorem dX5_removeModel_19 : decode cX5_removeModel 19 = .ok (.dup, 1) := by decide +kernel
theorem dX5_removeModel_20 : decode cX5_removeModel 20 = .ok (.getfield 53, 3) := by decide +kernel
theorem dX5_removeModel_23 : decode cX5_removeModel 23 = .ok (.iconst 1, 1) := by decide +kernel
theorem dX5_removeModel_24 : decode cX5_removeModel 24 = .ok (.isub, 1) := by decide +kernel
theorem dX5_removeModel_25 : decode cX5_removeModel 25 = .ok (.putfield 53, 3) := by decide +kernel
theorem dX5_removeModel_28 : decode cX5_removeModel 28 = .ok (.aload_n 0, 1) := by decide +kernel
theorem dX5_removeModel_29 : decode cX5_removeModel 29 = .ok (.invokevirtual 46, 3) := by decide +kernel
theorem dX5_removeModel_32 : decode cX5_removeModel 32 = .ok (.aload_n 0, 1) := by decide +kernel
theorem dX5_removeModel_33 : decode cX5_removeModel 33 = .ok (.getfield 53, 3) := by decide +kernel
theorem dX5_removeModel_36 : decode cX5_removeModel 36 = .ok (.ireturn, 1) := by decide +kernel
set_option maxRecDepth 20000 in
theorem ggX5_setRate_X5_isModel : GoodIn wsX5_setRate wsX5_isModel := goodIn_r _ [7, 8, 9, 10, 6, 11, 28, 29, 30, 31, 32, 33, 34, 35, 36, 37, 38, 39, 40, 41, 42, 43, 44, 45, 46, 47, 48, 49] (by decide +kernel) (by decide +kernel)
set_option maxRecDepth 20000 in
theorem gX5_setRate_X5_isModel : GoodIn wsX5_setRate (wsV RX5 74 RX5 yX5_isModel wsX5_isModel) := goodIn_app (goodIn_of _ (by decide +kernel)) ggX5_setRate_X5_isModel
set_option maxRecDepth 20000 in
theorem ggX5_setRate_X5_no : GoodIn wsX5_setRate wsX5_no := goodIn_r _ [15, 1, 28, 29, 30, 31, 32, 33, 34, 35, 36, 37, 38, 39, 40, 41, 42, 43, 44, 45, 46, 47, 48, 49] (by decide +kernel) (by decide +kernel)
set_option maxRecDepth 20000 in
theorem gX5_setRate_X5_no : GoodIn wsX5_setRate (wsV RX5 70 RX5 yX5_no wsX5_no) := goodIn_app (goodIn_of _ (by decide +kernel)) ggX5_setRate_X5_no
set_option maxRecDepth 20000 in
theorem ggX5_setRate_X5_isIn : GoodIn wsX5_setRate wsX5_isIn := goodIn_r _ [11] (by decide +kernel) (by decide +kernel)
set_option maxRecDepth 20000 in
theorem gX5_setRate_X5_isIn : GoodIn wsX5_setRate (va_wsS RX5 56 yX5_isIn wsX5_isIn) := goodIn_app (goodIn_of _ (by decide +kernel)) ggX5_setRate_X5_isIn
set_option maxRecDepth 20000 in
theorem ggX5_setRate_X5_clear : GoodIn wsX5_setRate wsX5_clear := goodIn_r _ [19, 20, 21, 22, 23, 24, 25, 26, 27, 28, 29, 30, 31, 32, 33, 34, 35, 36, 37, 38, 39, 40, 41, 42, 43, 44, 45, 46, 47, 48, 49] (by decide +kernel) (by decide +kernel)
set_option maxRecDepth 20000 in
theorem gX5_setRate_X5_clear : GoodIn wsX5_setRate (wsV RX5 46 RX5 yX5_clear wsX5_clear) := goodIn_app (goodIn_of _ (by decide +kernel)) ggX5_setRate_X5_clear
theorem dX5_setRate_0 : decode cX5_setRate 0 = .ok (.aload_n 0, 1) := by decide +kernel
theorem dX5_setRate_1 : decode cX5_setRate 1 = .ok (.iconst 0, 1) := by decide +kernel
theorem dX5_setRate_2 : decode cX5_setRate 2 = .ok (.putfield 49, 3) := by decide +kernel
theorem dX5_setRate_5 : decode cX5_setRate 5 = .ok (.aload_n 0, 1) := by decide +kernel
theorem dX5_setRate_6 : decode cX5_setRate 6 = .ok (.iload_n 1, 1) := by decide +kernel
theorem dX5_setRate_7 : decode cX5_setRate 7 = .ok (.invokevirtual 74, 3) := by decide +kernel
theorem dX5_setRate_10 : decode cX5_setRate 10 = .ok (.ifCond .ne 9, 3) := by decide +kernel
theorem dX5_setRate_13 : decode cX5_setRate 13 = .ok (.aload_n 0, 1) := by decide +kernel
theorem dX5_setRate_14 : decode cX5_setRate 14 = .ok (.iconst 1, 1) := by decide +kernel
theorem dX5_setRate_15 : decode cX5_setRate 15 = .ok (.invokevirtual 70, 3) := by decide +kernel
theorem dX5_setRate_18 : decode cX5_setRate 18 = .ok (.ireturn, 1) := by decide +kernel
theorem dX5_setRate_19 : decode cX5_setRate 19 = .ok (.iload_n 2, 1) := by decide +kernel
theorem dX5_setRate_20 : decode cX5_setRate 20 = .ok (.iconst 2, 1) := by decide +kernel
theorem dX5_setRate_21 : decode cX5_setRate 21 = .ok (.bipush 7, 2) := by decide +kernel
theorem dX5_setRate_23 : decode cX5_setRate 23 = .ok (.invokestatic 56, 3) := by decide +kernel
theorem dX5_setRate_26 : decode cX5_setRate 26 = .ok (.ifCond .ne 9, 3) := by decide +kernel
theorem dX5_setRate_29 : decode cX5_setRate 29 = .ok (.aload_n 0, 1) := by decide +kernel
theorem dX5_setRate_30 : decode cX5_setRate 30 = .ok (.iconst 2, 1) := by decide +kernel
theorem dX5_setRate_31 : decode cX5_setRate 31 = .ok (.invokevirtual 70, 3) := by decide +kernel
theorem dX5_setRate_34 : decode cX5_setRate 34 = .ok (.ireturn, 1) := by decide +kernel
theorem dX5_setRate_35 : decode cX5_setRate 35 = .ok (.aload_n 0, 1) := by decide +kernel
theorem dX5_setRate_36 : decode cX5_setRate 36 = .ok (.getfield 13, 3) := by decide +kernel
theorem dX5_setRate_39 : decode cX5_setRate 39 = .ok (.iload_n 1, 1) := by decide +kernel
theorem dX5_setRate_40 : decode cX5_setRate 40 = .ok (.iaload, 1) := by decide +kernel
theorem dX5_setRate_41 : decode cX5_setRate 41 = .ok (.istore_n 3, 1) := by decide +kernel
theorem dX5_setRate_42 : decode cX5_setRate 42 = .ok (.aload_n 0, 1) := by decide +kernel
theorem dX5_setRate_43 : decode cX5_setRate 43 = .ok (.getfield 13, 3) := by decide +kernel
theorem dX5_setRate_46 : decode cX5_setRate 46 = .ok (.iload_n 1, 1) := by decide +kernel
theorem dX5_setRate_47 : decode cX5_setRate 47 = .ok (.iload_n 2, 1) := by decide +kernel
theorem dX5_setRate_48 : decode cX5_setRate 48 = .ok (.iastore, 1) := by decide +kernel
theorem dX5_setRate_49 : decode cX5_setRate 49 = .ok (.aload_n 0, 1) := by decide +kernel
theorem dX5_setRate_50 : decode cX5_setRate 50 = .ok (.invokevirtual 46, 3) := by decide +kernel
theorem dX5_setRate_53 : decode cX5_setRate 53 = .ok (.iload_n 3, 1) := by decide +kernel
theorem dX5_setRate_54 : decode cX5_setRate 54 = .ok (.ireturn, 1) := by decide +kernel
theorem dX5_modelCount_0 : decode cX5_modelCount 0 = .ok (.aload_n 0, 1) := by decide +kernel
theorem dX5_modelCount_1 : decode cX5_modelCount 1 = .ok (.iconst 0, 1) := by decide +kernel
theorem dX5_modelCount_2 : decode cX5_modelCount 2 = .ok (.putfield 49, 3) := by decide +kernel
theorem dX5_modelCount_5 : decode cX5_modelCount 5 = .ok (.aload_n 0, 1) := by decide +kernel
theorem dX5_modelCount_6 : decode cX5_modelCount 6 = .ok (.getfield 53, 3) := by decide +kernel
theorem dX5_modelCount_9 : decode cX5_modelCount 9 = .ok (.ireturn, 1) := by decide +kernel
set_option maxRecDepth 20000 in
theorem ggX5_feed_X5_isIn : GoodIn wsX5_feed wsX5_isIn := goodIn_r _ [8] (by decide +kernel) (by decide +kernel)
set_option maxRecDepth 20000 in
theorem gX5_feed_X5_isIn : GoodIn wsX5_feed (va_wsS RX5 56 yX5_isIn wsX5_isIn) := goodIn_app (goodIn_of _ (by decide +kernel)) ggX5_feed_X5_isIn
set_option maxRecDepth 20000 in
theorem ggX5_feed_X5_no : GoodIn wsX5_feed wsX5_no := goodIn_r _ [12, 1, 13, 14, 15, 16, 17, 18, 19, 20, 21, 22, 23, 24, 25, 26, 27, 28, 29, 30, 31, 32, 33, 34] (by decide +kernel) (by decide +kernel)
set_option maxRecDepth 20000 in
theorem gX5_feed_X5_no : GoodIn wsX5_feed (wsV RX5 70 RX5 yX5_no wsX5_no) := goodIn_app (goodIn_of _ (by decide +kernel)) ggX5_feed_X5_no
theorem dX5_feed_0 : decode cX5_feed 0 = .ok (.aload_n 0, 1) := by decide +kernel
theorem dX5_feed_1 : decode cX5_feed 1 = .ok (.iconst 0, 1) := by decide +kernel
theorem dX5_feed_2 : decode cX5_feed 2 = .ok (.putfield 49, 3) := by decide +kernel
theorem dX5_feed_5 : decode cX5_feed 5 = .ok (.iload_n 3, 1) := by decide +kernel
theorem dX5_feed_6 : decode cX5_feed 6 = .ok (.iconst 1, 1) := by decide +kernel
theorem dX5_feed_7 : decode cX5_feed 7 = .ok (.bipush 8, 2) := by decide +kernel
theorem dX5_feed_9 : decode cX5_feed 9 = .ok (.invokestatic 56, 3) := by decide +kernel
theorem dX5_feed_12 : decode cX5_feed 12 = .ok (.ifCond .ne 9, 3) := by decide +kernel
theorem dX5_feed_15 : decode cX5_feed 15 = .ok (.aload_n 0, 1) := by decide +kernel
theorem dX5_feed_16 : decode cX5_feed 16 = .ok (.iconst 1, 1) := by decide +kernel
theorem dX5_feed_17 : decode cX5_feed 17 = .ok (.invokevirtual 70, 3) := by decide +kernel
theorem dX5_feed_20 : decode cX5_feed 20 = .ok (.ireturn, 1) := by decide +kernel
theorem dX5_feed_21 : decode cX5_feed 21 = .ok (.aload_n 0, 1) := by decide +kernel
theorem dX5_feed_22 : decode cX5_feed 22 = .ok (.getfield 78, 3) := by decide +kernel
theorem dX5_feed_25 : decode cX5_feed 25 = .ok (.iload_n 3, 1) := by decide +kernel
theorem dX5_feed_26 : decode cX5_feed 26 = .ok (.iadd, 1) := by decide +kernel
theorem dX5_feed_27 : decode cX5_feed 27 = .ok (.bipush 80, 2) := by decide +kernel
theorem dX5_feed_29 : decode cX5_feed 29 = .ok (.if_icmp .le 9, 3) := by decide +kernel
theorem dX5_feed_32 : decode cX5_feed 32 = .ok (.aload_n 0, 1) := by decide +kernel
theorem dX5_feed_33 : decode cX5_feed 33 = .ok (.iconst 2, 1) := by decide +kernel
theorem dX5_feed_34 : decode cX5_feed 34 = .ok (.invokevirtual 70, 3) := by decide +kernel
theorem dX5_feed_37 : decode cX5_feed 37 = .ok (.ireturn, 1) := by decide +kernel
theorem dX5_feed_38 : decode cX5_feed 38 = .ok (.iload_n 3, 1) := by decide +kernel
theorem dX5_feed_39 : decode cX5_feed 39 = .ok (.iconst 1, 1) := by decide +kernel
theorem dX5_feed_40 : decode cX5_feed 40 = .ok (.isub, 1) := by decide +kernel
theorem dX5_feed_41 : decode cX5_feed 41 = .ok (.istore 4, 2) := by decide +kernel
theorem dX5_feed_43 : decode cX5_feed 43 = .ok (.iload 4, 2) := by decide +kernel
theorem dX5_feed_45 : decode cX5_feed 45 = .ok (.ifCond .lt 40, 3) := by decide +kernel
theorem dX5_feed_48 : decode cX5_feed 48 = .ok (.aload_n 0, 1) := by decide +kernel
theorem dX5_feed_49 : decode cX5_feed 49 = .ok (.getfield 19, 3) := by decide +kernel
theorem dX5_feed_52 : decode cX5_feed 52 = .ok (.aload_n 0, 1) := by decide +kernel
theorem dX5_feed_53 : decode cX5_feed 53 = .ok (.getfield 78, 3) := by decide +kernel
theorem dX5_feed_56 : decode cX5_feed 56 = .ok (.lload_n 1, 1) := by decide +kernel
theorem dX5_feed_57 : decode cX5_feed 57 = .ok (.bipush 8, 2) := by decide +kernel
theorem dX5_feed_59 : decode cX5_feed 59 = .ok (.iload 4, 2) := by decide +kernel
theorem dX5_feed_61 : decode cX5_feed 61 = .ok (.imul, 1) := by decide +kernel
theorem dX5_feed_62 : decode cX5_feed 62 = .ok (.lshr, 1) := by decide +kernel
theorem dX5_feed_63 : decode cX5_feed 63 = .ok (.ldc2_w 81, 3) := by decide +kernel
theorem dX5_feed_66 : decode cX5_feed 66 = .ok (.land, 1) := by decide +kernel
theorem dX5_feed_67 : decode cX5_feed 67 = .ok (.l2i, 1) := by decide +kernel
theorem dX5_feed_68 : decode cX5_feed 68 = .ok (.iastore, 1) := by decide +kernel
theorem dX5_feed_69 : decode cX5_feed 69 = .ok (.aload_n 0, 1) := by decide +kernel
theorem dX5_feed_70 : decode cX5_feed 70 = .ok (.dup, 1) := by decide +kernel
theorem dX5_feed_71 : decode cX5_feed 71 = .ok (.getfield 78, 3) := by decide +kernel
theorem dX5_feed_74 : decode cX5_feed 74 = .ok (.iconst 1, 1) := by decide +kernel
theorem dX5_feed_75 : decode cX5_feed 75 = .ok (.iadd, 1) := by decide +kernel
theorem dX5_feed_76 : decode cX5_feed 76 = .ok (.putfield 78, 3) := by decide +kernel
theorem dX5_feed_79 : decode cX5_feed 79 = .ok (.iinc 4 (-1), 3) := by decide +kernel
theorem dX5_feed_82 : decode cX5_feed 82 = .ok (.goto (-39), 3) := by decide +kernel
theorem dX5_feed_85 : decode cX5_feed 85 = .ok (.aload_n 0, 1) := by decide +kernel
theorem dX5_feed_86 : decode cX5_feed 86 = .ok (.getfield 78, 3) := by decide +kernel
theorem dX5_feed_89 : decode cX5_feed 89 = .ok (.ireturn, 1) := by decide +kernel
set_option maxRecDepth 20000 in
theorem ggX5_fill_X5_isIn : GoodIn wsX5_fill wsX5_isIn := goodIn_r _ [7] (by decide +kernel) (by decide +kernel)
set_option maxRecDepth 20000 in
theorem gX5_fill_X5_isIn : GoodIn wsX5_fill (va_wsS RX5 56 yX5_isIn wsX5_isIn) := goodIn_app (goodIn_of _ (by decide +kernel)) ggX5_fill_X5_isIn
set_option maxRecDepth 20000 in
theorem ggX5_fill_X5_no : GoodIn wsX5_fill wsX5_no := goodIn_r _ [11, 1, 12, 13, 14, 15, 16, 17, 18, 19, 20, 21, 22, 23, 24, 25, 26, 27, 28, 29, 30, 31, 32, 33] (by decide +kernel) (by decide +kernel)
set_option maxRecDepth 20000 in
theorem gX5_fill_X5_no : GoodIn wsX5_fill (wsV RX5 70 RX5 yX5_no wsX5_no) := goodIn_app (goodIn_of _ (by decide +kernel)) ggX5_fill_X5_no
theorem dX5_fill_0 : decode cX5_fill 0 = .ok (.aload_n 0, 1) := by decide +kernel
theorem dX5_fill_1 : decode cX5_fill 1 = .ok (.iconst 0, 1) := by decide +kernel
theorem dX5_fill_2 : decode cX5_fill 2 = .ok (.putfield 49, 3) := by decide +kernel
theorem dX5_fill_5 : decode cX5_fill 5 = .ok (.iload_n 1, 1) := by decide +kernel
theorem dX5_fill_6 : decode cX5_fill 6 = .ok (.iconst 0, 1) := by decide +kernel
theorem dX5_fill_7 : decode cX5_fill 7 = .ok (.sipush 255, 3) := by decide +kernel
theorem dX5_fill_10 : decode cX5_fill 10 = .ok (.invokestatic 56, 3) := by decide +kernel
theorem dX5_fill_13 : decode cX5_fill 13 = .ok (.ifCond .eq 13, 3) := by decide +kernel
theorem dX5_fill_16 : decode cX5_fill 16 = .ok (.iload_n 2, 1) := by decide +kernel
theorem dX5_fill_17 : decode cX5_fill 17 = .ok (.iconst 1, 1) := by decide +kernel
theorem dX5_fill_18 : decode cX5_fill 18 = .ok (.bipush 80, 2) := by decide +kernel
theorem dX5_fill_20 : decode cX5_fill 20 = .ok (.invokestatic 56, 3) := by decide +kernel
theorem dX5_fill_23 : decode cX5_fill 23 = .ok (.ifCond .ne 9, 3) := by decide +kernel
theorem dX5_fill_26 : decode cX5_fill 26 = .ok (.aload_n 0, 1) := by decide +kernel
theorem dX5_fill_27 : decode cX5_fill 27 = .ok (.iconst 1, 1) := by decide +kernel
theorem dX5_fill_28 : decode cX5_fill 28 = .ok (.invokevirtual 70, 3) := by decide +kernel
theorem dX5_fill_31 : decode cX5_fill 31 = .ok (.ireturn, 1) := by decide +kernel
theorem dX5_fill_32 : decode cX5_fill 32 = .ok (.aload_n 0, 1) := by decide +kernel
theorem dX5_fill_33 : decode cX5_fill 33 = .ok (.getfield 78, 3) := by decide +kernel
theorem dX5_fill_36 : decode cX5_fill 36 = .ok (.iload_n 2, 1) := by decide +kernel
theorem dX5_fill_37 : decode cX5_fill 37 = .ok (.iadd, 1) := by decide +kernel
theorem dX5_fill_38 : decode cX5_fill 38 = .ok (.bipush 80, 2) := by decide +kernel
theorem dX5_fill_40 : decode cX5_fill 40 = .ok (.if_icmp .le 9, 3) := by decide +kernel
theorem dX5_fill_43 : decode cX5_fill 43 = .ok (.aload_n 0, 1) := by decide +kernel
theorem dX5_fill_44 : decode cX5_fill 44 = .ok (.iconst 2, 1) := by decide +kernel
theorem dX5_fill_45 : decode cX5_fill 45 = .ok (.invokevirtual 70, 3) := by decide +kernel
theorem dX5_fill_48 : decode cX5_fill 48 = .ok (.ireturn, 1) := by decide +kernel
theorem dX5_fill_49 : decode cX5_fill 49 = .ok (.iconst 0, 1) := by decide +kernel
theorem dX5_fill_50 : decode cX5_fill 50 = .ok (.istore_n 3, 1) := by decide +kernel
theorem dX5_fill_51 : decode cX5_fill 51 = .ok (.iload_n 3, 1) := by decide +kernel
theorem dX5_fill_52 : decode cX5_fill 52 = .ok (.iload_n 2, 1) := by decide +kernel
theorem dX5_fill_53 : decode cX5_fill 53 = .ok (.if_icmp .ge 21, 3) := by decide +kernel
theorem dX5_fill_56 : decode cX5_fill 56 = .ok (.aload_n 0, 1) := by decide +kernel
theorem dX5_fill_57 : decode cX5_fill 57 = .ok (.getfield 19, 3) := by decide +kernel
theorem dX5_fill_60 : decode cX5_fill 60 = .ok (.aload_n 0, 1) := by decide +kernel
theorem dX5_fill_61 : decode cX5_fill 61 = .ok (.getfield 78, 3) := by decide +kernel
theorem dX5_fill_64 : decode cX5_fill 64 = .ok (.iload_n 3, 1) := by decide +kernel
theorem dX5_fill_65 : decode cX5_fill 65 = .ok (.iadd, 1) := by decide +kernel
theorem dX5_fill_66 : decode cX5_fill 66 = .ok (.iload_n 1, 1) := by decide +kernel
theorem dX5_fill_67 : decode cX5_fill 67 = .ok (.iastore, 1) := by decide +kernel
theorem dX5_fill_68 : decode cX5_fill 68 = .ok (.iinc 3 1, 3) := by decide +kernel
theorem dX5_fill_71 : decode cX5_fill 71 = .ok (.goto (-20), 3) := by decide +kernel
theorem dX5_fill_74 : decode cX5_fill 74 = .ok (.aload_n 0, 1) := by decide +kernel
theorem dX5_fill_75 : decode cX5_fill 75 = .ok (.dup, 1) := by decide +kernel
theorem dX5_fill_76 : decode cX5_fill 76 = .ok (.getfield 78, 3) := by decide +kernel
theorem dX5_fill_79 : decode cX5_fill 79 = .ok (.iload_n 2, 1) := by decide +kernel
theorem dX5_fill_80 : decode cX5_fill 80 = .ok (.iadd, 1) := by decide +kernel
theorem dX5_fill_81 : decode cX5_fill 81 = .ok (.putfield 78, 3) := by decide +kernel
theorem dX5_fill_84 : decode cX5_fill 84 = .ok (.aload_n 0, 1) := by decide +kernel
theorem dX5_fill_85 : decode cX5_fill 85 = .ok (.getfield 78, 3) := by decide +kernel
theorem dX5_fill_88 : decode cX5_fill 88 = .ok (.ireturn, 1) := by decide +kernel
set_option maxRecDepth 20000 in
theorem ggX5_cut_X5_isIn : GoodIn wsX5_cut wsX5_isIn := goodIn_r _ [6] (by decide +kernel) (by decide +kernel)
set_option maxRecDepth 20000 in
theorem gX5_cut_X5_isIn : GoodIn wsX5_cut (va_wsS RX5 56 yX5_isIn wsX5_isIn) := goodIn_app (goodIn_of _ (by decide +kernel)) ggX5_cut_X5_isIn
set_option maxRecDepth 20000 in
theorem ggX5_cut_X5_no : GoodIn wsX5_cut wsX5_no := goodIn_r _ [10, 1, 11, 12, 13, 14, 15, 16, 17, 18, 19, 20, 21, 22, 23, 24, 25, 26, 27, 28, 29, 30, 31, 32] (by decide +kernel) (by decide +kernel)
set_option maxRecDepth 20000 in
theorem gX5_cut_X5_no : GoodIn wsX5_cut (wsV RX5 70 RX5 yX5_no wsX5_no) := goodIn_app (goodIn_of _ (by decide +kernel)) ggX5_cut_X5_no
theorem dX5_cut_0 : decode cX5_cut 0 = .ok (.aload_n 0, 1) := by decide +kernel
theorem dX5_cut_1 : decode cX5_cut 1 = .ok (.iconst 0, 1) := by decide +kernel
theorem dX5_cut_2 : decode cX5_cut 2 = .ok (.putfield 49, 3) := by decide +kernel
theorem dX5_cut_5 : decode cX5_cut 5 = .ok (.iload_n 1, 1) := by decide +kernel
theorem dX5_cut_6 : decode cX5_cut 6 = .ok (.iconst 0, 1) := by decide +kernel
theorem dX5_cut_7 : decode cX5_cut 7 = .ok (.aload_n 0, 1) := by decide +kernel
theorem dX5_cut_8 : decode cX5_cut 8 = .ok (.getfield 78, 3) := by decide +kernel
theorem dX5_cut_11 : decode cX5_cut 11 = .ok (.invokestatic 56, 3) := by decide +kernel
theorem dX5_cut_14 : decode cX5_cut 14 = .ok (.ifCond .ne 9, 3) := by decide +kernel
theorem dX5_cut_17 : decode cX5_cut 17 = .ok (.aload_n 0, 1) := by decide +kernel
theorem dX5_cut_18 : decode cX5_cut 18 = .ok (.iconst 1, 1) := by decide +kernel
theorem dX5_cut_19 : decode cX5_cut 19 = .ok (.invokevirtual 70, 3) := by decide +kernel
theorem dX5_cut_22 : decode cX5_cut 22 = .ok (.ireturn, 1) := by decide +kernel
theorem dX5_cut_23 : decode cX5_cut 23 = .ok (.aload_n 0, 1) := by decide +kernel
theorem dX5_cut_24 : decode cX5_cut 24 = .ok (.dup, 1) := by decide +kernel
theorem dX5_cut_25 : decode cX5_cut 25 = .ok (.getfield 78, 3) := by decide +kernel
theorem dX5_cut_28 : decode cX5_cut 28 = .ok (.iload_n 1, 1) := by decide +kernel
theorem dX5_cut_29 : decode cX5_cut 29 = .ok (.isub, 1) := by decide +kernel
theorem dX5_cut_30 : decode cX5_cut 30 = .ok (.putfield 78, 3) := by decide +kernel
theorem dX5_cut_33 : decode cX5_cut 33 = .ok (.aload_n 0, 1) := by decide +kernel
theorem dX5_cut_34 : decode cX5_cut 34 = .ok (.getfield 78, 3) := by decide +kernel
theorem dX5_cut_37 : decode cX5_cut 37 = .ok (.ireturn, 1) := by decide +kernel
theorem dX5_size_0 : decode cX5_size 0 = .ok (.aload_n 0, 1) := by decide +kernel
theorem dX5_size_1 : decode cX5_size 1 = .ok (.iconst 0, 1) := by decide +kernel
theorem dX5_size_2 : decode cX5_size 2 = .ok (.putfield 49, 3) := by decide +kernel
theorem dX5_size_5 : decode cX5_size 5 = .ok (.aload_n 0, 1) := by decide +kernel
theorem dX5_size_6 : decode cX5_size 6 = .ok (.getfield 78, 3) := by decide +kernel
theorem dX5_size_9 : decode cX5_size 9 = .ok (.ireturn, 1) := by decide +kernel
set_option maxRecDepth 20000 in
theorem ggX5_byteAt_X5_isIn : GoodIn wsX5_byteAt wsX5_isIn := goodIn_r _ [7] (by decide +kernel) (by decide +kernel)
set_option maxRecDepth 20000 in
theorem gX5_byteAt_X5_isIn : GoodIn wsX5_byteAt (va_wsS RX5 56 yX5_isIn wsX5_isIn) := goodIn_app (goodIn_of _ (by decide +kernel)) ggX5_byteAt_X5_isIn
set_option maxRecDepth 20000 in
theorem ggX5_byteAt_X5_no : GoodIn wsX5_byteAt wsX5_no := goodIn_r _ [11, 1, 12, 13, 14, 15, 16, 17, 18, 19, 20, 21, 22, 23, 24, 25, 26, 27, 28, 29, 30, 31, 32, 33] (by decide +kernel) (by decide +kernel)
set_option maxRecDepth 20000 in
theorem gX5_byteAt_X5_no : GoodIn wsX5_byteAt (wsV RX5 70 RX5 yX5_no wsX5_no) := goodIn_app (goodIn_of _ (by decide +kernel)) ggX5_byteAt_X5_no
theorem dX5_byteAt_0 : decode cX5_byteAt 0 = .ok (.aload_n 0, 1) := by decide +kernel
theorem dX5_byteAt_1 : decode cX5_byteAt 1 = .ok (.iconst 0, 1) := by decide +kernel
theorem dX5_byteAt_2 : decode cX5_byteAt 2 = .ok (.putfield 49, 3) := by decide +kernel
theorem dX5_byteAt_5 : decode cX5_byteAt 5 = .ok (.iload_n 1, 1) := by decide +kernel
theorem dX5_byteAt_6 : decode cX5_byteAt 6 = .ok (.iconst 0, 1) := by decide +kernel
theorem dX5_byteAt_7 : decode cX5_byteAt 7 = .ok (.aload_n 0, 1) := by decide +kernel
theorem dX5_byteAt_8 : decode cX5_byteAt 8 = .ok (.getfield 78, 3) := by decide +kernel
theorem dX5_byteAt_11 : decode cX5_byteAt 11 = .ok (.iconst 1, 1) := by decide +kernel
theorem dX5_byteAt_12 : decode cX5_byteAt 12 = .ok (.isub, 1) := by decide +kernel
theorem dX5_byteAt_13 : decode cX5_byteAt 13 = .ok (.invokestatic 56, 3) := by decide +kernel
theorem dX5_byteAt_16 : decode cX5_byteAt 16 = .ok (.ifCond .eq 12, 3) := by decide +kernel
theorem dX5_byteAt_19 : decode cX5_byteAt 19 = .ok (.aload_n 0, 1) := by decide +kernel
theorem dX5_byteAt_20 : decode cX5_byteAt 20 = .ok (.getfield 19, 3) := by decide +kernel
theorem dX5_byteAt_23 : decode cX5_byteAt 23 = .ok (.iload_n 1, 1) := by decide +kernel
theorem dX5_byteAt_24 : decode cX5_byteAt 24 = .ok (.iaload, 1) := by decide +kernel
theorem dX5_byteAt_25 : decode cX5_byteAt 25 = .ok (.goto 8, 3) := by decide +kernel
theorem dX5_byteAt_28 : decode cX5_byteAt 28 = .ok (.aload_n 0, 1) := by decide +kernel
theorem dX5_byteAt_29 : decode cX5_byteAt 29 = .ok (.iconst 1, 1) := by decide +kernel
theorem dX5_byteAt_30 : decode cX5_byteAt 30 = .ok (.invokevirtual 70, 3) := by decide +kernel
theorem dX5_byteAt_33 : decode cX5_byteAt 33 = .ok (.ireturn, 1) := by decide +kernel
set_option maxRecDepth 20000 in
theorem ggX5_reset_X5_clear : GoodIn wsX5_reset wsX5_clear := goodIn_r _ [7, 8, 9, 10, 11, 12, 13, 2, 14, 15, 16, 17, 18, 19, 20, 21, 22, 23, 24, 25, 26, 27, 28, 29, 30, 31, 32, 33, 34, 35, 36] (by decide +kernel) (by decide +kernel)
set_option maxRecDepth 20000 in
theorem gX5_reset_X5_clear : GoodIn wsX5_reset (wsV RX5 46 RX5 yX5_clear wsX5_clear) := goodIn_app (goodIn_of _ (by decide +kernel)) ggX5_reset_X5_clear
theorem dX5_reset_0 : decode cX5_reset 0 = .ok (.aload_n 0, 1) := by decide +kernel
theorem dX5_reset_1 : decode cX5_reset 1 = .ok (.iconst 0, 1) := by decide +kernel
theorem dX5_reset_2 : decode cX5_reset 2 = .ok (.putfield 49, 3) := by decide +kernel
theorem dX5_reset_5 : decode cX5_reset 5 = .ok (.aload_n 0, 1) := by decide +kernel
theorem dX5_reset_6 : decode cX5_reset 6 = .ok (.getfield 63, 3) := by decide +kernel
theorem dX5_reset_9 : decode cX5_reset 9 = .ok (.istore_n 1, 1) := by decide +kernel
theorem dX5_reset_10 : decode cX5_reset 10 = .ok (.aload_n 0, 1) := by decide +kernel
theorem dX5_reset_11 : decode cX5_reset 11 = .ok (.invokevirtual 46, 3) := by decide +kernel
theorem dX5_reset_14 : decode cX5_reset 14 = .ok (.iload_n 1, 1) := by decide +kernel
theorem dX5_reset_15 : decode cX5_reset 15 = .ok (.ireturn, 1) := by decide +kernel
theorem dX5_phase_0 : decode cX5_phase 0 = .ok (.iconst 0, 1) := by decide +kernel
theorem dX5_phase_1 : decode cX5_phase 1 = .ok (.istore_n 1, 1) := by decide +kernel
theorem dX5_phase_2 : decode cX5_phase 2 = .ok (.aload_n 0, 1) := by decide +kernel
theorem dX5_phase_3 : decode cX5_phase 3 = .ok (.getfield 60, 3) := by decide +kernel
theorem dX5_phase_6 : decode cX5_phase 6 = .ok (.iload_n 1, 1) := by decide +kernel
theorem dX5_phase_7 : decode cX5_phase 7 = .ok (.ishr, 1) := by decide +kernel
theorem dX5_phase_8 : decode cX5_phase 8 = .ok (.iconst 1, 1) := by decide +kernel
theorem dX5_phase_9 : decode cX5_phase 9 = .ok (.if_icmp .le 9, 3) := by decide +kernel
theorem dX5_phase_12 : decode cX5_phase 12 = .ok (.iinc 1 1, 3) := by decide +kernel
theorem dX5_phase_15 : decode cX5_phase 15 = .ok (.goto (-13), 3) := by decide +kernel
theorem dX5_phase_18 : decode cX5_phase 18 = .ok (.iload_n 1, 1) := by decide +kernel
theorem dX5_phase_19 : decode cX5_phase 19 = .ok (.ireturn, 1) := by decide +kernel
end
section
theorem dX5_context_0 : decode cX5_context 0 = .ok (.iconst 0, 1) := by decide +kernel
theorem dX5_context_1 : decode cX5_context 1 = .ok (.istore_n 2, 1) := by decide +kernel
theorem dX5_context_2 : decode cX5_context 2 = .ok (.iconst 0, 1) := by decide +kernel
theorem dX5_context_3 : decode cX5_context 3 = .ok (.istore_n 3, 1) := by decide +kernel
theorem dX5_context_4 : decode cX5_context 4 = .ok (.iload_n 3, 1) := by decide +kernel
theorem dX5_context_5 : decode cX5_context 5 = .ok (.aload_n 0, 1) := by decide +kernel
theorem dX5_context_6 : decode cX5_context 6 = .ok (.getfield 9, 3) := by decide +kernel
theorem dX5_context_9 : decode cX5_context 9 = .ok (.iload_n 1, 1) := by decide +kernel
theorem dX5_context_10 : decode cX5_context 10 = .ok (.iaload, 1) := by decide +kernel
theorem dX5_context_11 : decode cX5_context 11 = .ok (.if_icmp .ge 24, 3) := by decide +kernel
theorem dX5_context_14 : decode cX5_context 14 = .ok (.sipush 257, 3) := by decide +kernel
theorem dX5_context_17 : decode cX5_context 17 = .ok (.iload_n 2, 1) := by decide +kernel
theorem dX5_context_18 : decode cX5_context 18 = .ok (.imul, 1) := by decide +kernel
theorem dX5_context_19 : decode cX5_context 19 = .ok (.iconst 1, 1) := by decide +kernel
theorem dX5_context_20 : decode cX5_context 20 = .ok (.iadd, 1) := by decide +kernel
theorem dX5_context_21 : decode cX5_context 21 = .ok (.aload_n 0, 1) := by decide +kernel
theorem dX5_context_22 : decode cX5_context 22 = .ok (.getfield 37, 3) := by decide +kernel
theorem dX5_context_25 : decode cX5_context 25 = .ok (.iload_n 3, 1) := by decide +kernel
theorem dX5_context_26 : decode cX5_context 26 = .ok (.iaload, 1) := by decide +kernel
theorem dX5_context_27 : decode cX5_context 27 = .ok (.iadd, 1) := by decide +kernel
theorem dX5_context_28 : decode cX5_context 28 = .ok (.istore_n 2, 1) := by decide +kernel
theorem dX5_context_29 : decode cX5_context 29 = .ok (.iinc 3 1, 3) := by decide +kernel
theorem dX5_context_32 : decode cX5_context 32 = .ok (.goto (-28), 3) := by decide +kernel
theorem dX5_context_35 : decode cX5_context 35 = .ok (.iload_n 2, 1) := by decide +kernel
theorem dX5_context_36 : decode cX5_context 36 = .ok (.ireturn, 1) := by decide +kernel
set_option maxRecDepth 20000 in
theorem ggX5_indexOf_X5_context : GoodIn wsX5_indexOf wsX5_context := goodIn_r _ [7, 8, 9, 10, 11, 12, 13, 14, 15, 16, 17, 18, 19, 20, 21, 22, 23, 24, 25, 26, 27, 28, 29, 30, 31] (by decide +kernel) (by decide +kernel)
set_option maxRecDepth 20000 in
theorem gX5_indexOf_X5_context : GoodIn wsX5_indexOf (wsV RX5 83 RX5 yX5_context wsX5_context) := goodIn_app (goodIn_of _ (by decide +kernel)) ggX5_indexOf_X5_context
theorem dX5_indexOf_0 : decode cX5_indexOf 0 = .ok (.bipush 73, 2) := by decide +kernel
theorem dX5_indexOf_2 : decode cX5_indexOf 2 = .ok (.aload_n 0, 1) := by decide +kernel
theorem dX5_indexOf_3 : decode cX5_indexOf 3 = .ok (.iload_n 1, 1) := by decide +kernel
theorem dX5_indexOf_4 : decode cX5_indexOf 4 = .ok (.invokevirtual 83, 3) := by decide +kernel
theorem dX5_indexOf_7 : decode cX5_indexOf 7 = .ok (.imul, 1) := by decide +kernel
theorem dX5_indexOf_8 : decode cX5_indexOf 8 = .ok (.aload_n 0, 1) := by decide +kernel
theorem dX5_indexOf_9 : decode cX5_indexOf 9 = .ok (.getfield 60, 3) := by decide +kernel
theorem dX5_indexOf_12 : decode cX5_indexOf 12 = .ok (.iadd, 1) := by decide +kernel
theorem dX5_indexOf_13 : decode cX5_indexOf 13 = .ok (.iconst 1, 1) := by decide +kernel
theorem dX5_indexOf_14 : decode cX5_indexOf 14 = .ok (.aload_n 0, 1) := by decide +kernel
theorem dX5_indexOf_15 : decode cX5_indexOf 15 = .ok (.getfield 16, 3) := by decide +kernel
theorem dX5_indexOf_18 : decode cX5_indexOf 18 = .ok (.iload_n 1, 1) := by decide +kernel
theorem dX5_indexOf_19 : decode cX5_indexOf 19 = .ok (.iaload, 1) := by decide +kernel
theorem dX5_indexOf_20 : decode cX5_indexOf 20 = .ok (.ishl, 1) := by decide +kernel
theorem dX5_indexOf_21 : decode cX5_indexOf 21 = .ok (.irem, 1) := by decide +kernel
theorem dX5_indexOf_22 : decode cX5_indexOf 22 = .ok (.ireturn, 1) := by decide +kernel
set_option maxRecDepth 20000 in
theorem ggX5_predictionOf_X5_indexOf : GoodIn wsX5_predictionOf wsX5_indexOf := goodIn_r _ [6, 7, 8, 9, 10, 11, 5, 12, 13, 14, 15, 16, 17, 18, 19, 20, 21, 22, 23, 24, 25, 26, 27, 28, 29, 30, 31, 32, 33, 34, 35, 36] (by decide +kernel) (by decide +kernel)
set_option maxRecDepth 20000 in
theorem gX5_predictionOf_X5_indexOf : GoodIn wsX5_predictionOf (wsV RX5 86 RX5 yX5_indexOf wsX5_indexOf) := goodIn_app (goodIn_of _ (by decide +kernel)) ggX5_predictionOf_X5_indexOf
theorem dX5_predictionOf_0 : decode cX5_predictionOf 0 = .ok (.aload_n 0, 1) := by decide +kernel
theorem dX5_predictionOf_1 : decode cX5_predictionOf 1 = .ok (.getfield 22, 3) := by decide +kernel
theorem dX5_predictionOf_4 : decode cX5_predictionOf 4 = .ok (.sipush 512, 3) := by decide +kernel
theorem dX5_predictionOf_7 : decode cX5_predictionOf 7 = .ok (.iload_n 1, 1) := by decide +kernel
theorem dX5_predictionOf_8 : decode cX5_predictionOf 8 = .ok (.imul, 1) := by decide +kernel
theorem dX5_predictionOf_9 : decode cX5_predictionOf 9 = .ok (.aload_n 0, 1) := by decide +kernel
theorem dX5_predictionOf_10 : decode cX5_predictionOf 10 = .ok (.iload_n 1, 1) := by decide +kernel
theorem dX5_predictionOf_11 : decode cX5_predictionOf 11 = .ok (.invokevirtual 86, 3) := by decide +kernel
theorem dX5_predictionOf_14 : decode cX5_predictionOf 14 = .ok (.iadd, 1) := by decide +kernel
theorem dX5_predictionOf_15 : decode cX5_predictionOf 15 = .ok (.iaload, 1) := by decide +kernel
theorem dX5_predictionOf_16 : decode cX5_predictionOf 16 = .ok (.ireturn, 1) := by decide +kernel
set_option maxRecDepth 20000 in
theorem ggX5_mix_X5_phase : GoodIn wsX5_mix wsX5_phase := goodIn_r _ [15, 16, 33, 34, 35, 36, 37, 38, 39, 40, 41, 42, 43, 44, 45, 46, 47, 48, 49, 50, 51, 52, 53, 54] (by decide +kernel) (by decide +kernel)
set_option maxRecDepth 20000 in
theorem gX5_mix_X5_phase : GoodIn wsX5_mix (wsV RX5 89 RX5 yX5_phase wsX5_phase) := goodIn_app (goodIn_of _ (by decide +kernel)) ggX5_mix_X5_phase
set_option maxRecDepth 20000 in
theorem ggX5_mix_X5_predictionOf : GoodIn wsX5_mix wsX5_predictionOf := goodIn_r _ [20, 21, 22, 23, 24, 14, 25, 16, 26, 27, 28, 29, 30, 31, 32, 33, 34, 35, 36, 37, 38, 39, 40, 41, 42, 43, 44, 45, 46, 47, 48, 49, 50, 51, 52, 53, 54] (by decide +kernel) (by decide +kernel)
set_option maxRecDepth 20000 in
theorem gX5_mix_X5_predictionOf : GoodIn wsX5_mix (wsV RX5 93 RX5 yX5_predictionOf wsX5_predictionOf) := goodIn_app (goodIn_of _ (by decide +kernel)) ggX5_mix_X5_predictionOf
theorem dX5_mix_0 : decode cX5_mix 0 = .ok (.aload_n 0, 1) := by decide +kernel
theorem dX5_mix_1 : decode cX5_mix 1 = .ok (.getfield 53, 3) := by decide +kernel
theorem dX5_mix_4 : decode cX5_mix 4 = .ok (.ifCond .ne 7, 3) := by decide +kernel
theorem dX5_mix_7 : decode cX5_mix 7 = .ok (.sipush 2048, 3) := by decide +kernel
theorem dX5_mix_10 : decode cX5_mix 10 = .ok (.ireturn, 1) := by decide +kernel
theorem dX5_mix_11 : decode cX5_mix 11 = .ok (.lconst 0, 1) := by decide +kernel
theorem dX5_mix_12 : decode cX5_mix 12 = .ok (.lstore_n 1, 1) := by decide +kernel
theorem dX5_mix_13 : decode cX5_mix 13 = .ok (.lconst 0, 1) := by decide +kernel
theorem dX5_mix_14 : decode cX5_mix 14 = .ok (.lstore_n 3, 1) := by decide +kernel
theorem dX5_mix_15 : decode cX5_mix 15 = .ok (.iconst 0, 1) := by decide +kernel
theorem dX5_mix_16 : decode cX5_mix 16 = .ok (.istore 5, 2) := by decide +kernel
theorem dX5_mix_18 : decode cX5_mix 18 = .ok (.iload 5, 2) := by decide +kernel
theorem dX5_mix_20 : decode cX5_mix 20 = .ok (.aload_n 0, 1) := by decide +kernel
theorem dX5_mix_21 : decode cX5_mix 21 = .ok (.getfield 53, 3) := by decide +kernel
theorem dX5_mix_24 : decode cX5_mix 24 = .ok (.if_icmp .ge 46, 3) := by decide +kernel
theorem dX5_mix_27 : decode cX5_mix 27 = .ok (.aload_n 0, 1) := by decide +kernel
theorem dX5_mix_28 : decode cX5_mix 28 = .ok (.getfield 31, 3) := by decide +kernel
theorem dX5_mix_31 : decode cX5_mix 31 = .ok (.bipush 8, 2) := by decide +kernel
theorem dX5_mix_33 : decode cX5_mix 33 = .ok (.iload 5, 2) := by decide +kernel
theorem dX5_mix_35 : decode cX5_mix 35 = .ok (.imul, 1) := by decide +kernel
theorem dX5_mix_36 : decode cX5_mix 36 = .ok (.aload_n 0, 1) := by decide +kernel
theorem dX5_mix_37 : decode cX5_mix 37 = .ok (.invokevirtual 89, 3) := by decide +kernel
theorem dX5_mix_40 : decode cX5_mix 40 = .ok (.iadd, 1) := by decide +kernel
theorem dX5_mix_41 : decode cX5_mix 41 = .ok (.iaload, 1) := by decide +kernel
theorem dX5_mix_42 : decode cX5_mix 42 = .ok (.istore 6, 2) := by decide +kernel
theorem dX5_mix_44 : decode cX5_mix 44 = .ok (.lload_n 1, 1) := by decide +kernel
theorem dX5_mix_45 : decode cX5_mix 45 = .ok (.iload 6, 2) := by decide +kernel
theorem dX5_mix_47 : decode cX5_mix 47 = .ok (.i2l, 1) := by decide +kernel
theorem dX5_mix_48 : decode cX5_mix 48 = .ok (.aload_n 0, 1) := by decide +kernel
theorem dX5_mix_49 : decode cX5_mix 49 = .ok (.iload 5, 2) := by decide +kernel
theorem dX5_mix_51 : decode cX5_mix 51 = .ok (.invokevirtual 93, 3) := by decide +kernel
theorem dX5_mix_54 : decode cX5_mix 54 = .ok (.i2l, 1) := by decide +kernel
theorem dX5_mix_55 : decode cX5_mix 55 = .ok (.lmul, 1) := by decide +kernel
theorem dX5_mix_56 : decode cX5_mix 56 = .ok (.ladd, 1) := by decide +kernel
theorem dX5_mix_57 : decode cX5_mix 57 = .ok (.lstore_n 1, 1) := by decide +kernel
theorem dX5_mix_58 : decode cX5_mix 58 = .ok (.lload_n 3, 1) := by decide +kernel
theorem dX5_mix_59 : decode cX5_mix 59 = .ok (.iload 6, 2) := by decide +kernel
theorem dX5_mix_61 : decode cX5_mix 61 = .ok (.i2l, 1) := by decide +kernel
theorem dX5_mix_62 : decode cX5_mix 62 = .ok (.ladd, 1) := by decide +kernel
theorem dX5_mix_63 : decode cX5_mix 63 = .ok (.lstore_n 3, 1) := by decide +kernel
theorem dX5_mix_64 : decode cX5_mix 64 = .ok (.iinc 5 1, 3) := by decide +kernel
theorem dX5_mix_67 : decode cX5_mix 67 = .ok (.goto (-49), 3) := by decide +kernel
theorem dX5_mix_70 : decode cX5_mix 70 = .ok (.lconst 1, 1) := by decide +kernel
theorem dX5_mix_71 : decode cX5_mix 71 = .ok (.ldc2_w 96, 3) := by decide +kernel
theorem dX5_mix_74 : decode cX5_mix 74 = .ok (.lload_n 1, 1) := by decide +kernel
theorem dX5_mix_75 : decode cX5_mix 75 = .ok (.lload_n 3, 1) := by decide +kernel
theorem dX5_mix_76 : decode cX5_mix 76 = .ok (.ldiv, 1) := by decide +kernel
theorem dX5_mix_77 : decode cX5_mix 77 = .ok (.invokestatic 98, 3) := by decide +kernel
theorem dX5_mix_80 : decode cX5_mix 80 = .ok (.invokestatic 104, 3) := by decide +kernel
theorem dX5_mix_83 : decode cX5_mix 83 = .ok (.l2i, 1) := by decide +kernel
theorem dX5_mix_84 : decode cX5_mix 84 = .ok (.ireturn, 1) := by decide +kernel
theorem dX5_quality_0 : decode cX5_quality 0 = .ok (.iload_n 1, 1) := by decide +kernel
theorem dX5_quality_1 : decode cX5_quality 1 = .ok (.ifCond .eq 7, 3) := by decide +kernel
theorem dX5_quality_4 : decode cX5_quality 4 = .ok (.iload_n 0, 1) := by decide +kernel
theorem dX5_quality_5 : decode cX5_quality 5 = .ok (.goto 8, 3) := by decide +kernel
theorem dX5_quality_8 : decode cX5_quality 8 = .ok (.sipush 4096, 3) := by decide +kernel
theorem dX5_quality_11 : decode cX5_quality 11 = .ok (.iload_n 0, 1) := by decide +kernel
theorem dX5_quality_12 : decode cX5_quality 12 = .ok (.isub, 1) := by decide +kernel
theorem dX5_quality_13 : decode cX5_quality 13 = .ok (.ireturn, 1) := by decide +kernel
set_option maxRecDepth 20000 in
theorem ggX5_learn_X5_mix : GoodIn wsX5_learn wsX5_mix := goodIn_r _ [24, 2, 3, 25, 26, 27, 7, 28, 29, 30, 31, 32, 33, 34, 23, 35, 15, 36, 37, 38, 39, 12, 40, 41, 42, 43, 44, 45, 46, 47, 48, 49, 18, 53, 54, 55, 56, 57, 58, 59, 60, 61, 62, 63, 64, 65, 66, 67, 68, 69, 70, 71, 72, 73, 74] (by decide +kernel) (by decide +kernel)
set_option maxRecDepth 20000 in
theorem gX5_learn_X5_mix : GoodIn wsX5_learn (wsV RX5 107 RX5 yX5_mix wsX5_mix) := goodIn_app (goodIn_of _ (by decide +kernel)) ggX5_learn_X5_mix
set_option maxRecDepth 20000 in
theorem ggX5_learn_X5_quality : GoodIn wsX5_learn wsX5_quality := goodIn_r _ [52] (by decide +kernel) (by decide +kernel)
set_option maxRecDepth 20000 in
theorem gX5_learn_X5_quality : GoodIn wsX5_learn (va_wsS RX5 110 yX5_quality wsX5_quality) := goodIn_app (goodIn_of _ (by decide +kernel)) ggX5_learn_X5_quality
set_option maxRecDepth 20000 in
theorem ggX5_learn_X5_predictionOf : GoodIn wsX5_learn wsX5_predictionOf := goodIn_r _ [39, 12, 40, 41, 42, 23, 43, 15, 44, 45, 46, 47, 48, 49, 18, 53, 54, 55, 56, 57, 58, 59, 60, 61, 62, 63, 64, 65, 66, 67, 68, 69, 70, 71, 72, 73, 74] (by decide +kernel) (by decide +kernel)
set_option maxRecDepth 20000 in
theorem gX5_learn_X5_predictionOf : GoodIn wsX5_learn (wsV RX5 93 RX5 yX5_predictionOf wsX5_predictionOf) := goodIn_app (goodIn_of _ (by decide +kernel)) ggX5_learn_X5_predictionOf
set_option maxRecDepth 20000 in
theorem ggX5_learn_X5_phase : GoodIn wsX5_learn wsX5_phase := goodIn_r _ [35, 15, 53, 54, 55, 56, 57, 58, 59, 60, 61, 62, 63, 64, 65, 66, 67, 68, 69, 70, 71, 72, 73, 74] (by decide +kernel) (by decide +kernel)
set_option maxRecDepth 20000 in
theorem gX5_learn_X5_phase : GoodIn wsX5_learn (wsV RX5 89 RX5 yX5_phase wsX5_phase) := goodIn_app (goodIn_of _ (by decide +kernel)) ggX5_learn_X5_phase
set_option maxRecDepth 20000 in
theorem ggX5_learn_X5_indexOf : GoodIn wsX5_learn wsX5_indexOf := goodIn_r _ [43, 15, 44, 45, 46, 47, 23, 48, 49, 18, 53, 54, 55, 56, 57, 58, 59, 60, 61, 62, 63, 64, 65, 66, 67, 68, 69, 70, 71, 72, 73, 74] (by decide +kernel) (by decide +kernel)
set_option maxRecDepth 20000 in
theorem gX5_learn_X5_indexOf : GoodIn wsX5_learn (wsV RX5 86 RX5 yX5_indexOf wsX5_indexOf) := goodIn_app (goodIn_of _ (by decide +kernel)) ggX5_learn_X5_indexOf
set_option maxRecDepth 20000 in
theorem ggX5_learn_X5_context : GoodIn wsX5_learn wsX5_context := goodIn_r _ [48, 49, 18, 53, 54, 55, 56, 57, 58, 59, 60, 61, 62, 63, 64, 65, 66, 67, 68, 69, 70, 71, 72, 73, 74] (by decide +kernel) (by decide +kernel)
set_option maxRecDepth 20000 in
theorem gX5_learn_X5_context : GoodIn wsX5_learn (wsV RX5 83 RX5 yX5_context wsX5_context) := goodIn_app (goodIn_of _ (by decide +kernel)) ggX5_learn_X5_context
theorem dX5_learn_0 : decode cX5_learn 0 = .ok (.aload_n 0, 1) := by decide +kernel
theorem dX5_learn_1 : decode cX5_learn 1 = .ok (.invokevirtual 107, 3) := by decide +kernel
theorem dX5_learn_4 : decode cX5_learn 4 = .ok (.iload_n 1, 1) := by decide +kernel
theorem dX5_learn_5 : decode cX5_learn 5 = .ok (.invokestatic 110, 3) := by decide +kernel
theorem dX5_learn_8 : decode cX5_learn 8 = .ok (.istore_n 2, 1) := by decide +kernel
theorem dX5_learn_9 : decode cX5_learn 9 = .ok (.aload_n 0, 1) := by decide +kernel
theorem dX5_learn_10 : decode cX5_learn 10 = .ok (.dup, 1) := by decide +kernel
theorem dX5_learn_11 : decode cX5_learn 11 = .ok (.getfield 66, 3) := by decide +kernel
theorem dX5_learn_14 : decode cX5_learn 14 = .ok (.sipush 4096, 3) := by decide +kernel
theorem dX5_learn_17 : decode cX5_learn 17 = .ok (.iload_n 2, 1) := by decide +kernel
theorem dX5_learn_18 : decode cX5_learn 18 = .ok (.isub, 1) := by decide +kernel
theorem dX5_learn_19 : decode cX5_learn 19 = .ok (.i2l, 1) := by decide +kernel
theorem dX5_learn_20 : decode cX5_learn 20 = .ok (.ladd, 1) := by decide +kernel
theorem dX5_learn_21 : decode cX5_learn 21 = .ok (.putfield 66, 3) := by decide +kernel
theorem dX5_learn_24 : decode cX5_learn 24 = .ok (.iconst 0, 1) := by decide +kernel
theorem dX5_learn_25 : decode cX5_learn 25 = .ok (.istore_n 3, 1) := by decide +kernel
theorem dX5_learn_26 : decode cX5_learn 26 = .ok (.iload_n 3, 1) := by decide +kernel
theorem dX5_learn_27 : decode cX5_learn 27 = .ok (.aload_n 0, 1) := by decide +kernel
theorem dX5_learn_28 : decode cX5_learn 28 = .ok (.getfield 53, 3) := by decide +kernel
theorem dX5_learn_31 : decode cX5_learn 31 = .ok (.if_icmp .ge 95, 3) := by decide +kernel
theorem dX5_learn_34 : decode cX5_learn 34 = .ok (.aload_n 0, 1) := by decide +kernel
theorem dX5_learn_35 : decode cX5_learn 35 = .ok (.iload_n 3, 1) := by decide +kernel
theorem dX5_learn_36 : decode cX5_learn 36 = .ok (.invokevirtual 93, 3) := by decide +kernel
theorem dX5_learn_39 : decode cX5_learn 39 = .ok (.iload_n 1, 1) := by decide +kernel
theorem dX5_learn_40 : decode cX5_learn 40 = .ok (.invokestatic 110, 3) := by decide +kernel
theorem dX5_learn_43 : decode cX5_learn 43 = .ok (.istore 4, 2) := by decide +kernel
theorem dX5_learn_45 : decode cX5_learn 45 = .ok (.bipush 8, 2) := by decide +kernel
theorem dX5_learn_47 : decode cX5_learn 47 = .ok (.iload_n 3, 1) := by decide +kernel
theorem dX5_learn_48 : decode cX5_learn 48 = .ok (.imul, 1) := by decide +kernel
theorem dX5_learn_49 : decode cX5_learn 49 = .ok (.aload_n 0, 1) := by decide +kernel
theorem dX5_learn_50 : decode cX5_learn 50 = .ok (.invokevirtual 89, 3) := by decide +kernel
theorem dX5_learn_53 : decode cX5_learn 53 = .ok (.iadd, 1) := by decide +kernel
theorem dX5_learn_54 : decode cX5_learn 54 = .ok (.istore 5, 2) := by decide +kernel
theorem dX5_learn_56 : decode cX5_learn 56 = .ok (.aload_n 0, 1) := by decide +kernel
theorem dX5_learn_57 : decode cX5_learn 57 = .ok (.getfield 31, 3) := by decide +kernel
theorem dX5_learn_60 : decode cX5_learn 60 = .ok (.iload 5, 2) := by decide +kernel
theorem dX5_learn_62 : decode cX5_learn 62 = .ok (.iaload, 1) := by decide +kernel
theorem dX5_learn_63 : decode cX5_learn 63 = .ok (.istore 6, 2) := by decide +kernel
theorem dX5_learn_65 : decode cX5_learn 65 = .ok (.iload 4, 2) := by decide +kernel
theorem dX5_learn_67 : decode cX5_learn 67 = .ok (.iload_n 2, 1) := by decide +kernel
theorem dX5_learn_68 : decode cX5_learn 68 = .ok (.if_icmp .le 25, 3) := by decide +kernel
theorem dX5_learn_71 : decode cX5_learn 71 = .ok (.aload_n 0, 1) := by decide +kernel
theorem dX5_learn_72 : decode cX5_learn 72 = .ok (.getfield 31, 3) := by decide +kernel
theorem dX5_learn_75 : decode cX5_learn 75 = .ok (.iload 5, 2) := by decide +kernel
theorem dX5_learn_77 : decode cX5_learn 77 = .ok (.ldc 114, 2) := by decide +kernel
theorem dX5_learn_79 : decode cX5_learn 79 = .ok (.iload 6, 2) := by decide +kernel
theorem dX5_learn_81 : decode cX5_learn 81 = .ok (.iload 6, 2) := by decide +kernel
theorem dX5_learn_83 : decode cX5_learn 83 = .ok (.bipush 16, 2) := by decide +kernel
theorem dX5_learn_85 : decode cX5_learn 85 = .ok (.idiv, 1) := by decide +kernel
theorem dX5_learn_86 : decode cX5_learn 86 = .ok (.iadd, 1) := by decide +kernel
theorem dX5_learn_87 : decode cX5_learn 87 = .ok (.iconst 1, 1) := by decide +kernel
theorem dX5_learn_88 : decode cX5_learn 88 = .ok (.iadd, 1) := by decide +kernel
theorem dX5_learn_89 : decode cX5_learn 89 = .ok (.invokestatic 115, 3) := by decide +kernel
theorem dX5_learn_92 : decode cX5_learn 92 = .ok (.iastore, 1) := by decide +kernel
theorem dX5_learn_93 : decode cX5_learn 93 = .ok (.iload 4, 2) := by decide +kernel
theorem dX5_learn_95 : decode cX5_learn 95 = .ok (.iload_n 2, 1) := by decide +kernel
theorem dX5_learn_96 : decode cX5_learn 96 = .ok (.if_icmp .ge 24, 3) := by decide +kernel
theorem dX5_learn_99 : decode cX5_learn 99 = .ok (.aload_n 0, 1) := by decide +kernel
theorem dX5_learn_100 : decode cX5_learn 100 = .ok (.getfield 31, 3) := by decide +kernel
theorem dX5_learn_103 : decode cX5_learn 103 = .ok (.iload 5, 2) := by decide +kernel
theorem dX5_learn_105 : decode cX5_learn 105 = .ok (.iconst 1, 1) := by decide +kernel
theorem dX5_learn_106 : decode cX5_learn 106 = .ok (.iload 6, 2) := by decide +kernel
theorem dX5_learn_108 : decode cX5_learn 108 = .ok (.iload 6, 2) := by decide +kernel
theorem dX5_learn_110 : decode cX5_learn 110 = .ok (.bipush 16, 2) := by decide +kernel
theorem dX5_learn_112 : decode cX5_learn 112 = .ok (.idiv, 1) := by decide +kernel
theorem dX5_learn_113 : decode cX5_learn 113 = .ok (.isub, 1) := by decide +kernel
theorem dX5_learn_114 : decode cX5_learn 114 = .ok (.iconst 1, 1) := by decide +kernel
theorem dX5_learn_115 : decode cX5_learn 115 = .ok (.isub, 1) := by decide +kernel
theorem dX5_learn_116 : decode cX5_learn 116 = .ok (.invokestatic 118, 3) := by decide +kernel
theorem dX5_learn_119 : decode cX5_learn 119 = .ok (.iastore, 1) := by decide +kernel
theorem dX5_learn_120 : decode cX5_learn 120 = .ok (.iinc 3 1, 3) := by decide +kernel
theorem dX5_learn_123 : decode cX5_learn 123 = .ok (.goto (-97), 3) := by decide +kernel
theorem dX5_learn_126 : decode cX5_learn 126 = .ok (.iconst 0, 1) := by decide +kernel
theorem dX5_learn_127 : decode cX5_learn 127 = .ok (.istore_n 3, 1) := by decide +kernel
theorem dX5_learn_128 : decode cX5_learn 128 = .ok (.iload_n 3, 1) := by decide +kernel
theorem dX5_learn_129 : decode cX5_learn 129 = .ok (.aload_n 0, 1) := by decide +kernel
theorem dX5_learn_130 : decode cX5_learn 130 = .ok (.getfield 53, 3) := by decide +kernel
theorem dX5_learn_133 : decode cX5_learn 133 = .ok (.if_icmp .ge 145, 3) := by decide +kernel
theorem dX5_learn_136 : decode cX5_learn 136 = .ok (.sipush 512, 3) := by decide +kernel
theorem dX5_learn_139 : decode cX5_learn 139 = .ok (.iload_n 3, 1) := by decide +kernel
theorem dX5_learn_140 : decode cX5_learn 140 = .ok (.imul, 1) := by decide +kernel
theorem dX5_learn_141 : decode cX5_learn 141 = .ok (.aload_n 0, 1) := by decide +kernel
theorem dX5_learn_142 : decode cX5_learn 142 = .ok (.iload_n 3, 1) := by decide +kernel
theorem dX5_learn_143 : decode cX5_learn 143 = .ok (.invokevirtual 86, 3) := by decide +kernel
theorem dX5_learn_146 : decode cX5_learn 146 = .ok (.iadd, 1) := by decide +kernel
theorem dX5_learn_147 : decode cX5_learn 147 = .ok (.istore 4, 2) := by decide +kernel
theorem dX5_learn_149 : decode cX5_learn 149 = .ok (.aload_n 0, 1) := by decide +kernel
theorem dX5_learn_150 : decode cX5_learn 150 = .ok (.getfield 22, 3) := by decide +kernel
theorem dX5_learn_153 : decode cX5_learn 153 = .ok (.iload 4, 2) := by decide +kernel
theorem dX5_learn_155 : decode cX5_learn 155 = .ok (.iaload, 1) := by decide +kernel
theorem dX5_learn_156 : decode cX5_learn 156 = .ok (.istore 5, 2) := by decide +kernel
theorem dX5_learn_158 : decode cX5_learn 158 = .ok (.aload_n 0, 1) := by decide +kernel
theorem dX5_learn_159 : decode cX5_learn 159 = .ok (.getfield 22, 3) := by decide +kernel
theorem dX5_learn_162 : decode cX5_learn 162 = .ok (.iload 4, 2) := by decide +kernel
theorem dX5_learn_164 : decode cX5_learn 164 = .ok (.iload_n 1, 1) := by decide +kernel
theorem dX5_learn_165 : decode cX5_learn 165 = .ok (.ifCond .eq 22, 3) := by decide +kernel
theorem dX5_learn_168 : decode cX5_learn 168 = .ok (.iload 5, 2) := by decide +kernel
theorem dX5_learn_170 : decode cX5_learn 170 = .ok (.sipush 4096, 3) := by decide +kernel
theorem dX5_learn_173 : decode cX5_learn 173 = .ok (.iload 5, 2) := by decide +kernel
theorem dX5_learn_175 : decode cX5_learn 175 = .ok (.isub, 1) := by decide +kernel
theorem dX5_learn_176 : decode cX5_learn 176 = .ok (.aload_n 0, 1) := by decide +kernel
theorem dX5_learn_177 : decode cX5_learn 177 = .ok (.getfield 13, 3) := by decide +kernel
theorem dX5_learn_180 : decode cX5_learn 180 = .ok (.iload_n 3, 1) := by decide +kernel
theorem dX5_learn_181 : decode cX5_learn 181 = .ok (.iaload, 1) := by decide +kernel
theorem dX5_learn_182 : decode cX5_learn 182 = .ok (.ishr, 1) := by decide +kernel
theorem dX5_learn_183 : decode cX5_learn 183 = .ok (.iadd, 1) := by decide +kernel
theorem dX5_learn_184 : decode cX5_learn 184 = .ok (.goto 15, 3) := by decide +kernel
theorem dX5_learn_187 : decode cX5_learn 187 = .ok (.iload 5, 2) := by decide +kernel
theorem dX5_learn_189 : decode cX5_learn 189 = .ok (.iload 5, 2) := by decide +kernel
theorem dX5_learn_191 : decode cX5_learn 191 = .ok (.aload_n 0, 1) := by decide +kernel
theorem dX5_learn_192 : decode cX5_learn 192 = .ok (.getfield 13, 3) := by decide +kernel
theorem dX5_learn_195 : decode cX5_learn 195 = .ok (.iload_n 3, 1) := by decide +kernel
theorem dX5_learn_196 : decode cX5_learn 196 = .ok (.iaload, 1) := by decide +kernel
theorem dX5_learn_197 : decode cX5_learn 197 = .ok (.ishr, 1) := by decide +kernel
theorem dX5_learn_198 : decode cX5_learn 198 = .ok (.isub, 1) := by decide +kernel
theorem dX5_learn_199 : decode cX5_learn 199 = .ok (.iastore, 1) := by decide +kernel
theorem dX5_learn_200 : decode cX5_learn 200 = .ok (.aload_n 0, 1) := by decide +kernel
theorem dX5_learn_201 : decode cX5_learn 201 = .ok (.getfield 28, 3) := by decide +kernel
theorem dX5_learn_204 : decode cX5_learn 204 = .ok (.iload 4, 2) := by decide +kernel
theorem dX5_learn_206 : decode cX5_learn 206 = .ok (.iaload, 1) := by decide +kernel
theorem dX5_learn_207 : decode cX5_learn 207 = .ok (.ifCond .eq 42, 3) := by decide +kernel
theorem dX5_learn_210 : decode cX5_learn 210 = .ok (.aload_n 0, 1) := by decide +kernel
theorem dX5_learn_211 : decode cX5_learn 211 = .ok (.getfield 28, 3) := by decide +kernel
theorem dX5_learn_214 : decode cX5_learn 214 = .ok (.iload 4, 2) := by decide +kernel
theorem dX5_learn_216 : decode cX5_learn 216 = .ok (.iaload, 1) := by decide +kernel
theorem dX5_learn_217 : decode cX5_learn 217 = .ok (.aload_n 0, 1) := by decide +kernel
theorem dX5_learn_218 : decode cX5_learn 218 = .ok (.getfield 60, 3) := by decide +kernel
theorem dX5_learn_221 : decode cX5_learn 221 = .ok (.if_icmp .ne 18, 3) := by decide +kernel
theorem dX5_learn_224 : decode cX5_learn 224 = .ok (.aload_n 0, 1) := by decide +kernel
theorem dX5_learn_225 : decode cX5_learn 225 = .ok (.getfield 25, 3) := by decide +kernel
theorem dX5_learn_228 : decode cX5_learn 228 = .ok (.iload 4, 2) := by decide +kernel
theorem dX5_learn_230 : decode cX5_learn 230 = .ok (.iaload, 1) := by decide +kernel
theorem dX5_learn_231 : decode cX5_learn 231 = .ok (.aload_n 0, 1) := by decide +kernel
theorem dX5_learn_232 : decode cX5_learn 232 = .ok (.iload_n 3, 1) := by decide +kernel
theorem dX5_learn_233 : decode cX5_learn 233 = .ok (.invokevirtual 83, 3) := by decide +kernel
theorem dX5_learn_236 : decode cX5_learn 236 = .ok (.if_icmp .eq 13, 3) := by decide +kernel
theorem dX5_learn_239 : decode cX5_learn 239 = .ok (.aload_n 0, 1) := by decide +kernel
theorem dX5_learn_240 : decode cX5_learn 240 = .ok (.getfield 34, 3) := by decide +kernel
theorem dX5_learn_243 : decode cX5_learn 243 = .ok (.iload_n 3, 1) := by decide +kernel
theorem dX5_learn_244 : decode cX5_learn 244 = .ok (.dup2, 1) := by decide +kernel
theorem dX5_learn_245 : decode cX5_learn 245 = .ok (.iaload, 1) := by decide +kernel
theorem dX5_learn_246 : decode cX5_learn 246 = .ok (.iconst 1, 1) := by decide +kernel
theorem dX5_learn_247 : decode cX5_learn 247 = .ok (.iadd, 1) := by decide +kernel
theorem dX5_learn_248 : decode cX5_learn 248 = .ok (.iastore, 1) := by decide +kernel
theorem dX5_learn_249 : decode cX5_learn 249 = .ok (.aload_n 0, 1) := by decide +kernel
theorem dX5_learn_250 : decode cX5_learn 250 = .ok (.getfield 28, 3) := by decide +kernel
theorem dX5_learn_253 : decode cX5_learn 253 = .ok (.iload 4, 2) := by decide +kernel
theorem dX5_learn_255 : decode cX5_learn 255 = .ok (.aload_n 0, 1) := by decide +kernel
theorem dX5_learn_256 : decode cX5_learn 256 = .ok (.getfield 60, 3) := by decide +kernel
theorem dX5_learn_259 : decode cX5_learn 259 = .ok (.iastore, 1) := by decide +kernel
theorem dX5_learn_260 : decode cX5_learn 260 = .ok (.aload_n 0, 1) := by decide +kernel
theorem dX5_learn_261 : decode cX5_learn 261 = .ok (.getfield 25, 3) := by decide +kernel
theorem dX5_learn_264 : decode cX5_learn 264 = .ok (.iload 4, 2) := by decide +kernel
theorem dX5_learn_266 : decode cX5_learn 266 = .ok (.aload_n 0, 1) := by decide +kernel
theorem dX5_learn_267 : decode cX5_learn 267 = .ok (.iload_n 3, 1) := by decide +kernel
theorem dX5_learn_268 : decode cX5_learn 268 = .ok (.invokevirtual 83, 3) := by decide +kernel
theorem dX5_learn_271 : decode cX5_learn 271 = .ok (.iastore, 1) := by decide +kernel
theorem dX5_learn_272 : decode cX5_learn 272 = .ok (.iinc 3 1, 3) := by decide +kernel
theorem dX5_learn_275 : decode cX5_learn 275 = .ok (.goto (-147), 3) := by decide +kernel
theorem dX5_learn_278 : decode cX5_learn 278 = .ok (.aload_n 0, 1) := by decide +kernel
theorem dX5_learn_279 : decode cX5_learn 279 = .ok (.iconst 2, 1) := by decide +kernel
theorem dX5_learn_280 : decode cX5_learn 280 = .ok (.aload_n 0, 1) := by decide +kernel
theorem dX5_learn_281 : decode cX5_learn 281 = .ok (.getfield 60, 3) := by decide +kernel
theorem dX5_learn_284 : decode cX5_learn 284 = .ok (.imul, 1) := by decide +kernel
theorem dX5_learn_285 : decode cX5_learn 285 = .ok (.iload_n 1, 1) := by decide +kernel
theorem dX5_learn_286 : decode cX5_learn 286 = .ok (.ifCond .eq 7, 3) := by decide +kernel
theorem dX5_learn_289 : decode cX5_learn 289 = .ok (.iconst 1, 1) := by decide +kernel
theorem dX5_learn_290 : decode cX5_learn 290 = .ok (.goto 4, 3) := by decide +kernel
theorem dX5_learn_293 : decode cX5_learn 293 = .ok (.iconst 0, 1) := by decide +kernel
theorem dX5_learn_294 : decode cX5_learn 294 = .ok (.iadd, 1) := by decide +kernel
theorem dX5_learn_295 : decode cX5_learn 295 = .ok (.putfield 60, 3) := by decide +kernel
theorem dX5_learn_298 : decode cX5_learn 298 = .ok (.aload_n 0, 1) := by decide +kernel
theorem dX5_learn_299 : decode cX5_learn 299 = .ok (.getfield 60, 3) := by decide +kernel
theorem dX5_learn_302 : decode cX5_learn 302 = .ok (.sipush 256, 3) := by decide +kernel
theorem dX5_learn_305 : decode cX5_learn 305 = .ok (.if_icmp .lt 48, 3) := by decide +kernel
theorem dX5_learn_308 : decode cX5_learn 308 = .ok (.iconst 2, 1) := by decide +kernel
theorem dX5_learn_309 : decode cX5_learn 309 = .ok (.istore_n 3, 1) := by decide +kernel
theorem dX5_learn_310 : decode cX5_learn 310 = .ok (.iload_n 3, 1) := by decide +kernel
theorem dX5_learn_311 : decode cX5_learn 311 = .ok (.ifCond .le 23, 3) := by decide +kernel
theorem dX5_learn_314 : decode cX5_learn 314 = .ok (.aload_n 0, 1) := by decide +kernel
theorem dX5_learn_315 : decode cX5_learn 315 = .ok (.getfield 37, 3) := by decide +kernel
theorem dX5_learn_318 : decode cX5_learn 318 = .ok (.iload_n 3, 1) := by decide +kernel
theorem dX5_learn_319 : decode cX5_learn 319 = .ok (.aload_n 0, 1) := by decide +kernel
theorem dX5_learn_320 : decode cX5_learn 320 = .ok (.getfield 37, 3) := by decide +kernel
theorem dX5_learn_323 : decode cX5_learn 323 = .ok (.iload_n 3, 1) := by decide +kernel
theorem dX5_learn_324 : decode cX5_learn 324 = .ok (.iconst 1, 1) := by decide +kernel
theorem dX5_learn_325 : decode cX5_learn 325 = .ok (.isub, 1) := by decide +kernel
theorem dX5_learn_326 : decode cX5_learn 326 = .ok (.iaload, 1) := by decide +kernel
theorem dX5_learn_327 : decode cX5_learn 327 = .ok (.iastore, 1) := by decide +kernel
theorem dX5_learn_328 : decode cX5_learn 328 = .ok (.iinc 3 (-1), 3) := by decide +kernel
theorem dX5_learn_331 : decode cX5_learn 331 = .ok (.goto (-21), 3) := by decide +kernel
theorem dX5_learn_334 : decode cX5_learn 334 = .ok (.aload_n 0, 1) := by decide +kernel
theorem dX5_learn_335 : decode cX5_learn 335 = .ok (.getfield 37, 3) := by decide +kernel
theorem dX5_learn_338 : decode cX5_learn 338 = .ok (.iconst 0, 1) := by decide +kernel
theorem dX5_learn_339 : decode cX5_learn 339 = .ok (.aload_n 0, 1) := by decide +kernel
theorem dX5_learn_340 : decode cX5_learn 340 = .ok (.getfield 60, 3) := by decide +kernel
theorem dX5_learn_343 : decode cX5_learn 343 = .ok (.sipush 256, 3) := by decide +kernel
theorem dX5_learn_346 : decode cX5_learn 346 = .ok (.isub, 1) := by decide +kernel
theorem dX5_learn_347 : decode cX5_learn 347 = .ok (.iastore, 1) := by decide +kernel
theorem dX5_learn_348 : decode cX5_learn 348 = .ok (.aload_n 0, 1) := by decide +kernel
theorem dX5_learn_349 : decode cX5_learn 349 = .ok (.iconst 1, 1) := by decide +kernel
theorem dX5_learn_350 : decode cX5_learn 350 = .ok (.putfield 60, 3) := by decide +kernel
theorem dX5_learn_353 : decode cX5_learn 353 = .ok (.aload_n 0, 1) := by decide +kernel
theorem dX5_learn_354 : decode cX5_learn 354 = .ok (.dup, 1) := by decide +kernel
theorem dX5_learn_355 : decode cX5_learn 355 = .ok (.getfield 63, 3) := by decide +kernel
theorem dX5_learn_358 : decode cX5_learn 358 = .ok (.iconst 1, 1) := by decide +kernel
theorem dX5_learn_359 : decode cX5_learn 359 = .ok (.iadd, 1) := by decide +kernel
theorem dX5_learn_360 : decode cX5_learn 360 = .ok (.putfield 63, 3) := by decide +kernel
theorem dX5_learn_363 : decode cX5_learn 363 = .ok (.iload_n 2, 1) := by decide +kernel
theorem dX5_learn_364 : decode cX5_learn 364 = .ok (.ireturn, 1) := by decide +kernel
set_option maxRecDepth 20000 in
theorem ggX5_observe_X5_learn : GoodIn wsX5_observe wsX5_learn := goodIn_r _ [6, 7, 8, 9, 10, 11, 12, 13, 14, 15, 16, 17, 18, 19, 20, 21, 22, 23, 24, 25, 26, 27, 28, 5, 29, 30, 31, 32, 33, 34, 35, 36, 37, 38, 39, 40, 41, 42, 43, 44, 45, 46, 47, 48, 49, 50, 51, 52, 53, 54, 55, 56, 57, 58, 59, 60, 61, 62, 63, 64, 65, 66, 67, 68, 69, 70, 71, 72, 73, 74, 75, 76, 77, 78, 79] (by decide +kernel) (by decide +kernel)
set_option maxRecDepth 20000 in
theorem gX5_observe_X5_learn : GoodIn wsX5_observe (wsV RX5 120 RX5 yX5_learn wsX5_learn) := goodIn_app (goodIn_of _ (by decide +kernel)) ggX5_observe_X5_learn
theorem dX5_observe_0 : decode cX5_observe 0 = .ok (.aload_n 0, 1) := by decide +kernel
theorem dX5_observe_1 : decode cX5_observe 1 = .ok (.iconst 0, 1) := by decide +kernel
theorem dX5_observe_2 : decode cX5_observe 2 = .ok (.putfield 49, 3) := by decide +kernel
theorem dX5_observe_5 : decode cX5_observe 5 = .ok (.aload_n 0, 1) := by decide +kernel
theorem dX5_observe_6 : decode cX5_observe 6 = .ok (.iload_n 1, 1) := by decide +kernel
theorem dX5_observe_7 : decode cX5_observe 7 = .ok (.invokevirtual 120, 3) := by decide +kernel
theorem dX5_observe_10 : decode cX5_observe 10 = .ok (.ireturn, 1) := by decide +kernel
set_option maxRecDepth 20000 in
theorem ggX5_mixed_X5_mix : GoodIn wsX5_mixed wsX5_mix := goodIn_r _ [6, 7, 8, 9, 10, 11, 12, 13, 14, 15, 16, 17, 18, 19, 5, 20, 21, 22, 23, 24, 25, 26, 27, 28, 29, 30, 31, 32, 33, 34, 35, 36, 37, 38, 39, 40, 41, 42, 43, 44, 45, 46, 47, 48, 49, 50, 51, 52, 53, 54, 55, 56, 57, 58, 59] (by decide +kernel) (by decide +kernel)
set_option maxRecDepth 20000 in
theorem gX5_mixed_X5_mix : GoodIn wsX5_mixed (wsV RX5 107 RX5 yX5_mix wsX5_mix) := goodIn_app (goodIn_of _ (by decide +kernel)) ggX5_mixed_X5_mix
theorem dX5_mixed_0 : decode cX5_mixed 0 = .ok (.aload_n 0, 1) := by decide +kernel
theorem dX5_mixed_1 : decode cX5_mixed 1 = .ok (.iconst 0, 1) := by decide +kernel
theorem dX5_mixed_2 : decode cX5_mixed 2 = .ok (.putfield 49, 3) := by decide +kernel
theorem dX5_mixed_5 : decode cX5_mixed 5 = .ok (.aload_n 0, 1) := by decide +kernel
theorem dX5_mixed_6 : decode cX5_mixed 6 = .ok (.invokevirtual 107, 3) := by decide +kernel
theorem dX5_mixed_9 : decode cX5_mixed 9 = .ok (.ireturn, 1) := by decide +kernel
set_option maxRecDepth 20000 in
theorem ggX5_prediction_X5_isModel : GoodIn wsX5_prediction wsX5_isModel := goodIn_r _ [6, 7, 8, 9, 5, 10, 32, 33, 34, 35, 36, 37, 38, 39, 40, 41, 42, 43, 44, 45, 46, 47, 48, 49, 50, 51, 52, 53] (by decide +kernel) (by decide +kernel)
set_option maxRecDepth 20000 in
theorem gX5_prediction_X5_isModel : GoodIn wsX5_prediction (wsV RX5 74 RX5 yX5_isModel wsX5_isModel) := goodIn_app (goodIn_of _ (by decide +kernel)) ggX5_prediction_X5_isModel
set_option maxRecDepth 20000 in
theorem ggX5_prediction_X5_predictionOf : GoodIn wsX5_prediction wsX5_predictionOf := goodIn_r _ [14, 15, 16, 17, 18, 5, 19, 20, 21, 22, 23, 24, 25, 26, 27, 32, 33, 34, 35, 36, 37, 38, 39, 40, 41, 42, 43, 44, 45, 46, 47, 48, 49, 50, 51, 52, 53] (by decide +kernel) (by decide +kernel)
set_option maxRecDepth 20000 in
theorem gX5_prediction_X5_predictionOf : GoodIn wsX5_prediction (wsV RX5 93 RX5 yX5_predictionOf wsX5_predictionOf) := goodIn_app (goodIn_of _ (by decide +kernel)) ggX5_prediction_X5_predictionOf
set_option maxRecDepth 20000 in
theorem ggX5_prediction_X5_no : GoodIn wsX5_prediction wsX5_no := goodIn_r _ [31, 1, 32, 33, 34, 35, 36, 37, 38, 39, 40, 41, 42, 43, 44, 45, 46, 47, 48, 49, 50, 51, 52, 53] (by decide +kernel) (by decide +kernel)
set_option maxRecDepth 20000 in
theorem gX5_prediction_X5_no : GoodIn wsX5_prediction (wsV RX5 70 RX5 yX5_no wsX5_no) := goodIn_app (goodIn_of _ (by decide +kernel)) ggX5_prediction_X5_no
theorem dX5_prediction_0 : decode cX5_prediction 0 = .ok (.aload_n 0, 1) := by decide +kernel
theorem dX5_prediction_1 : decode cX5_prediction 1 = .ok (.iconst 0, 1) := by decide +kernel
theorem dX5_prediction_2 : decode cX5_prediction 2 = .ok (.putfield 49, 3) := by decide +kernel
theorem dX5_prediction_5 : decode cX5_prediction 5 = .ok (.aload_n 0, 1) := by decide +kernel
theorem dX5_prediction_6 : decode cX5_prediction 6 = .ok (.iload_n 1, 1) := by decide +kernel
theorem dX5_prediction_7 : decode cX5_prediction 7 = .ok (.invokevirtual 74, 3) := by decide +kernel
theorem dX5_prediction_10 : decode cX5_prediction 10 = .ok (.ifCond .eq 11, 3) := by decide +kernel
theorem dX5_prediction_13 : decode cX5_prediction 13 = .ok (.aload_n 0, 1) := by decide +kernel
theorem dX5_prediction_14 : decode cX5_prediction 14 = .ok (.iload_n 1, 1) := by decide +kernel
theorem dX5_prediction_15 : decode cX5_prediction 15 = .ok (.invokevirtual 93, 3) := by decide +kernel
theorem dX5_prediction_18 : decode cX5_prediction 18 = .ok (.goto 8, 3) := by decide +kernel
theorem dX5_prediction_21 : decode cX5_prediction 21 = .ok (.aload_n 0, 1) := by decide +kernel
theorem dX5_prediction_22 : decode cX5_prediction 22 = .ok (.iconst 1, 1) := by decide +kernel
theorem dX5_prediction_23 : decode cX5_prediction 23 = .ok (.invokevirtual 70, 3) := by decide +kernel
theorem dX5_prediction_26 : decode cX5_prediction 26 = .ok (.ireturn, 1) := by decide +kernel
set_option maxRecDepth 20000 in
theorem ggX5_index_X5_isModel : GoodIn wsX5_index wsX5_isModel := goodIn_r _ [6, 7, 8, 9, 5, 10, 27, 28, 29, 30, 31, 32, 33, 34, 35, 36, 37, 38, 39, 40, 41, 42, 43, 44, 45, 46, 47, 48] (by decide +kernel) (by decide +kernel)
set_option maxRecDepth 20000 in
theorem gX5_index_X5_isModel : GoodIn wsX5_index (wsV RX5 74 RX5 yX5_isModel wsX5_isModel) := goodIn_app (goodIn_of _ (by decide +kernel)) ggX5_index_X5_isModel
set_option maxRecDepth 20000 in
theorem ggX5_index_X5_indexOf : GoodIn wsX5_index wsX5_indexOf := goodIn_r _ [14, 15, 16, 17, 18, 19, 5, 20, 21, 22, 27, 28, 29, 30, 31, 32, 33, 34, 35, 36, 37, 38, 39, 40, 41, 42, 43, 44, 45, 46, 47, 48] (by decide +kernel) (by decide +kernel)
set_option maxRecDepth 20000 in
theorem gX5_index_X5_indexOf : GoodIn wsX5_index (wsV RX5 86 RX5 yX5_indexOf wsX5_indexOf) := goodIn_app (goodIn_of _ (by decide +kernel)) ggX5_index_X5_indexOf
set_option maxRecDepth 20000 in
theorem ggX5_index_X5_no : GoodIn wsX5_index wsX5_no := goodIn_r _ [26, 1, 27, 28, 29, 30, 31, 32, 33, 34, 35, 36, 37, 38, 39, 40, 41, 42, 43, 44, 45, 46, 47, 48] (by decide +kernel) (by decide +kernel)
set_option maxRecDepth 20000 in
theorem gX5_index_X5_no : GoodIn wsX5_index (wsV RX5 70 RX5 yX5_no wsX5_no) := goodIn_app (goodIn_of _ (by decide +kernel)) ggX5_index_X5_no
theorem dX5_index_0 : decode cX5_index 0 = .ok (.aload_n 0, 1) := by decide +kernel
theorem dX5_index_1 : decode cX5_index 1 = .ok (.iconst 0, 1) := by decide +kernel
theorem dX5_index_2 : decode cX5_index 2 = .ok (.putfield 49, 3) := by decide +kernel
theorem dX5_index_5 : decode cX5_index 5 = .ok (.aload_n 0, 1) := by decide +kernel
theorem dX5_index_6 : decode cX5_index 6 = .ok (.iload_n 1, 1) := by decide +kernel
theorem dX5_index_7 : decode cX5_index 7 = .ok (.invokevirtual 74, 3) := by decide +kernel
theorem dX5_index_10 : decode cX5_index 10 = .ok (.ifCond .eq 11, 3) := by decide +kernel
theorem dX5_index_13 : decode cX5_index 13 = .ok (.aload_n 0, 1) := by decide +kernel
theorem dX5_index_14 : decode cX5_index 14 = .ok (.iload_n 1, 1) := by decide +kernel
theorem dX5_index_15 : decode cX5_index 15 = .ok (.invokevirtual 86, 3) := by decide +kernel
theorem dX5_index_18 : decode cX5_index 18 = .ok (.goto 8, 3) := by decide +kernel
theorem dX5_index_21 : decode cX5_index 21 = .ok (.aload_n 0, 1) := by decide +kernel
theorem dX5_index_22 : decode cX5_index 22 = .ok (.iconst 1, 1) := by decide +kernel
theorem dX5_index_23 : decode cX5_index 23 = .ok (.invokevirtual 70, 3) := by decide +kernel
theorem dX5_index_26 : decode cX5_index 26 = .ok (.ireturn, 1) := by decide +kernel
set_option maxRecDepth 20000 in
theorem ggX5_counter_X5_isModel : GoodIn wsX5_counter wsX5_isModel := goodIn_r _ [8, 9, 10, 11, 7, 12, 17, 18, 19, 20, 21, 22, 23, 24, 25, 26, 27, 28, 29, 30, 31, 32, 33, 34, 35, 36, 37, 38] (by decide +kernel) (by decide +kernel)
set_option maxRecDepth 20000 in
theorem gX5_counter_X5_isModel : GoodIn wsX5_counter (wsV RX5 74 RX5 yX5_isModel wsX5_isModel) := goodIn_app (goodIn_of _ (by decide +kernel)) ggX5_counter_X5_isModel
set_option maxRecDepth 20000 in
theorem ggX5_counter_X5_isIn : GoodIn wsX5_counter wsX5_isIn := goodIn_r _ [12] (by decide +kernel) (by decide +kernel)
set_option maxRecDepth 20000 in
theorem gX5_counter_X5_isIn : GoodIn wsX5_counter (va_wsS RX5 56 yX5_isIn wsX5_isIn) := goodIn_app (goodIn_of _ (by decide +kernel)) ggX5_counter_X5_isIn
set_option maxRecDepth 20000 in
theorem ggX5_counter_X5_no : GoodIn wsX5_counter wsX5_no := goodIn_r _ [16, 1, 17, 18, 19, 20, 21, 22, 23, 24, 25, 26, 27, 28, 29, 30, 31, 32, 33, 34, 35, 36, 37, 38] (by decide +kernel) (by decide +kernel)
set_option maxRecDepth 20000 in
theorem gX5_counter_X5_no : GoodIn wsX5_counter (wsV RX5 70 RX5 yX5_no wsX5_no) := goodIn_app (goodIn_of _ (by decide +kernel)) ggX5_counter_X5_no
theorem dX5_counter_0 : decode cX5_counter 0 = .ok (.aload_n 0, 1) := by decide +kernel
theorem dX5_counter_1 : decode cX5_counter 1 = .ok (.iconst 0, 1) := by decide +kernel
theorem dX5_counter_2 : decode cX5_counter 2 = .ok (.putfield 49, 3) := by decide +kernel
theorem dX5_counter_5 : decode cX5_counter 5 = .ok (.aload_n 0, 1) := by decide +kernel
theorem dX5_counter_6 : decode cX5_counter 6 = .ok (.iload_n 1, 1) := by decide +kernel
theorem dX5_counter_7 : decode cX5_counter 7 = .ok (.invokevirtual 74, 3) := by decide +kernel
theorem dX5_counter_10 : decode cX5_counter 10 = .ok (.ifCond .eq 36, 3) := by decide +kernel
theorem dX5_counter_13 : decode cX5_counter 13 = .ok (.iload_n 2, 1) := by decide +kernel
theorem dX5_counter_14 : decode cX5_counter 14 = .ok (.iconst 0, 1) := by decide +kernel
theorem dX5_counter_15 : decode cX5_counter 15 = .ok (.iconst 1, 1) := by decide +kernel
theorem dX5_counter_16 : decode cX5_counter 16 = .ok (.aload_n 0, 1) := by decide +kernel
theorem dX5_counter_17 : decode cX5_counter 17 = .ok (.getfield 16, 3) := by decide +kernel
theorem dX5_counter_20 : decode cX5_counter 20 = .ok (.iload_n 1, 1) := by decide +kernel
theorem dX5_counter_21 : decode cX5_counter 21 = .ok (.iaload, 1) := by decide +kernel
theorem dX5_counter_22 : decode cX5_counter 22 = .ok (.ishl, 1) := by decide +kernel
theorem dX5_counter_23 : decode cX5_counter 23 = .ok (.iconst 1, 1) := by decide +kernel
theorem dX5_counter_24 : decode cX5_counter 24 = .ok (.isub, 1) := by decide +kernel
theorem dX5_counter_25 : decode cX5_counter 25 = .ok (.invokestatic 56, 3) := by decide +kernel
theorem dX5_counter_28 : decode cX5_counter 28 = .ok (.ifCond .eq 18, 3) := by decide +kernel
theorem dX5_counter_31 : decode cX5_counter 31 = .ok (.aload_n 0, 1) := by decide +kernel
theorem dX5_counter_32 : decode cX5_counter 32 = .ok (.getfield 22, 3) := by decide +kernel
theorem dX5_counter_35 : decode cX5_counter 35 = .ok (.sipush 512, 3) := by decide +kernel
theorem dX5_counter_38 : decode cX5_counter 38 = .ok (.iload_n 1, 1) := by decide +kernel
theorem dX5_counter_39 : decode cX5_counter 39 = .ok (.imul, 1) := by decide +kernel
theorem dX5_counter_40 : decode cX5_counter 40 = .ok (.iload_n 2, 1) := by decide +kernel
theorem dX5_counter_41 : decode cX5_counter 41 = .ok (.iadd, 1) := by decide +kernel
theorem dX5_counter_42 : decode cX5_counter 42 = .ok (.iaload, 1) := by decide +kernel
theorem dX5_counter_43 : decode cX5_counter 43 = .ok (.goto 8, 3) := by decide +kernel
theorem dX5_counter_46 : decode cX5_counter 46 = .ok (.aload_n 0, 1) := by decide +kernel
theorem dX5_counter_47 : decode cX5_counter 47 = .ok (.iconst 1, 1) := by decide +kernel
theorem dX5_counter_48 : decode cX5_counter 48 = .ok (.invokevirtual 70, 3) := by decide +kernel
theorem dX5_counter_51 : decode cX5_counter 51 = .ok (.ireturn, 1) := by decide +kernel
set_option maxRecDepth 20000 in
theorem ggX5_weight_X5_isModel : GoodIn wsX5_weight wsX5_isModel := goodIn_r _ [7, 8, 9, 10, 6, 11, 16, 17, 18, 19, 20, 21, 22, 23, 24, 25, 26, 27, 28, 29, 30, 31, 32, 33, 34, 35, 36, 37] (by decide +kernel) (by decide +kernel)
set_option maxRecDepth 20000 in
theorem gX5_weight_X5_isModel : GoodIn wsX5_weight (wsV RX5 74 RX5 yX5_isModel wsX5_isModel) := goodIn_app (goodIn_of _ (by decide +kernel)) ggX5_weight_X5_isModel
set_option maxRecDepth 20000 in
theorem ggX5_weight_X5_isIn : GoodIn wsX5_weight wsX5_isIn := goodIn_r _ [11] (by decide +kernel) (by decide +kernel)
set_option maxRecDepth 20000 in
theorem gX5_weight_X5_isIn : GoodIn wsX5_weight (va_wsS RX5 56 yX5_isIn wsX5_isIn) := goodIn_app (goodIn_of _ (by decide +kernel)) ggX5_weight_X5_isIn
set_option maxRecDepth 20000 in
theorem ggX5_weight_X5_no : GoodIn wsX5_weight wsX5_no := goodIn_r _ [15, 1, 16, 17, 18, 19, 20, 21, 22, 23, 24, 25, 26, 27, 28, 29, 30, 31, 32, 33, 34, 35, 36, 37] (by decide +kernel) (by decide +kernel)
set_option maxRecDepth 20000 in
theorem gX5_weight_X5_no : GoodIn wsX5_weight (wsV RX5 70 RX5 yX5_no wsX5_no) := goodIn_app (goodIn_of _ (by decide +kernel)) ggX5_weight_X5_no
theorem dX5_weight_0 : decode cX5_weight 0 = .ok (.aload_n 0, 1) := by decide +kernel
theorem dX5_weight_1 : decode cX5_weight 1 = .ok (.iconst 0, 1) := by decide +kernel
theorem dX5_weight_2 : decode cX5_weight 2 = .ok (.putfield 49, 3) := by decide +kernel
theorem dX5_weight_5 : decode cX5_weight 5 = .ok (.aload_n 0, 1) := by decide +kernel
theorem dX5_weight_6 : decode cX5_weight 6 = .ok (.iload_n 1, 1) := by decide +kernel
theorem dX5_weight_7 : decode cX5_weight 7 = .ok (.invokevirtual 74, 3) := by decide +kernel
theorem dX5_weight_10 : decode cX5_weight 10 = .ok (.ifCond .eq 27, 3) := by decide +kernel
theorem dX5_weight_13 : decode cX5_weight 13 = .ok (.iload_n 2, 1) := by decide +kernel
theorem dX5_weight_14 : decode cX5_weight 14 = .ok (.iconst 0, 1) := by decide +kernel
theorem dX5_weight_15 : decode cX5_weight 15 = .ok (.bipush 7, 2) := by decide +kernel
theorem dX5_weight_17 : decode cX5_weight 17 = .ok (.invokestatic 56, 3) := by decide +kernel
theorem dX5_weight_20 : decode cX5_weight 20 = .ok (.ifCond .eq 17, 3) := by decide +kernel
theorem dX5_weight_23 : decode cX5_weight 23 = .ok (.aload_n 0, 1) := by decide +kernel
theorem dX5_weight_24 : decode cX5_weight 24 = .ok (.getfield 31, 3) := by decide +kernel
theorem dX5_weight_27 : decode cX5_weight 27 = .ok (.bipush 8, 2) := by decide +kernel
theorem dX5_weight_29 : decode cX5_weight 29 = .ok (.iload_n 1, 1) := by decide +kernel
theorem dX5_weight_30 : decode cX5_weight 30 = .ok (.imul, 1) := by decide +kernel
theorem dX5_weight_31 : decode cX5_weight 31 = .ok (.iload_n 2, 1) := by decide +kernel
theorem dX5_weight_32 : decode cX5_weight 32 = .ok (.iadd, 1) := by decide +kernel
theorem dX5_weight_33 : decode cX5_weight 33 = .ok (.iaload, 1) := by decide +kernel
theorem dX5_weight_34 : decode cX5_weight 34 = .ok (.goto 8, 3) := by decide +kernel
theorem dX5_weight_37 : decode cX5_weight 37 = .ok (.aload_n 0, 1) := by decide +kernel
theorem dX5_weight_38 : decode cX5_weight 38 = .ok (.iconst 1, 1) := by decide +kernel
theorem dX5_weight_39 : decode cX5_weight 39 = .ok (.invokevirtual 70, 3) := by decide +kernel
theorem dX5_weight_42 : decode cX5_weight 42 = .ok (.ireturn, 1) := by decide +kernel
set_option maxRecDepth 20000 in
theorem ggX5_leader_X5_phase : GoodIn wsX5_leader wsX5_phase := goodIn_r _ [8, 9, 10, 11, 12, 13, 14, 15, 16, 17, 18, 19, 20, 21, 22, 23, 24, 25, 26, 27, 28, 29, 30, 31] (by decide +kernel) (by decide +kernel)
set_option maxRecDepth 20000 in
theorem gX5_leader_X5_phase : GoodIn wsX5_leader (wsV RX5 89 RX5 yX5_phase wsX5_phase) := goodIn_app (goodIn_of _ (by decide +kernel)) ggX5_leader_X5_phase
theorem dX5_leader_0 : decode cX5_leader 0 = .ok (.aload_n 0, 1) := by decide +kernel
theorem dX5_leader_1 : decode cX5_leader 1 = .ok (.iconst 0, 1) := by decide +kernel
theorem dX5_leader_2 : decode cX5_leader 2 = .ok (.putfield 49, 3) := by decide +kernel
theorem dX5_leader_5 : decode cX5_leader 5 = .ok (.iconst (-1), 1) := by decide +kernel
theorem dX5_leader_6 : decode cX5_leader 6 = .ok (.istore_n 1, 1) := by decide +kernel
theorem dX5_leader_7 : decode cX5_leader 7 = .ok (.aload_n 0, 1) := by decide +kernel
theorem dX5_leader_8 : decode cX5_leader 8 = .ok (.getfield 53, 3) := by decide +kernel
theorem dX5_leader_11 : decode cX5_leader 11 = .ok (.iconst 1, 1) := by decide +kernel
theorem dX5_leader_12 : decode cX5_leader 12 = .ok (.isub, 1) := by decide +kernel
theorem dX5_leader_13 : decode cX5_leader 13 = .ok (.istore_n 2, 1) := by decide +kernel
theorem dX5_leader_14 : decode cX5_leader 14 = .ok (.iload_n 2, 1) := by decide +kernel
theorem dX5_leader_15 : decode cX5_leader 15 = .ok (.ifCond .lt 46, 3) := by decide +kernel
theorem dX5_leader_18 : decode cX5_leader 18 = .ok (.iload_n 1, 1) := by decide +kernel
theorem dX5_leader_19 : decode cX5_leader 19 = .ok (.ifCond .lt 34, 3) := by decide +kernel
theorem dX5_leader_22 : decode cX5_leader 22 = .ok (.aload_n 0, 1) := by decide +kernel
theorem dX5_leader_23 : decode cX5_leader 23 = .ok (.getfield 31, 3) := by decide +kernel
theorem dX5_leader_26 : decode cX5_leader 26 = .ok (.bipush 8, 2) := by decide +kernel
theorem dX5_leader_28 : decode cX5_leader 28 = .ok (.iload_n 2, 1) := by decide +kernel
theorem dX5_leader_29 : decode cX5_leader 29 = .ok (.imul, 1) := by decide +kernel
theorem dX5_leader_30 : decode cX5_leader 30 = .ok (.aload_n 0, 1) := by decide +kernel
theorem dX5_leader_31 : decode cX5_leader 31 = .ok (.invokevirtual 89, 3) := by decide +kernel
theorem dX5_leader_34 : decode cX5_leader 34 = .ok (.iadd, 1) := by decide +kernel
theorem dX5_leader_35 : decode cX5_leader 35 = .ok (.iaload, 1) := by decide +kernel
theorem dX5_leader_36 : decode cX5_leader 36 = .ok (.aload_n 0, 1) := by decide +kernel
theorem dX5_leader_37 : decode cX5_leader 37 = .ok (.getfield 31, 3) := by decide +kernel
theorem dX5_leader_40 : decode cX5_leader 40 = .ok (.bipush 8, 2) := by decide +kernel
theorem dX5_leader_42 : decode cX5_leader 42 = .ok (.iload_n 1, 1) := by decide +kernel
theorem dX5_leader_43 : decode cX5_leader 43 = .ok (.imul, 1) := by decide +kernel
theorem dX5_leader_44 : decode cX5_leader 44 = .ok (.aload_n 0, 1) := by decide +kernel
theorem dX5_leader_45 : decode cX5_leader 45 = .ok (.invokevirtual 89, 3) := by decide +kernel
theorem dX5_leader_48 : decode cX5_leader 48 = .ok (.iadd, 1) := by decide +kernel
theorem dX5_leader_49 : decode cX5_leader 49 = .ok (.iaload, 1) := by decide +kernel
theorem dX5_leader_50 : decode cX5_leader 50 = .ok (.if_icmp .lt 5, 3) := by decide +kernel
theorem dX5_leader_53 : decode cX5_leader 53 = .ok (.iload_n 2, 1) := by decide +kernel
theorem dX5_leader_54 : decode cX5_leader 54 = .ok (.istore_n 1, 1) := by decide +kernel
theorem dX5_leader_55 : decode cX5_leader 55 = .ok (.iinc 2 (-1), 3) := by decide +kernel
theorem dX5_leader_58 : decode cX5_leader 58 = .ok (.goto (-44), 3) := by decide +kernel
theorem dX5_leader_61 : decode cX5_leader 61 = .ok (.iload_n 1, 1) := by decide +kernel
theorem dX5_leader_62 : decode cX5_leader 62 = .ok (.ireturn, 1) := by decide +kernel
set_option maxRecDepth 20000 in
theorem ggX5_collisions_X5_isModel : GoodIn wsX5_collisions wsX5_isModel := goodIn_r _ [7, 8, 9, 10, 6, 11, 16, 17, 18, 19, 20, 21, 22, 23, 24, 25, 26, 27, 28, 29, 30, 31, 32, 33, 34, 35, 36, 37] (by decide +kernel) (by decide +kernel)
set_option maxRecDepth 20000 in
theorem gX5_collisions_X5_isModel : GoodIn wsX5_collisions (wsV RX5 74 RX5 yX5_isModel wsX5_isModel) := goodIn_app (goodIn_of _ (by decide +kernel)) ggX5_collisions_X5_isModel
set_option maxRecDepth 20000 in
theorem ggX5_collisions_X5_no : GoodIn wsX5_collisions wsX5_no := goodIn_r _ [15, 1, 16, 17, 18, 19, 20, 21, 22, 23, 24, 25, 26, 27, 28, 29, 30, 31, 32, 33, 34, 35, 36, 37] (by decide +kernel) (by decide +kernel)
set_option maxRecDepth 20000 in
theorem gX5_collisions_X5_no : GoodIn wsX5_collisions (wsV RX5 70 RX5 yX5_no wsX5_no) := goodIn_app (goodIn_of _ (by decide +kernel)) ggX5_collisions_X5_no
theorem dX5_collisions_0 : decode cX5_collisions 0 = .ok (.aload_n 0, 1) := by decide +kernel
theorem dX5_collisions_1 : decode cX5_collisions 1 = .ok (.iconst 0, 1) := by decide +kernel
theorem dX5_collisions_2 : decode cX5_collisions 2 = .ok (.putfield 49, 3) := by decide +kernel
theorem dX5_collisions_5 : decode cX5_collisions 5 = .ok (.aload_n 0, 1) := by decide +kernel
theorem dX5_collisions_6 : decode cX5_collisions 6 = .ok (.iload_n 1, 1) := by decide +kernel
theorem dX5_collisions_7 : decode cX5_collisions 7 = .ok (.invokevirtual 74, 3) := by decide +kernel
theorem dX5_collisions_10 : decode cX5_collisions 10 = .ok (.ifCond .eq 12, 3) := by decide +kernel
theorem dX5_collisions_13 : decode cX5_collisions 13 = .ok (.aload_n 0, 1) := by decide +kernel
theorem dX5_collisions_14 : decode cX5_collisions 14 = .ok (.getfield 34, 3) := by decide +kernel
theorem dX5_collisions_17 : decode cX5_collisions 17 = .ok (.iload_n 1, 1) := by decide +kernel
theorem dX5_collisions_18 : decode cX5_collisions 18 = .ok (.iaload, 1) := by decide +kernel
theorem dX5_collisions_19 : decode cX5_collisions 19 = .ok (.goto 8, 3) := by decide +kernel
theorem dX5_collisions_22 : decode cX5_collisions 22 = .ok (.aload_n 0, 1) := by decide +kernel
theorem dX5_collisions_23 : decode cX5_collisions 23 = .ok (.iconst 1, 1) := by decide +kernel
theorem dX5_collisions_24 : decode cX5_collisions 24 = .ok (.invokevirtual 70, 3) := by decide +kernel
theorem dX5_collisions_27 : decode cX5_collisions 27 = .ok (.ireturn, 1) := by decide +kernel
set_option maxRecDepth 20000 in
theorem ggX5_history_X5_isIn : GoodIn wsX5_history wsX5_isIn := goodIn_r _ [6] (by decide +kernel) (by decide +kernel)
set_option maxRecDepth 20000 in
theorem gX5_history_X5_isIn : GoodIn wsX5_history (va_wsS RX5 56 yX5_isIn wsX5_isIn) := goodIn_app (goodIn_of _ (by decide +kernel)) ggX5_history_X5_isIn
set_option maxRecDepth 20000 in
theorem ggX5_history_X5_no : GoodIn wsX5_history wsX5_no := goodIn_r _ [10, 1, 11, 12, 13, 14, 15, 16, 17, 18, 19, 20, 21, 22, 23, 24, 25, 26, 27, 28, 29, 30, 31, 32] (by decide +kernel) (by decide +kernel)
set_option maxRecDepth 20000 in
theorem gX5_history_X5_no : GoodIn wsX5_history (wsV RX5 70 RX5 yX5_no wsX5_no) := goodIn_app (goodIn_of _ (by decide +kernel)) ggX5_history_X5_no
theorem dX5_history_0 : decode cX5_history 0 = .ok (.aload_n 0, 1) := by decide +kernel
theorem dX5_history_1 : decode cX5_history 1 = .ok (.iconst 0, 1) := by decide +kernel
theorem dX5_history_2 : decode cX5_history 2 = .ok (.putfield 49, 3) := by decide +kernel
theorem dX5_history_5 : decode cX5_history 5 = .ok (.iload_n 1, 1) := by decide +kernel
theorem dX5_history_6 : decode cX5_history 6 = .ok (.iconst 0, 1) := by decide +kernel
theorem dX5_history_7 : decode cX5_history 7 = .ok (.iconst 2, 1) := by decide +kernel
theorem dX5_history_8 : decode cX5_history 8 = .ok (.invokestatic 56, 3) := by decide +kernel
theorem dX5_history_11 : decode cX5_history 11 = .ok (.ifCond .eq 12, 3) := by decide +kernel
theorem dX5_history_14 : decode cX5_history 14 = .ok (.aload_n 0, 1) := by decide +kernel
theorem dX5_history_15 : decode cX5_history 15 = .ok (.getfield 37, 3) := by decide +kernel
theorem dX5_history_18 : decode cX5_history 18 = .ok (.iload_n 1, 1) := by decide +kernel
theorem dX5_history_19 : decode cX5_history 19 = .ok (.iaload, 1) := by decide +kernel
theorem dX5_history_20 : decode cX5_history 20 = .ok (.goto 8, 3) := by decide +kernel
theorem dX5_history_23 : decode cX5_history 23 = .ok (.aload_n 0, 1) := by decide +kernel
theorem dX5_history_24 : decode cX5_history 24 = .ok (.iconst 1, 1) := by decide +kernel
theorem dX5_history_25 : decode cX5_history 25 = .ok (.invokevirtual 70, 3) := by decide +kernel
theorem dX5_history_28 : decode cX5_history 28 = .ok (.ireturn, 1) := by decide +kernel
theorem dX5_node_0 : decode cX5_node 0 = .ok (.aload_n 0, 1) := by decide +kernel
theorem dX5_node_1 : decode cX5_node 1 = .ok (.iconst 0, 1) := by decide +kernel
theorem dX5_node_2 : decode cX5_node 2 = .ok (.putfield 49, 3) := by decide +kernel
theorem dX5_node_5 : decode cX5_node 5 = .ok (.aload_n 0, 1) := by decide +kernel
theorem dX5_node_6 : decode cX5_node 6 = .ok (.getfield 60, 3) := by decide +kernel
theorem dX5_node_9 : decode cX5_node 9 = .ok (.ireturn, 1) := by decide +kernel
theorem dX5_observed_0 : decode cX5_observed 0 = .ok (.aload_n 0, 1) := by decide +kernel
theorem dX5_observed_1 : decode cX5_observed 1 = .ok (.iconst 0, 1) := by decide +kernel
theorem dX5_observed_2 : decode cX5_observed 2 = .ok (.putfield 49, 3) := by decide +kernel
theorem dX5_observed_5 : decode cX5_observed 5 = .ok (.aload_n 0, 1) := by decide +kernel
theorem dX5_observed_6 : decode cX5_observed 6 = .ok (.getfield 63, 3) := by decide +kernel
theorem dX5_observed_9 : decode cX5_observed 9 = .ok (.ireturn, 1) := by decide +kernel
theorem dX5_error_0 : decode cX5_error 0 = .ok (.aload_n 0, 1) := by decide +kernel
theorem dX5_error_1 : decode cX5_error 1 = .ok (.iconst 0, 1) := by decide +kernel
theorem dX5_error_2 : decode cX5_error 2 = .ok (.putfield 49, 3) := by decide +kernel
theorem dX5_error_5 : decode cX5_error 5 = .ok (.aload_n 0, 1) := by decide +kernel
theorem dX5_error_6 : decode cX5_error 6 = .ok (.getfield 66, 3) := by decide +kernel
theorem dX5_error_9 : decode cX5_error 9 = .ok (.lreturn, 1) := by decide +kernel
theorem dX5_meanError_0 : decode cX5_meanError 0 = .ok (.aload_n 0, 1) := by decide +kernel
theorem dX5_meanError_1 : decode cX5_meanError 1 = .ok (.iconst 0, 1) := by decide +kernel
theorem dX5_meanError_2 : decode cX5_meanError 2 = .ok (.putfield 49, 3) := by decide +kernel
theorem dX5_meanError_5 : decode cX5_meanError 5 = .ok (.aload_n 0, 1) := by decide +kernel
theorem dX5_meanError_6 : decode cX5_meanError 6 = .ok (.getfield 63, 3) := by decide +kernel
theorem dX5_meanError_9 : decode cX5_meanError 9 = .ok (.ifCond .ne 7, 3) := by decide +kernel
theorem dX5_meanError_12 : decode cX5_meanError 12 = .ok (.dconst 0, 1) := by decide +kernel
theorem dX5_meanError_13 : decode cX5_meanError 13 = .ok (.goto 18, 3) := by decide +kernel
theorem dX5_meanError_16 : decode cX5_meanError 16 = .ok (.aload_n 0, 1) := by decide +kernel
theorem dX5_meanError_17 : decode cX5_meanError 17 = .ok (.getfield 66, 3) := by decide +kernel
theorem dX5_meanError_20 : decode cX5_meanError 20 = .ok (.l2d, 1) := by decide +kernel
theorem dX5_meanError_21 : decode cX5_meanError 21 = .ok (.ldc2_w 124, 3) := by decide +kernel
theorem dX5_meanError_24 : decode cX5_meanError 24 = .ok (.aload_n 0, 1) := by decide +kernel
theorem dX5_meanError_25 : decode cX5_meanError 25 = .ok (.getfield 63, 3) := by decide +kernel
theorem dX5_meanError_28 : decode cX5_meanError 28 = .ok (.i2d, 1) := by decide +kernel
theorem dX5_meanError_29 : decode cX5_meanError 29 = .ok (.dmul, 1) := by decide +kernel
theorem dX5_meanError_30 : decode cX5_meanError 30 = .ok (.ddiv, 1) := by decide +kernel
theorem dX5_meanError_31 : decode cX5_meanError 31 = .ok (.dreturn, 1) := by decide +kernel
theorem dX5_put_0 : decode cX5_put 0 = .ok (.aload_n 0, 1) := by decide +kernel
theorem dX5_put_1 : decode cX5_put 1 = .ok (.getfield 40, 3) := by decide +kernel
theorem dX5_put_4 : decode cX5_put 4 = .ok (.aload_n 0, 1) := by decide +kernel
theorem dX5_put_5 : decode cX5_put 5 = .ok (.getfield 126, 3) := by decide +kernel
theorem dX5_put_8 : decode cX5_put 8 = .ok (.iload_n 1, 1) := by decide +kernel
theorem dX5_put_9 : decode cX5_put 9 = .ok (.iastore, 1) := by decide +kernel
theorem dX5_put_10 : decode cX5_put 10 = .ok (.aload_n 0, 1) := by decide +kernel
theorem dX5_put_11 : decode cX5_put 11 = .ok (.dup, 1) := by decide +kernel
theorem dX5_put_12 : decode cX5_put 12 = .ok (.getfield 126, 3) := by decide +kernel
theorem dX5_put_15 : decode cX5_put 15 = .ok (.iconst 1, 1) := by decide +kernel
theorem dX5_put_16 : decode cX5_put 16 = .ok (.iadd, 1) := by decide +kernel
theorem dX5_put_17 : decode cX5_put 17 = .ok (.putfield 126, 3) := by decide +kernel
theorem dX5_put_20 : decode cX5_put 20 = .ok (.return_, 1) := by decide +kernel
set_option maxRecDepth 20000 in
theorem ggX5_middle_X5_mix : GoodIn wsX5_middle wsX5_mix := goodIn_r _ [8, 9, 10, 11, 12, 13, 14, 15, 16, 17, 18, 19, 20, 21, 7, 22, 23, 24, 25, 26, 27, 28, 29, 30, 31, 32, 33, 34, 35, 36, 37, 38, 39, 40, 41, 42, 43, 44, 45, 46, 47, 48, 49, 50, 51, 52, 53, 54, 55, 56, 57, 58, 59, 60, 61] (by decide +kernel) (by decide +kernel)
set_option maxRecDepth 20000 in
theorem gX5_middle_X5_mix : GoodIn wsX5_middle (wsV RX5 107 RX5 yX5_mix wsX5_mix) := goodIn_app (goodIn_of _ (by decide +kernel)) ggX5_middle_X5_mix
theorem dX5_middle_0 : decode cX5_middle 0 = .ok (.aload_n 0, 1) := by decide +kernel
theorem dX5_middle_1 : decode cX5_middle 1 = .ok (.getfield 129, 3) := by decide +kernel
theorem dX5_middle_4 : decode cX5_middle 4 = .ok (.aload_n 0, 1) := by decide +kernel
theorem dX5_middle_5 : decode cX5_middle 5 = .ok (.getfield 132, 3) := by decide +kernel
theorem dX5_middle_8 : decode cX5_middle 8 = .ok (.aload_n 0, 1) := by decide +kernel
theorem dX5_middle_9 : decode cX5_middle 9 = .ok (.getfield 129, 3) := by decide +kernel
theorem dX5_middle_12 : decode cX5_middle 12 = .ok (.lsub, 1) := by decide +kernel
theorem dX5_middle_13 : decode cX5_middle 13 = .ok (.ldc2_w 135, 3) := by decide +kernel
theorem dX5_middle_16 : decode cX5_middle 16 = .ok (.ldiv, 1) := by decide +kernel
theorem dX5_middle_17 : decode cX5_middle 17 = .ok (.aload_n 0, 1) := by decide +kernel
theorem dX5_middle_18 : decode cX5_middle 18 = .ok (.invokevirtual 107, 3) := by decide +kernel
theorem dX5_middle_21 : decode cX5_middle 21 = .ok (.i2l, 1) := by decide +kernel
theorem dX5_middle_22 : decode cX5_middle 22 = .ok (.lmul, 1) := by decide +kernel
theorem dX5_middle_23 : decode cX5_middle 23 = .ok (.ladd, 1) := by decide +kernel
theorem dX5_middle_24 : decode cX5_middle 24 = .ok (.lreturn, 1) := by decide +kernel
set_option maxRecDepth 20000 in
theorem ggX5_part_X5_middle : GoodIn wsX5_part wsX5_middle := goodIn_r _ [7, 2, 1, 8, 9, 10, 11, 6, 12, 13, 14, 15, 16, 17, 18, 19, 20, 21, 22, 23, 24, 25, 26, 27, 28, 29, 30, 31, 32, 33, 34, 35, 36, 37, 38, 39, 40, 41, 42, 43, 44, 45, 46, 47, 48, 49, 50, 51, 52, 53, 54, 55, 56, 57, 58, 59, 60, 61, 62, 63, 64, 65] (by decide +kernel) (by decide +kernel)
set_option maxRecDepth 20000 in
theorem gX5_part_X5_middle : GoodIn wsX5_part (wsV RX5 137 RX5 yX5_middle wsX5_middle) := goodIn_app (goodIn_of _ (by decide +kernel)) ggX5_part_X5_middle
theorem dX5_part_0 : decode cX5_part 0 = .ok (.aload_n 0, 1) := by decide +kernel
theorem dX5_part_1 : decode cX5_part 1 = .ok (.invokevirtual 137, 3) := by decide +kernel
theorem dX5_part_4 : decode cX5_part 4 = .ok (.lstore_n 2, 1) := by decide +kernel
theorem dX5_part_5 : decode cX5_part 5 = .ok (.iload_n 1, 1) := by decide +kernel
theorem dX5_part_6 : decode cX5_part 6 = .ok (.ifCond .eq 11, 3) := by decide +kernel
theorem dX5_part_9 : decode cX5_part 9 = .ok (.aload_n 0, 1) := by decide +kernel
theorem dX5_part_10 : decode cX5_part 10 = .ok (.lload_n 2, 1) := by decide +kernel
theorem dX5_part_11 : decode cX5_part 11 = .ok (.putfield 132, 3) := by decide +kernel
theorem dX5_part_14 : decode cX5_part 14 = .ok (.goto 10, 3) := by decide +kernel
theorem dX5_part_17 : decode cX5_part 17 = .ok (.aload_n 0, 1) := by decide +kernel
theorem dX5_part_18 : decode cX5_part 18 = .ok (.lload_n 2, 1) := by decide +kernel
theorem dX5_part_19 : decode cX5_part 19 = .ok (.lconst 1, 1) := by decide +kernel
theorem dX5_part_20 : decode cX5_part 20 = .ok (.ladd, 1) := by decide +kernel
theorem dX5_part_21 : decode cX5_part 21 = .ok (.putfield 129, 3) := by decide +kernel
theorem dX5_part_24 : decode cX5_part 24 = .ok (.return_, 1) := by decide +kernel
theorem dX5_areSame_0 : decode cX5_areSame 0 = .ok (.aload_n 0, 1) := by decide +kernel
theorem dX5_areSame_1 : decode cX5_areSame 1 = .ok (.getfield 129, 3) := by decide +kernel
theorem dX5_areSame_4 : decode cX5_areSame 4 = .ok (.bipush 24, 2) := by decide +kernel
theorem dX5_areSame_6 : decode cX5_areSame 6 = .ok (.lshr, 1) := by decide +kernel
theorem dX5_areSame_7 : decode cX5_areSame 7 = .ok (.aload_n 0, 1) := by decide +kernel
theorem dX5_areSame_8 : decode cX5_areSame 8 = .ok (.getfield 132, 3) := by decide +kernel
theorem dX5_areSame_11 : decode cX5_areSame 11 = .ok (.bipush 24, 2) := by decide +kernel
theorem dX5_areSame_13 : decode cX5_areSame 13 = .ok (.lshr, 1) := by decide +kernel
theorem dX5_areSame_14 : decode cX5_areSame 14 = .ok (.lcmp, 1) := by decide +kernel
theorem dX5_areSame_15 : decode cX5_areSame 15 = .ok (.ifCond .ne 7, 3) := by decide +kernel
theorem dX5_areSame_18 : decode cX5_areSame 18 = .ok (.iconst 1, 1) := by decide +kernel
theorem dX5_areSame_19 : decode cX5_areSame 19 = .ok (.goto 4, 3) := by decide +kernel
theorem dX5_areSame_22 : decode cX5_areSame 22 = .ok (.iconst 0, 1) := by decide +kernel
theorem dX5_areSame_23 : decode cX5_areSame 23 = .ok (.ireturn, 1) := by decide +kernel
theorem dX5_shift_0 : decode cX5_shift 0 = .ok (.aload_n 0, 1) := by decide +kernel
theorem dX5_shift_1 : decode cX5_shift 1 = .ok (.aload_n 0, 1) := by decide +kernel
theorem dX5_shift_2 : decode cX5_shift 2 = .ok (.getfield 129, 3) := by decide +kernel
theorem dX5_shift_5 : decode cX5_shift 5 = .ok (.bipush 8, 2) := by decide +kernel
theorem dX5_shift_7 : decode cX5_shift 7 = .ok (.lshl, 1) := by decide +kernel
theorem dX5_shift_8 : decode cX5_shift 8 = .ok (.ldc2_w 141, 3) := by decide +kernel
theorem dX5_shift_11 : decode cX5_shift 11 = .ok (.land, 1) := by decide +kernel
theorem dX5_shift_12 : decode cX5_shift 12 = .ok (.putfield 129, 3) := by decide +kernel
theorem dX5_shift_15 : decode cX5_shift 15 = .ok (.aload_n 0, 1) := by decide +kernel
theorem dX5_shift_16 : decode cX5_shift 16 = .ok (.aload_n 0, 1) := by decide +kernel
theorem dX5_shift_17 : decode cX5_shift 17 = .ok (.getfield 132, 3) := by decide +kernel
theorem dX5_shift_20 : decode cX5_shift 20 = .ok (.bipush 8, 2) := by decide +kernel
theorem dX5_shift_22 : decode cX5_shift 22 = .ok (.lshl, 1) := by decide +kernel
theorem dX5_shift_23 : decode cX5_shift 23 = .ok (.ldc2_w 141, 3) := by decide +kernel
theorem dX5_shift_26 : decode cX5_shift 26 = .ok (.land, 1) := by decide +kernel
theorem dX5_shift_27 : decode cX5_shift 27 = .ok (.ldc2_w 81, 3) := by decide +kernel
theorem dX5_shift_30 : decode cX5_shift 30 = .ok (.lor, 1) := by decide +kernel
theorem dX5_shift_31 : decode cX5_shift 31 = .ok (.putfield 132, 3) := by decide +kernel
theorem dX5_shift_34 : decode cX5_shift 34 = .ok (.return_, 1) := by decide +kernel
set_option maxRecDepth 20000 in
theorem ggX5_encode_X5_clear : GoodIn wsX5_encode wsX5_clear := goodIn_r _ [13, 14, 15, 16, 17, 18, 19, 20, 21, 91, 92, 93, 94, 95, 96, 97, 98, 99, 100, 101, 102, 103, 104, 105, 106, 107, 108, 109, 110, 111, 112] (by decide +kernel) (by decide +kernel)
set_option maxRecDepth 20000 in
theorem gX5_encode_X5_clear : GoodIn wsX5_encode (wsV RX5 46 RX5 yX5_clear wsX5_clear) := goodIn_app (goodIn_of _ (by decide +kernel)) ggX5_encode_X5_clear
set_option maxRecDepth 20000 in
theorem ggX5_encode_X5_part : GoodIn wsX5_encode wsX5_part := goodIn_r _ [25, 5, 3, 26, 27, 28, 12, 29, 30, 31, 32, 33, 34, 35, 16, 36, 37, 38, 39, 40, 41, 42, 43, 44, 45, 46, 47, 19, 48, 49, 50, 51, 14, 52, 53, 54, 55, 56, 57, 58, 59, 60, 61, 18, 91, 92, 93, 94, 95, 96, 97, 98, 99, 100, 101, 102, 103, 104, 105, 106, 107, 108, 109, 110, 111, 112] (by decide +kernel) (by decide +kernel)
set_option maxRecDepth 20000 in
theorem gX5_encode_X5_part : GoodIn wsX5_encode (wsV RX5 143 RX5 yX5_part wsX5_part) := goodIn_app (goodIn_of _ (by decide +kernel)) ggX5_encode_X5_part
set_option maxRecDepth 20000 in
theorem ggX5_encode_X5_areSame : GoodIn wsX5_encode wsX5_areSame := goodIn_r _ [65, 3, 5, 91, 92, 93, 94, 95, 96, 97, 98, 99, 100, 101, 102, 103, 104, 105, 106, 107, 108, 109, 110, 111, 112] (by decide +kernel) (by decide +kernel)
set_option maxRecDepth 20000 in
theorem gX5_encode_X5_areSame : GoodIn wsX5_encode (wsV RX5 147 RX5 yX5_areSame wsX5_areSame) := goodIn_app (goodIn_of _ (by decide +kernel)) ggX5_encode_X5_areSame
set_option maxRecDepth 20000 in
theorem ggX5_encode_X5_put : GoodIn wsX5_encode wsX5_put := goodIn_r _ [69, 70, 2, 91, 92, 93, 94, 95, 96, 97, 98, 99, 100, 101, 102, 103, 104, 105, 106, 107, 108, 109, 110, 111, 112] (by decide +kernel) (by decide +kernel)
set_option maxRecDepth 20000 in
theorem gX5_encode_X5_put : GoodIn wsX5_encode (wsV RX5 151 RX5 yX5_put wsX5_put) := goodIn_app (goodIn_of _ (by decide +kernel)) ggX5_encode_X5_put
set_option maxRecDepth 20000 in
theorem ggX5_encode_X5_shift : GoodIn wsX5_encode wsX5_shift := goodIn_r _ [74, 3, 4, 5, 8, 91, 92, 93, 94, 95, 96, 97, 98, 99, 100, 101, 102, 103, 104, 105, 106, 107, 108, 109, 110, 111, 112] (by decide +kernel) (by decide +kernel)
set_option maxRecDepth 20000 in
theorem gX5_encode_X5_shift : GoodIn wsX5_encode (wsV RX5 155 RX5 yX5_shift wsX5_shift) := goodIn_app (goodIn_of _ (by decide +kernel)) ggX5_encode_X5_shift
set_option maxRecDepth 20000 in
theorem ggX5_encode_X5_learn : GoodIn wsX5_encode wsX5_learn := goodIn_r _ [78, 21, 35, 16, 79, 80, 81, 39, 82, 83, 84, 85, 14, 86, 15, 19, 87, 17, 18, 20, 31, 32, 33, 12, 34, 36, 37, 38, 40, 41, 42, 43, 44, 45, 46, 47, 48, 49, 50, 51, 52, 53, 54, 55, 56, 57, 58, 59, 60, 61, 88, 89, 90, 91, 92, 93, 94, 95, 96, 97, 98, 99, 100, 101, 102, 103, 104, 105, 106, 107, 108, 109, 110, 111, 112] (by decide +kernel) (by decide +kernel)
set_option maxRecDepth 20000 in
theorem gX5_encode_X5_learn : GoodIn wsX5_encode (wsV RX5 120 RX5 yX5_learn wsX5_learn) := goodIn_app (goodIn_of _ (by decide +kernel)) ggX5_encode_X5_learn
theorem dX5_encode_0 : decode cX5_encode 0 = .ok (.aload_n 0, 1) := by decide +kernel
theorem dX5_encode_1 : decode cX5_encode 1 = .ok (.iconst 0, 1) := by decide +kernel
theorem dX5_encode_2 : decode cX5_encode 2 = .ok (.putfield 49, 3) := by decide +kernel
theorem dX5_encode_5 : decode cX5_encode 5 = .ok (.aload_n 0, 1) := by decide +kernel
theorem dX5_encode_6 : decode cX5_encode 6 = .ok (.invokevirtual 46, 3) := by decide +kernel
theorem dX5_encode_9 : decode cX5_encode 9 = .ok (.aload_n 0, 1) := by decide +kernel
theorem dX5_encode_10 : decode cX5_encode 10 = .ok (.iconst 0, 1) := by decide +kernel
theorem dX5_encode_11 : decode cX5_encode 11 = .ok (.putfield 126, 3) := by decide +kernel
theorem dX5_encode_14 : decode cX5_encode 14 = .ok (.aload_n 0, 1) := by decide +kernel
theorem dX5_encode_15 : decode cX5_encode 15 = .ok (.lconst 0, 1) := by decide +kernel
theorem dX5_encode_16 : decode cX5_encode 16 = .ok (.putfield 129, 3) := by decide +kernel
theorem dX5_encode_19 : decode cX5_encode 19 = .ok (.aload_n 0, 1) := by decide +kernel
theorem dX5_encode_20 : decode cX5_encode 20 = .ok (.ldc2_w 141, 3) := by decide +kernel
theorem dX5_encode_23 : decode cX5_encode 23 = .ok (.putfield 132, 3) := by decide +kernel
theorem dX5_encode_26 : decode cX5_encode 26 = .ok (.iconst 0, 1) := by decide +kernel
theorem dX5_encode_27 : decode cX5_encode 27 = .ok (.istore_n 1, 1) := by decide +kernel
theorem dX5_encode_28 : decode cX5_encode 28 = .ok (.iload_n 1, 1) := by decide +kernel
theorem dX5_encode_29 : decode cX5_encode 29 = .ok (.aload_n 0, 1) := by decide +kernel
theorem dX5_encode_30 : decode cX5_encode 30 = .ok (.getfield 78, 3) := by decide +kernel
theorem dX5_encode_33 : decode cX5_encode 33 = .ok (.if_icmp .ge 79, 3) := by decide +kernel
theorem dX5_encode_36 : decode cX5_encode 36 = .ok (.bipush 7, 2) := by decide +kernel
theorem dX5_encode_38 : decode cX5_encode 38 = .ok (.istore_n 2, 1) := by decide +kernel
theorem dX5_encode_39 : decode cX5_encode 39 = .ok (.iload_n 2, 1) := by decide +kernel
theorem dX5_encode_40 : decode cX5_encode 40 = .ok (.ifCond .lt 66, 3) := by decide +kernel
theorem dX5_encode_43 : decode cX5_encode 43 = .ok (.aload_n 0, 1) := by decide +kernel
theorem dX5_encode_44 : decode cX5_encode 44 = .ok (.getfield 19, 3) := by decide +kernel
theorem dX5_encode_47 : decode cX5_encode 47 = .ok (.iload_n 1, 1) := by decide +kernel
theorem dX5_encode_48 : decode cX5_encode 48 = .ok (.iaload, 1) := by decide +kernel
theorem dX5_encode_49 : decode cX5_encode 49 = .ok (.iload_n 2, 1) := by decide +kernel
theorem dX5_encode_50 : decode cX5_encode 50 = .ok (.ishr, 1) := by decide +kernel
theorem dX5_encode_51 : decode cX5_encode 51 = .ok (.iconst 1, 1) := by decide +kernel
theorem dX5_encode_52 : decode cX5_encode 52 = .ok (.iand, 1) := by decide +kernel
theorem dX5_encode_53 : decode cX5_encode 53 = .ok (.iconst 1, 1) := by decide +kernel
theorem dX5_encode_54 : decode cX5_encode 54 = .ok (.if_icmp .ne 7, 3) := by decide +kernel
theorem dX5_encode_57 : decode cX5_encode 57 = .ok (.iconst 1, 1) := by decide +kernel
theorem dX5_encode_58 : decode cX5_encode 58 = .ok (.goto 4, 3) := by decide +kernel
theorem dX5_encode_61 : decode cX5_encode 61 = .ok (.iconst 0, 1) := by decide +kernel
theorem dX5_encode_62 : decode cX5_encode 62 = .ok (.istore_n 3, 1) := by decide +kernel
theorem dX5_encode_63 : decode cX5_encode 63 = .ok (.aload_n 0, 1) := by decide +kernel
theorem dX5_encode_64 : decode cX5_encode 64 = .ok (.iload_n 3, 1) := by decide +kernel
theorem dX5_encode_65 : decode cX5_encode 65 = .ok (.invokevirtual 143, 3) := by decide +kernel
theorem dX5_encode_68 : decode cX5_encode 68 = .ok (.aload_n 0, 1) := by decide +kernel
theorem dX5_encode_69 : decode cX5_encode 69 = .ok (.invokevirtual 147, 3) := by decide +kernel
theorem dX5_encode_72 : decode cX5_encode 72 = .ok (.ifCond .eq 22, 3) := by decide +kernel
theorem dX5_encode_75 : decode cX5_encode 75 = .ok (.aload_n 0, 1) := by decide +kernel
theorem dX5_encode_76 : decode cX5_encode 76 = .ok (.aload_n 0, 1) := by decide +kernel
theorem dX5_encode_77 : decode cX5_encode 77 = .ok (.getfield 129, 3) := by decide +kernel
theorem dX5_encode_80 : decode cX5_encode 80 = .ok (.bipush 24, 2) := by decide +kernel
theorem dX5_encode_82 : decode cX5_encode 82 = .ok (.lshr, 1) := by decide +kernel
theorem dX5_encode_83 : decode cX5_encode 83 = .ok (.l2i, 1) := by decide +kernel
theorem dX5_encode_84 : decode cX5_encode 84 = .ok (.invokevirtual 151, 3) := by decide +kernel
theorem dX5_encode_87 : decode cX5_encode 87 = .ok (.aload_n 0, 1) := by decide +kernel
theorem dX5_encode_88 : decode cX5_encode 88 = .ok (.invokevirtual 155, 3) := by decide +kernel
theorem dX5_encode_91 : decode cX5_encode 91 = .ok (.goto (-23), 3) := by decide +kernel
theorem dX5_encode_94 : decode cX5_encode 94 = .ok (.aload_n 0, 1) := by decide +kernel
theorem dX5_encode_95 : decode cX5_encode 95 = .ok (.iload_n 3, 1) := by decide +kernel
theorem dX5_encode_96 : decode cX5_encode 96 = .ok (.invokevirtual 120, 3) := by decide +kernel
theorem dX5_encode_99 : decode cX5_encode 99 = .ok (.pop, 1) := by decide +kernel
theorem dX5_encode_100 : decode cX5_encode 100 = .ok (.iinc 2 (-1), 3) := by decide +kernel
theorem dX5_encode_103 : decode cX5_encode 103 = .ok (.goto (-64), 3) := by decide +kernel
theorem dX5_encode_106 : decode cX5_encode 106 = .ok (.iinc 1 1, 3) := by decide +kernel
theorem dX5_encode_109 : decode cX5_encode 109 = .ok (.goto (-81), 3) := by decide +kernel
theorem dX5_encode_112 : decode cX5_encode 112 = .ok (.bipush 24, 2) := by decide +kernel
theorem dX5_encode_114 : decode cX5_encode 114 = .ok (.istore_n 1, 1) := by decide +kernel
theorem dX5_encode_115 : decode cX5_encode 115 = .ok (.iload_n 1, 1) := by decide +kernel
theorem dX5_encode_116 : decode cX5_encode 116 = .ok (.ifCond .lt 24, 3) := by decide +kernel
theorem dX5_encode_119 : decode cX5_encode 119 = .ok (.aload_n 0, 1) := by decide +kernel
theorem dX5_encode_120 : decode cX5_encode 120 = .ok (.aload_n 0, 1) := by decide +kernel
theorem dX5_encode_121 : decode cX5_encode 121 = .ok (.getfield 129, 3) := by decide +kernel
theorem dX5_encode_124 : decode cX5_encode 124 = .ok (.iload_n 1, 1) := by decide +kernel
theorem dX5_encode_125 : decode cX5_encode 125 = .ok (.lshr, 1) := by decide +kernel
theorem dX5_encode_126 : decode cX5_encode 126 = .ok (.ldc2_w 81, 3) := by decide +kernel
theorem dX5_encode_129 : decode cX5_encode 129 = .ok (.land, 1) := by decide +kernel
theorem dX5_encode_130 : decode cX5_encode 130 = .ok (.l2i, 1) := by decide +kernel
theorem dX5_encode_131 : decode cX5_encode 131 = .ok (.invokevirtual 151, 3) := by decide +kernel
theorem dX5_encode_134 : decode cX5_encode 134 = .ok (.iinc 1 (-8), 3) := by decide +kernel
theorem dX5_encode_137 : decode cX5_encode 137 = .ok (.goto (-22), 3) := by decide +kernel
theorem dX5_encode_140 : decode cX5_encode 140 = .ok (.aload_n 0, 1) := by decide +kernel
theorem dX5_encode_141 : decode cX5_encode 141 = .ok (.getfield 126, 3) := by decide +kernel
theorem dX5_encode_144 : decode cX5_encode 144 = .ok (.ireturn, 1) := by decide +kernel
theorem dX5_codeSize_0 : decode cX5_codeSize 0 = .ok (.aload_n 0, 1) := by decide +kernel
theorem dX5_codeSize_1 : decode cX5_codeSize 1 = .ok (.iconst 0, 1) := by decide +kernel
theorem dX5_codeSize_2 : decode cX5_codeSize 2 = .ok (.putfield 49, 3) := by decide +kernel
theorem dX5_codeSize_5 : decode cX5_codeSize 5 = .ok (.aload_n 0, 1) := by decide +kernel
theorem dX5_codeSize_6 : decode cX5_codeSize 6 = .ok (.getfield 126, 3) := by decide +kernel
theorem dX5_codeSize_9 : decode cX5_codeSize 9 = .ok (.ireturn, 1) := by decide +kernel
set_option maxRecDepth 20000 in
theorem ggX5_code_X5_isIn : GoodIn wsX5_code wsX5_isIn := goodIn_r _ [7] (by decide +kernel) (by decide +kernel)
set_option maxRecDepth 20000 in
theorem gX5_code_X5_isIn : GoodIn wsX5_code (va_wsS RX5 56 yX5_isIn wsX5_isIn) := goodIn_app (goodIn_of _ (by decide +kernel)) ggX5_code_X5_isIn
set_option maxRecDepth 20000 in
theorem ggX5_code_X5_no : GoodIn wsX5_code wsX5_no := goodIn_r _ [11, 1, 12, 13, 14, 15, 16, 17, 18, 19, 20, 21, 22, 23, 24, 25, 26, 27, 28, 29, 30, 31, 32, 33] (by decide +kernel) (by decide +kernel)
set_option maxRecDepth 20000 in
theorem gX5_code_X5_no : GoodIn wsX5_code (wsV RX5 70 RX5 yX5_no wsX5_no) := goodIn_app (goodIn_of _ (by decide +kernel)) ggX5_code_X5_no
theorem dX5_code_0 : decode cX5_code 0 = .ok (.aload_n 0, 1) := by decide +kernel
theorem dX5_code_1 : decode cX5_code 1 = .ok (.iconst 0, 1) := by decide +kernel
theorem dX5_code_2 : decode cX5_code 2 = .ok (.putfield 49, 3) := by decide +kernel
theorem dX5_code_5 : decode cX5_code 5 = .ok (.iload_n 1, 1) := by decide +kernel
theorem dX5_code_6 : decode cX5_code 6 = .ok (.iconst 0, 1) := by decide +kernel
theorem dX5_code_7 : decode cX5_code 7 = .ok (.aload_n 0, 1) := by decide +kernel
theorem dX5_code_8 : decode cX5_code 8 = .ok (.getfield 126, 3) := by decide +kernel
theorem dX5_code_11 : decode cX5_code 11 = .ok (.iconst 1, 1) := by decide +kernel
theorem dX5_code_12 : decode cX5_code 12 = .ok (.isub, 1) := by decide +kernel
theorem dX5_code_13 : decode cX5_code 13 = .ok (.invokestatic 56, 3) := by decide +kernel
theorem dX5_code_16 : decode cX5_code 16 = .ok (.ifCond .eq 12, 3) := by decide +kernel
theorem dX5_code_19 : decode cX5_code 19 = .ok (.aload_n 0, 1) := by decide +kernel
theorem dX5_code_20 : decode cX5_code 20 = .ok (.getfield 40, 3) := by decide +kernel
theorem dX5_code_23 : decode cX5_code 23 = .ok (.iload_n 1, 1) := by decide +kernel
theorem dX5_code_24 : decode cX5_code 24 = .ok (.iaload, 1) := by decide +kernel
theorem dX5_code_25 : decode cX5_code 25 = .ok (.goto 8, 3) := by decide +kernel
theorem dX5_code_28 : decode cX5_code 28 = .ok (.aload_n 0, 1) := by decide +kernel
theorem dX5_code_29 : decode cX5_code 29 = .ok (.iconst 1, 1) := by decide +kernel
theorem dX5_code_30 : decode cX5_code 30 = .ok (.invokevirtual 70, 3) := by decide +kernel
theorem dX5_code_33 : decode cX5_code 33 = .ok (.ireturn, 1) := by decide +kernel
set_option maxRecDepth 20000 in
theorem ggX5_setCode_X5_isIn : GoodIn wsX5_setCode wsX5_isIn := goodIn_r _ [7] (by decide +kernel) (by decide +kernel)
set_option maxRecDepth 20000 in
theorem gX5_setCode_X5_isIn : GoodIn wsX5_setCode (va_wsS RX5 56 yX5_isIn wsX5_isIn) := goodIn_app (goodIn_of _ (by decide +kernel)) ggX5_setCode_X5_isIn
set_option maxRecDepth 20000 in
theorem ggX5_setCode_X5_no : GoodIn wsX5_setCode wsX5_no := goodIn_r _ [11, 1, 12, 13, 14, 15, 16, 17, 18, 19, 20, 21, 22, 23, 24, 25, 26, 27, 28, 29, 30, 31, 32, 33] (by decide +kernel) (by decide +kernel)
set_option maxRecDepth 20000 in
theorem gX5_setCode_X5_no : GoodIn wsX5_setCode (wsV RX5 70 RX5 yX5_no wsX5_no) := goodIn_app (goodIn_of _ (by decide +kernel)) ggX5_setCode_X5_no
theorem dX5_setCode_0 : decode cX5_setCode 0 = .ok (.aload_n 0, 1) := by decide +kernel
theorem dX5_setCode_1 : decode cX5_setCode 1 = .ok (.iconst 0, 1) := by decide +kernel
theorem dX5_setCode_2 : decode cX5_setCode 2 = .ok (.putfield 49, 3) := by decide +kernel
theorem dX5_setCode_5 : decode cX5_setCode 5 = .ok (.iload_n 1, 1) := by decide +kernel
theorem dX5_setCode_6 : decode cX5_setCode 6 = .ok (.iconst 0, 1) := by decide +kernel
theorem dX5_setCode_7 : decode cX5_setCode 7 = .ok (.aload_n 0, 1) := by decide +kernel
theorem dX5_setCode_8 : decode cX5_setCode 8 = .ok (.getfield 126, 3) := by decide +kernel
theorem dX5_setCode_11 : decode cX5_setCode 11 = .ok (.iconst 1, 1) := by decide +kernel
theorem dX5_setCode_12 : decode cX5_setCode 12 = .ok (.isub, 1) := by decide +kernel
theorem dX5_setCode_13 : decode cX5_setCode 13 = .ok (.invokestatic 56, 3) := by decide +kernel
theorem dX5_setCode_16 : decode cX5_setCode 16 = .ok (.ifCond .ne 9, 3) := by decide +kernel
theorem dX5_setCode_19 : decode cX5_setCode 19 = .ok (.aload_n 0, 1) := by decide +kernel
theorem dX5_setCode_20 : decode cX5_setCode 20 = .ok (.iconst 1, 1) := by decide +kernel
theorem dX5_setCode_21 : decode cX5_setCode 21 = .ok (.invokevirtual 70, 3) := by decide +kernel
theorem dX5_setCode_24 : decode cX5_setCode 24 = .ok (.ireturn, 1) := by decide +kernel
theorem dX5_setCode_25 : decode cX5_setCode 25 = .ok (.iload_n 2, 1) := by decide +kernel
theorem dX5_setCode_26 : decode cX5_setCode 26 = .ok (.iconst 0, 1) := by decide +kernel
theorem dX5_setCode_27 : decode cX5_setCode 27 = .ok (.sipush 255, 3) := by decide +kernel
theorem dX5_setCode_30 : decode cX5_setCode 30 = .ok (.invokestatic 56, 3) := by decide +kernel
theorem dX5_setCode_33 : decode cX5_setCode 33 = .ok (.ifCond .ne 9, 3) := by decide +kernel
theorem dX5_setCode_36 : decode cX5_setCode 36 = .ok (.aload_n 0, 1) := by decide +kernel
theorem dX5_setCode_37 : decode cX5_setCode 37 = .ok (.iconst 2, 1) := by decide +kernel
theorem dX5_setCode_38 : decode cX5_setCode 38 = .ok (.invokevirtual 70, 3) := by decide +kernel
theorem dX5_setCode_41 : decode cX5_setCode 41 = .ok (.ireturn, 1) := by decide +kernel
theorem dX5_setCode_42 : decode cX5_setCode 42 = .ok (.aload_n 0, 1) := by decide +kernel
theorem dX5_setCode_43 : decode cX5_setCode 43 = .ok (.getfield 40, 3) := by decide +kernel
theorem dX5_setCode_46 : decode cX5_setCode 46 = .ok (.iload_n 1, 1) := by decide +kernel
theorem dX5_setCode_47 : decode cX5_setCode 47 = .ok (.iaload, 1) := by decide +kernel
theorem dX5_setCode_48 : decode cX5_setCode 48 = .ok (.istore_n 3, 1) := by decide +kernel
theorem dX5_setCode_49 : decode cX5_setCode 49 = .ok (.aload_n 0, 1) := by decide +kernel
theorem dX5_setCode_50 : decode cX5_setCode 50 = .ok (.getfield 40, 3) := by decide +kernel
theorem dX5_setCode_53 : decode cX5_setCode 53 = .ok (.iload_n 1, 1) := by decide +kernel
theorem dX5_setCode_54 : decode cX5_setCode 54 = .ok (.iload_n 2, 1) := by decide +kernel
theorem dX5_setCode_55 : decode cX5_setCode 55 = .ok (.iastore, 1) := by decide +kernel
theorem dX5_setCode_56 : decode cX5_setCode 56 = .ok (.iload_n 3, 1) := by decide +kernel
theorem dX5_setCode_57 : decode cX5_setCode 57 = .ok (.ireturn, 1) := by decide +kernel
set_option maxRecDepth 20000 in
theorem ggX5_cutCode_X5_isIn : GoodIn wsX5_cutCode wsX5_isIn := goodIn_r _ [6] (by decide +kernel) (by decide +kernel)
set_option maxRecDepth 20000 in
theorem gX5_cutCode_X5_isIn : GoodIn wsX5_cutCode (va_wsS RX5 56 yX5_isIn wsX5_isIn) := goodIn_app (goodIn_of _ (by decide +kernel)) ggX5_cutCode_X5_isIn
set_option maxRecDepth 20000 in
theorem ggX5_cutCode_X5_no : GoodIn wsX5_cutCode wsX5_no := goodIn_r _ [10, 1, 11, 12, 13, 14, 15, 16, 17, 18, 19, 20, 21, 22, 23, 24, 25, 26, 27, 28, 29, 30, 31, 32] (by decide +kernel) (by decide +kernel)
set_option maxRecDepth 20000 in
theorem gX5_cutCode_X5_no : GoodIn wsX5_cutCode (wsV RX5 70 RX5 yX5_no wsX5_no) := goodIn_app (goodIn_of _ (by decide +kernel)) ggX5_cutCode_X5_no
theorem dX5_cutCode_0 : decode cX5_cutCode 0 = .ok (.aload_n 0, 1) := by decide +kernel
theorem dX5_cutCode_1 : decode cX5_cutCode 1 = .ok (.iconst 0, 1) := by decide +kernel
theorem dX5_cutCode_2 : decode cX5_cutCode 2 = .ok (.putfield 49, 3) := by decide +kernel
theorem dX5_cutCode_5 : decode cX5_cutCode 5 = .ok (.iload_n 1, 1) := by decide +kernel
theorem dX5_cutCode_6 : decode cX5_cutCode 6 = .ok (.iconst 0, 1) := by decide +kernel
theorem dX5_cutCode_7 : decode cX5_cutCode 7 = .ok (.aload_n 0, 1) := by decide +kernel
theorem dX5_cutCode_8 : decode cX5_cutCode 8 = .ok (.getfield 126, 3) := by decide +kernel
theorem dX5_cutCode_11 : decode cX5_cutCode 11 = .ok (.invokestatic 56, 3) := by decide +kernel
theorem dX5_cutCode_14 : decode cX5_cutCode 14 = .ok (.ifCond .ne 9, 3) := by decide +kernel
theorem dX5_cutCode_17 : decode cX5_cutCode 17 = .ok (.aload_n 0, 1) := by decide +kernel
theorem dX5_cutCode_18 : decode cX5_cutCode 18 = .ok (.iconst 1, 1) := by decide +kernel
theorem dX5_cutCode_19 : decode cX5_cutCode 19 = .ok (.invokevirtual 70, 3) := by decide +kernel
theorem dX5_cutCode_22 : decode cX5_cutCode 22 = .ok (.ireturn, 1) := by decide +kernel
theorem dX5_cutCode_23 : decode cX5_cutCode 23 = .ok (.aload_n 0, 1) := by decide +kernel
theorem dX5_cutCode_24 : decode cX5_cutCode 24 = .ok (.dup, 1) := by decide +kernel
theorem dX5_cutCode_25 : decode cX5_cutCode 25 = .ok (.getfield 126, 3) := by decide +kernel
theorem dX5_cutCode_28 : decode cX5_cutCode 28 = .ok (.iload_n 1, 1) := by decide +kernel
theorem dX5_cutCode_29 : decode cX5_cutCode 29 = .ok (.isub, 1) := by decide +kernel
theorem dX5_cutCode_30 : decode cX5_cutCode 30 = .ok (.putfield 126, 3) := by decide +kernel
theorem dX5_cutCode_33 : decode cX5_cutCode 33 = .ok (.aload_n 0, 1) := by decide +kernel
theorem dX5_cutCode_34 : decode cX5_cutCode 34 = .ok (.getfield 126, 3) := by decide +kernel
theorem dX5_cutCode_37 : decode cX5_cutCode 37 = .ok (.ireturn, 1) := by decide +kernel
theorem dX5_byteOfCode_0 : decode cX5_byteOfCode 0 = .ok (.iload_n 1, 1) := by decide +kernel
theorem dX5_byteOfCode_1 : decode cX5_byteOfCode 1 = .ok (.aload_n 0, 1) := by decide +kernel
theorem dX5_byteOfCode_2 : decode cX5_byteOfCode 2 = .ok (.getfield 126, 3) := by decide +kernel
theorem dX5_byteOfCode_5 : decode cX5_byteOfCode 5 = .ok (.if_icmp .ge 12, 3) := by decide +kernel
theorem dX5_byteOfCode_8 : decode cX5_byteOfCode 8 = .ok (.aload_n 0, 1) := by decide +kernel
theorem dX5_byteOfCode_9 : decode cX5_byteOfCode 9 = .ok (.getfield 40, 3) := by decide +kernel
theorem dX5_byteOfCode_12 : decode cX5_byteOfCode 12 = .ok (.iload_n 1, 1) := by decide +kernel
theorem dX5_byteOfCode_13 : decode cX5_byteOfCode 13 = .ok (.iaload, 1) := by decide +kernel
theorem dX5_byteOfCode_14 : decode cX5_byteOfCode 14 = .ok (.goto 4, 3) := by decide +kernel
theorem dX5_byteOfCode_17 : decode cX5_byteOfCode 17 = .ok (.iconst 0, 1) := by decide +kernel
theorem dX5_byteOfCode_18 : decode cX5_byteOfCode 18 = .ok (.ireturn, 1) := by decide +kernel
set_option maxRecDepth 20000 in
theorem ggX5_decode_X5_isIn : GoodIn wsX5_decode wsX5_isIn := goodIn_r _ [11] (by decide +kernel) (by decide +kernel)
set_option maxRecDepth 20000 in
theorem gX5_decode_X5_isIn : GoodIn wsX5_decode (va_wsS RX5 56 yX5_isIn wsX5_isIn) := goodIn_app (goodIn_of _ (by decide +kernel)) ggX5_decode_X5_isIn
set_option maxRecDepth 20000 in
theorem ggX5_decode_X5_no : GoodIn wsX5_decode wsX5_no := goodIn_r _ [15, 1, 108, 109, 110, 111, 112, 113, 114, 115, 116, 117, 118, 119, 120, 121, 122, 123, 124, 125, 126, 127, 128, 129] (by decide +kernel) (by decide +kernel)
set_option maxRecDepth 20000 in
theorem gX5_decode_X5_no : GoodIn wsX5_decode (wsV RX5 70 RX5 yX5_no wsX5_no) := goodIn_app (goodIn_of _ (by decide +kernel)) ggX5_decode_X5_no
set_option maxRecDepth 20000 in
theorem ggX5_decode_X5_clear : GoodIn wsX5_decode wsX5_clear := goodIn_r _ [19, 20, 21, 22, 23, 24, 25, 26, 27, 108, 109, 110, 111, 112, 113, 114, 115, 116, 117, 118, 119, 120, 121, 122, 123, 124, 125, 126, 127, 128, 129] (by decide +kernel) (by decide +kernel)
set_option maxRecDepth 20000 in
theorem gX5_decode_X5_clear : GoodIn wsX5_decode (wsV RX5 46 RX5 yX5_clear wsX5_clear) := goodIn_app (goodIn_of _ (by decide +kernel)) ggX5_decode_X5_clear
set_option maxRecDepth 20000 in
theorem ggX5_decode_X5_byteOfCode : GoodIn wsX5_decode wsX5_byteOfCode := goodIn_r _ [31, 32, 33, 108, 109, 110, 111, 112, 113, 114, 115, 116, 117, 118, 119, 120, 121, 122, 123, 124, 125, 126, 127, 128, 129] (by decide +kernel) (by decide +kernel)
set_option maxRecDepth 20000 in
theorem gX5_decode_X5_byteOfCode : GoodIn wsX5_decode (wsV RX5 160 RX5 yX5_byteOfCode wsX5_byteOfCode) := goodIn_app (goodIn_of _ (by decide +kernel)) ggX5_decode_X5_byteOfCode
set_option maxRecDepth 20000 in
theorem ggX5_decode_X5_middle : GoodIn wsX5_decode wsX5_middle := goodIn_r _ [37, 2, 4, 38, 39, 40, 41, 10, 42, 43, 22, 44, 45, 46, 47, 48, 49, 50, 51, 52, 53, 54, 55, 25, 56, 57, 58, 59, 20, 60, 61, 62, 63, 64, 65, 66, 67, 68, 69, 24, 108, 109, 110, 111, 112, 113, 114, 115, 116, 117, 118, 119, 120, 121, 122, 123, 124, 125, 126, 127, 128, 129] (by decide +kernel) (by decide +kernel)
set_option maxRecDepth 20000 in
theorem gX5_decode_X5_middle : GoodIn wsX5_decode (wsV RX5 137 RX5 yX5_middle wsX5_middle) := goodIn_app (goodIn_of _ (by decide +kernel)) ggX5_decode_X5_middle
set_option maxRecDepth 20000 in
theorem ggX5_decode_X5_part : GoodIn wsX5_decode wsX5_part := goodIn_r _ [73, 4, 2, 34, 35, 36, 10, 37, 38, 39, 40, 41, 42, 43, 22, 44, 45, 46, 47, 48, 49, 50, 51, 52, 53, 54, 55, 25, 56, 57, 58, 59, 20, 60, 61, 62, 63, 64, 65, 66, 67, 68, 69, 24, 108, 109, 110, 111, 112, 113, 114, 115, 116, 117, 118, 119, 120, 121, 122, 123, 124, 125, 126, 127, 128, 129] (by decide +kernel) (by decide +kernel)
set_option maxRecDepth 20000 in
theorem gX5_decode_X5_part : GoodIn wsX5_decode (wsV RX5 143 RX5 yX5_part wsX5_part) := goodIn_app (goodIn_of _ (by decide +kernel)) ggX5_decode_X5_part
set_option maxRecDepth 20000 in
theorem ggX5_decode_X5_areSame : GoodIn wsX5_decode wsX5_areSame := goodIn_r _ [77, 2, 4, 108, 109, 110, 111, 112, 113, 114, 115, 116, 117, 118, 119, 120, 121, 122, 123, 124, 125, 126, 127, 128, 129] (by decide +kernel) (by decide +kernel)
set_option maxRecDepth 20000 in
theorem gX5_decode_X5_areSame : GoodIn wsX5_decode (wsV RX5 147 RX5 yX5_areSame wsX5_areSame) := goodIn_app (goodIn_of _ (by decide +kernel)) ggX5_decode_X5_areSame
set_option maxRecDepth 20000 in
theorem ggX5_decode_X5_shift : GoodIn wsX5_decode wsX5_shift := goodIn_r _ [81, 2, 3, 4, 82, 108, 109, 110, 111, 112, 113, 114, 115, 116, 117, 118, 119, 120, 121, 122, 123, 124, 125, 126, 127, 128, 129] (by decide +kernel) (by decide +kernel)
set_option maxRecDepth 20000 in
theorem gX5_decode_X5_shift : GoodIn wsX5_decode (wsV RX5 155 RX5 yX5_shift wsX5_shift) := goodIn_app (goodIn_of _ (by decide +kernel)) ggX5_decode_X5_shift
set_option maxRecDepth 20000 in
theorem ggX5_decode_X5_learn : GoodIn wsX5_decode wsX5_learn := goodIn_r _ [86, 27, 43, 22, 87, 88, 89, 47, 90, 91, 92, 93, 20, 94, 21, 25, 95, 23, 24, 26, 39, 40, 41, 10, 42, 44, 45, 46, 48, 49, 50, 51, 52, 53, 54, 55, 56, 57, 58, 59, 60, 61, 62, 63, 64, 65, 66, 67, 68, 69, 96, 97, 98, 108, 109, 110, 111, 112, 113, 114, 115, 116, 117, 118, 119, 120, 121, 122, 123, 124, 125, 126, 127, 128, 129] (by decide +kernel) (by decide +kernel)
set_option maxRecDepth 20000 in
theorem gX5_decode_X5_learn : GoodIn wsX5_decode (wsV RX5 120 RX5 yX5_learn wsX5_learn) := goodIn_app (goodIn_of _ (by decide +kernel)) ggX5_decode_X5_learn
set_option maxRecDepth 20000 in
theorem ggX5_decode_X5_differences : GoodIn wsX5_decode wsX5_differences := goodIn_r _ [102, 103, 6, 104, 105, 47, 106, 107, 7, 108, 109, 110, 111, 112, 113, 114, 115, 116, 117, 118, 119, 120, 121, 122, 123, 124, 125, 126, 127, 128, 129] (by decide +kernel) (by decide +kernel)
set_option maxRecDepth 20000 in
theorem gX5_decode_X5_differences : GoodIn wsX5_decode (wsV RX5 166 RX5 yX5_differences wsX5_differences) := goodIn_app (goodIn_of _ (by decide +kernel)) ggX5_decode_X5_differences
theorem dX5_decode_0 : decode cX5_decode 0 = .ok (.aload_n 0, 1) := by decide +kernel
theorem dX5_decode_1 : decode cX5_decode 1 = .ok (.iconst 0, 1) := by decide +kernel
theorem dX5_decode_2 : decode cX5_decode 2 = .ok (.putfield 49, 3) := by decide +kernel
theorem dX5_decode_5 : decode cX5_decode 5 = .ok (.iload_n 1, 1) := by decide +kernel
theorem dX5_decode_6 : decode cX5_decode 6 = .ok (.iconst 0, 1) := by decide +kernel
theorem dX5_decode_7 : decode cX5_decode 7 = .ok (.bipush 80, 2) := by decide +kernel
theorem dX5_decode_9 : decode cX5_decode 9 = .ok (.invokestatic 56, 3) := by decide +kernel
theorem dX5_decode_12 : decode cX5_decode 12 = .ok (.ifCond .ne 9, 3) := by decide +kernel
theorem dX5_decode_15 : decode cX5_decode 15 = .ok (.aload_n 0, 1) := by decide +kernel
theorem dX5_decode_16 : decode cX5_decode 16 = .ok (.iconst 1, 1) := by decide +kernel
theorem dX5_decode_17 : decode cX5_decode 17 = .ok (.invokevirtual 70, 3) := by decide +kernel
theorem dX5_decode_20 : decode cX5_decode 20 = .ok (.ireturn, 1) := by decide +kernel
theorem dX5_decode_21 : decode cX5_decode 21 = .ok (.aload_n 0, 1) := by decide +kernel
theorem dX5_decode_22 : decode cX5_decode 22 = .ok (.invokevirtual 46, 3) := by decide +kernel
theorem dX5_decode_25 : decode cX5_decode 25 = .ok (.aload_n 0, 1) := by decide +kernel
theorem dX5_decode_26 : decode cX5_decode 26 = .ok (.lconst 0, 1) := by decide +kernel
theorem dX5_decode_27 : decode cX5_decode 27 = .ok (.putfield 129, 3) := by decide +kernel
theorem dX5_decode_30 : decode cX5_decode 30 = .ok (.aload_n 0, 1) := by decide +kernel
theorem dX5_decode_31 : decode cX5_decode 31 = .ok (.ldc2_w 141, 3) := by decide +kernel
theorem dX5_decode_34 : decode cX5_decode 34 = .ok (.putfield 132, 3) := by decide +kernel
theorem dX5_decode_37 : decode cX5_decode 37 = .ok (.lconst 0, 1) := by decide +kernel
theorem dX5_decode_38 : decode cX5_decode 38 = .ok (.lstore_n 2, 1) := by decide +kernel
theorem dX5_decode_39 : decode cX5_decode 39 = .ok (.iconst 0, 1) := by decide +kernel
theorem dX5_decode_40 : decode cX5_decode 40 = .ok (.istore 4, 2) := by decide +kernel
theorem dX5_decode_42 : decode cX5_decode 42 = .ok (.iload 4, 2) := by decide +kernel
theorem dX5_decode_44 : decode cX5_decode 44 = .ok (.iconst 4, 1) := by decide +kernel
theorem dX5_decode_45 : decode cX5_decode 45 = .ok (.if_icmp .ge 23, 3) := by decide +kernel
theorem dX5_decode_48 : decode cX5_decode 48 = .ok (.ldc2_w 158, 3) := by decide +kernel
theorem dX5_decode_51 : decode cX5_decode 51 = .ok (.lload_n 2, 1) := by decide +kernel
theorem dX5_decode_52 : decode cX5_decode 52 = .ok (.lmul, 1) := by decide +kernel
theorem dX5_decode_53 : decode cX5_decode 53 = .ok (.aload_n 0, 1) := by decide +kernel
theorem dX5_decode_54 : decode cX5_decode 54 = .ok (.iload 4, 2) := by decide +kernel
theorem dX5_decode_56 : decode cX5_decode 56 = .ok (.invokevirtual 160, 3) := by decide +kernel
theorem dX5_decode_59 : decode cX5_decode 59 = .ok (.i2l, 1) := by decide +kernel
theorem dX5_decode_60 : decode cX5_decode 60 = .ok (.ladd, 1) := by decide +kernel
theorem dX5_decode_61 : decode cX5_decode 61 = .ok (.lstore_n 2, 1) := by decide +kernel
theorem dX5_decode_62 : decode cX5_decode 62 = .ok (.iinc 4 1, 3) := by decide +kernel
theorem dX5_decode_65 : decode cX5_decode 65 = .ok (.goto (-23), 3) := by decide +kernel
theorem dX5_decode_68 : decode cX5_decode 68 = .ok (.aload_n 0, 1) := by decide +kernel
theorem dX5_decode_69 : decode cX5_decode 69 = .ok (.iload_n 1, 1) := by decide +kernel
theorem dX5_decode_70 : decode cX5_decode 70 = .ok (.putfield 163, 3) := by decide +kernel
theorem dX5_decode_73 : decode cX5_decode 73 = .ok (.iconst 0, 1) := by decide +kernel
theorem dX5_decode_74 : decode cX5_decode 74 = .ok (.istore 5, 2) := by decide +kernel
theorem dX5_decode_76 : decode cX5_decode 76 = .ok (.iload 5, 2) := by decide +kernel
theorem dX5_decode_78 : decode cX5_decode 78 = .ok (.iload_n 1, 1) := by decide +kernel
theorem dX5_decode_79 : decode cX5_decode 79 = .ok (.if_icmp .ge 117, 3) := by decide +kernel
theorem dX5_decode_82 : decode cX5_decode 82 = .ok (.iconst 0, 1) := by decide +kernel
theorem dX5_decode_83 : decode cX5_decode 83 = .ok (.istore 6, 2) := by decide +kernel
theorem dX5_decode_85 : decode cX5_decode 85 = .ok (.iconst 0, 1) := by decide +kernel
theorem dX5_decode_86 : decode cX5_decode 86 = .ok (.istore 7, 2) := by decide +kernel
theorem dX5_decode_88 : decode cX5_decode 88 = .ok (.iload 7, 2) := by decide +kernel
theorem dX5_decode_90 : decode cX5_decode 90 = .ok (.bipush 8, 2) := by decide +kernel
theorem dX5_decode_92 : decode cX5_decode 92 = .ok (.if_icmp .ge 89, 3) := by decide +kernel
theorem dX5_decode_95 : decode cX5_decode 95 = .ok (.lload_n 2, 1) := by decide +kernel
theorem dX5_decode_96 : decode cX5_decode 96 = .ok (.aload_n 0, 1) := by decide +kernel
theorem dX5_decode_97 : decode cX5_decode 97 = .ok (.invokevirtual 137, 3) := by decide +kernel
theorem dX5_decode_100 : decode cX5_decode 100 = .ok (.lcmp, 1) := by decide +kernel
theorem dX5_decode_101 : decode cX5_decode 101 = .ok (.ifCond .gt 7, 3) := by decide +kernel
theorem dX5_decode_104 : decode cX5_decode 104 = .ok (.iconst 1, 1) := by decide +kernel
theorem dX5_decode_105 : decode cX5_decode 105 = .ok (.goto 4, 3) := by decide +kernel
theorem dX5_decode_108 : decode cX5_decode 108 = .ok (.iconst 0, 1) := by decide +kernel
theorem dX5_decode_109 : decode cX5_decode 109 = .ok (.istore 8, 2) := by decide +kernel
theorem dX5_decode_111 : decode cX5_decode 111 = .ok (.aload_n 0, 1) := by decide +kernel
theorem dX5_decode_112 : decode cX5_decode 112 = .ok (.iload 8, 2) := by decide +kernel
theorem dX5_decode_114 : decode cX5_decode 114 = .ok (.invokevirtual 143, 3) := by decide +kernel
theorem dX5_decode_117 : decode cX5_decode 117 = .ok (.aload_n 0, 1) := by decide +kernel
theorem dX5_decode_118 : decode cX5_decode 118 = .ok (.invokevirtual 147, 3) := by decide +kernel
theorem dX5_decode_121 : decode cX5_decode 121 = .ok (.ifCond .eq 30, 3) := by decide +kernel
theorem dX5_decode_124 : decode cX5_decode 124 = .ok (.aload_n 0, 1) := by decide +kernel
theorem dX5_decode_125 : decode cX5_decode 125 = .ok (.invokevirtual 155, 3) := by decide +kernel
theorem dX5_decode_128 : decode cX5_decode 128 = .ok (.lload_n 2, 1) := by decide +kernel
theorem dX5_decode_129 : decode cX5_decode 129 = .ok (.bipush 8, 2) := by decide +kernel
theorem dX5_decode_131 : decode cX5_decode 131 = .ok (.lshl, 1) := by decide +kernel
theorem dX5_decode_132 : decode cX5_decode 132 = .ok (.ldc2_w 141, 3) := by decide +kernel
theorem dX5_decode_135 : decode cX5_decode 135 = .ok (.land, 1) := by decide +kernel
theorem dX5_decode_136 : decode cX5_decode 136 = .ok (.aload_n 0, 1) := by decide +kernel
theorem dX5_decode_137 : decode cX5_decode 137 = .ok (.iload 4, 2) := by decide +kernel
theorem dX5_decode_139 : decode cX5_decode 139 = .ok (.invokevirtual 160, 3) := by decide +kernel
theorem dX5_decode_142 : decode cX5_decode 142 = .ok (.i2l, 1) := by decide +kernel
theorem dX5_decode_143 : decode cX5_decode 143 = .ok (.ladd, 1) := by decide +kernel
theorem dX5_decode_144 : decode cX5_decode 144 = .ok (.lstore_n 2, 1) := by decide +kernel
theorem dX5_decode_145 : decode cX5_decode 145 = .ok (.iinc 4 1, 3) := by decide +kernel
theorem dX5_decode_148 : decode cX5_decode 148 = .ok (.goto (-31), 3) := by decide +kernel
theorem dX5_decode_151 : decode cX5_decode 151 = .ok (.aload_n 0, 1) := by decide +kernel
theorem dX5_decode_152 : decode cX5_decode 152 = .ok (.iload 8, 2) := by decide +kernel
theorem dX5_decode_154 : decode cX5_decode 154 = .ok (.invokevirtual 120, 3) := by decide +kernel
theorem dX5_decode_157 : decode cX5_decode 157 = .ok (.pop, 1) := by decide +kernel
theorem dX5_decode_158 : decode cX5_decode 158 = .ok (.iconst 2, 1) := by decide +kernel
theorem dX5_decode_159 : decode cX5_decode 159 = .ok (.iload 6, 2) := by decide +kernel
theorem dX5_decode_161 : decode cX5_decode 161 = .ok (.imul, 1) := by decide +kernel
theorem dX5_decode_162 : decode cX5_decode 162 = .ok (.iload 8, 2) := by decide +kernel
theorem dX5_decode_164 : decode cX5_decode 164 = .ok (.ifCond .eq 7, 3) := by decide +kernel
theorem dX5_decode_167 : decode cX5_decode 167 = .ok (.iconst 1, 1) := by decide +kernel
theorem dX5_decode_168 : decode cX5_decode 168 = .ok (.goto 4, 3) := by decide +kernel
theorem dX5_decode_171 : decode cX5_decode 171 = .ok (.iconst 0, 1) := by decide +kernel
theorem dX5_decode_172 : decode cX5_decode 172 = .ok (.iadd, 1) := by decide +kernel
theorem dX5_decode_173 : decode cX5_decode 173 = .ok (.istore 6, 2) := by decide +kernel
theorem dX5_decode_175 : decode cX5_decode 175 = .ok (.iinc 7 1, 3) := by decide +kernel
theorem dX5_decode_178 : decode cX5_decode 178 = .ok (.goto (-90), 3) := by decide +kernel
theorem dX5_decode_181 : decode cX5_decode 181 = .ok (.aload_n 0, 1) := by decide +kernel
theorem dX5_decode_182 : decode cX5_decode 182 = .ok (.getfield 43, 3) := by decide +kernel
theorem dX5_decode_185 : decode cX5_decode 185 = .ok (.iload 5, 2) := by decide +kernel
theorem dX5_decode_187 : decode cX5_decode 187 = .ok (.iload 6, 2) := by decide +kernel
theorem dX5_decode_189 : decode cX5_decode 189 = .ok (.iastore, 1) := by decide +kernel
theorem dX5_decode_190 : decode cX5_decode 190 = .ok (.iinc 5 1, 3) := by decide +kernel
theorem dX5_decode_193 : decode cX5_decode 193 = .ok (.goto (-117), 3) := by decide +kernel
theorem dX5_decode_196 : decode cX5_decode 196 = .ok (.aload_n 0, 1) := by decide +kernel
theorem dX5_decode_197 : decode cX5_decode 197 = .ok (.invokevirtual 166, 3) := by decide +kernel
theorem dX5_decode_200 : decode cX5_decode 200 = .ok (.ireturn, 1) := by decide +kernel
theorem dX5_differences_0 : decode cX5_differences 0 = .ok (.aload_n 0, 1) := by decide +kernel
theorem dX5_differences_1 : decode cX5_differences 1 = .ok (.getfield 78, 3) := by decide +kernel
theorem dX5_differences_4 : decode cX5_differences 4 = .ok (.aload_n 0, 1) := by decide +kernel
theorem dX5_differences_5 : decode cX5_differences 5 = .ok (.getfield 163, 3) := by decide +kernel
theorem dX5_differences_8 : decode cX5_differences 8 = .ok (.isub, 1) := by decide +kernel
theorem dX5_differences_9 : decode cX5_differences 9 = .ok (.invokestatic 169, 3) := by decide +kernel
theorem dX5_differences_12 : decode cX5_differences 12 = .ok (.istore_n 1, 1) := by decide +kernel
theorem dX5_differences_13 : decode cX5_differences 13 = .ok (.iconst 0, 1) := by decide +kernel
theorem dX5_differences_14 : decode cX5_differences 14 = .ok (.istore_n 2, 1) := by decide +kernel
theorem dX5_differences_15 : decode cX5_differences 15 = .ok (.iload_n 2, 1) := by decide +kernel
theorem dX5_differences_16 : decode cX5_differences 16 = .ok (.aload_n 0, 1) := by decide +kernel
theorem dX5_differences_17 : decode cX5_differences 17 = .ok (.getfield 78, 3) := by decide +kernel
theorem dX5_differences_20 : decode cX5_differences 20 = .ok (.if_icmp .ge 40, 3) := by decide +kernel
theorem dX5_differences_23 : decode cX5_differences 23 = .ok (.iload_n 2, 1) := by decide +kernel
theorem dX5_differences_24 : decode cX5_differences 24 = .ok (.aload_n 0, 1) := by decide +kernel
theorem dX5_differences_25 : decode cX5_differences 25 = .ok (.getfield 163, 3) := by decide +kernel
theorem dX5_differences_28 : decode cX5_differences 28 = .ok (.if_icmp .ge 32, 3) := by decide +kernel
theorem dX5_differences_31 : decode cX5_differences 31 = .ok (.iload_n 1, 1) := by decide +kernel
theorem dX5_differences_32 : decode cX5_differences 32 = .ok (.aload_n 0, 1) := by decide +kernel
theorem dX5_differences_33 : decode cX5_differences 33 = .ok (.getfield 19, 3) := by decide +kernel
theorem dX5_differences_36 : decode cX5_differences 36 = .ok (.iload_n 2, 1) := by decide +kernel
theorem dX5_differences_37 : decode cX5_differences 37 = .ok (.iaload, 1) := by decide +kernel
theorem dX5_differences_38 : decode cX5_differences 38 = .ok (.aload_n 0, 1) := by decide +kernel
theorem dX5_differences_39 : decode cX5_differences 39 = .ok (.getfield 43, 3) := by decide +kernel
theorem dX5_differences_42 : decode cX5_differences 42 = .ok (.iload_n 2, 1) := by decide +kernel
theorem dX5_differences_43 : decode cX5_differences 43 = .ok (.iaload, 1) := by decide +kernel
theorem dX5_differences_44 : decode cX5_differences 44 = .ok (.if_icmp .ne 7, 3) := by decide +kernel
theorem dX5_differences_47 : decode cX5_differences 47 = .ok (.iconst 0, 1) := by decide +kernel
theorem dX5_differences_48 : decode cX5_differences 48 = .ok (.goto 4, 3) := by decide +kernel
theorem dX5_differences_51 : decode cX5_differences 51 = .ok (.iconst 1, 1) := by decide +kernel
theorem dX5_differences_52 : decode cX5_differences 52 = .ok (.iadd, 1) := by decide +kernel
theorem dX5_differences_53 : decode cX5_differences 53 = .ok (.istore_n 1, 1) := by decide +kernel
theorem dX5_differences_54 : decode cX5_differences 54 = .ok (.iinc 2 1, 3) := by decide +kernel
theorem dX5_differences_57 : decode cX5_differences 57 = .ok (.goto (-42), 3) := by decide +kernel
theorem dX5_differences_60 : decode cX5_differences 60 = .ok (.iload_n 1, 1) := by decide +kernel
theorem dX5_differences_61 : decode cX5_differences 61 = .ok (.ireturn, 1) := by decide +kernel
theorem dX5_outputSize_0 : decode cX5_outputSize 0 = .ok (.aload_n 0, 1) := by decide +kernel
theorem dX5_outputSize_1 : decode cX5_outputSize 1 = .ok (.iconst 0, 1) := by decide +kernel
theorem dX5_outputSize_2 : decode cX5_outputSize 2 = .ok (.putfield 49, 3) := by decide +kernel
theorem dX5_outputSize_5 : decode cX5_outputSize 5 = .ok (.aload_n 0, 1) := by decide +kernel
theorem dX5_outputSize_6 : decode cX5_outputSize 6 = .ok (.getfield 163, 3) := by decide +kernel
theorem dX5_outputSize_9 : decode cX5_outputSize 9 = .ok (.ireturn, 1) := by decide +kernel
set_option maxRecDepth 20000 in
theorem ggX5_output_X5_isIn : GoodIn wsX5_output wsX5_isIn := goodIn_r _ [7] (by decide +kernel) (by decide +kernel)
set_option maxRecDepth 20000 in
theorem gX5_output_X5_isIn : GoodIn wsX5_output (va_wsS RX5 56 yX5_isIn wsX5_isIn) := goodIn_app (goodIn_of _ (by decide +kernel)) ggX5_output_X5_isIn
set_option maxRecDepth 20000 in
theorem ggX5_output_X5_no : GoodIn wsX5_output wsX5_no := goodIn_r _ [11, 1, 12, 13, 14, 15, 16, 17, 18, 19, 20, 21, 22, 23, 24, 25, 26, 27, 28, 29, 30, 31, 32, 33] (by decide +kernel) (by decide +kernel)
set_option maxRecDepth 20000 in
theorem gX5_output_X5_no : GoodIn wsX5_output (wsV RX5 70 RX5 yX5_no wsX5_no) := goodIn_app (goodIn_of _ (by decide +kernel)) ggX5_output_X5_no
theorem dX5_output_0 : decode cX5_output 0 = .ok (.aload_n 0, 1) := by decide +kernel
theorem dX5_output_1 : decode cX5_output 1 = .ok (.iconst 0, 1) := by decide +kernel
theorem dX5_output_2 : decode cX5_output 2 = .ok (.putfield 49, 3) := by decide +kernel
theorem dX5_output_5 : decode cX5_output 5 = .ok (.iload_n 1, 1) := by decide +kernel
theorem dX5_output_6 : decode cX5_output 6 = .ok (.iconst 0, 1) := by decide +kernel
theorem dX5_output_7 : decode cX5_output 7 = .ok (.aload_n 0, 1) := by decide +kernel
theorem dX5_output_8 : decode cX5_output 8 = .ok (.getfield 163, 3) := by decide +kernel
theorem dX5_output_11 : decode cX5_output 11 = .ok (.iconst 1, 1) := by decide +kernel
theorem dX5_output_12 : decode cX5_output 12 = .ok (.isub, 1) := by decide +kernel
theorem dX5_output_13 : decode cX5_output 13 = .ok (.invokestatic 56, 3) := by decide +kernel
theorem dX5_output_16 : decode cX5_output 16 = .ok (.ifCond .eq 12, 3) := by decide +kernel
theorem dX5_output_19 : decode cX5_output 19 = .ok (.aload_n 0, 1) := by decide +kernel
theorem dX5_output_20 : decode cX5_output 20 = .ok (.getfield 43, 3) := by decide +kernel
theorem dX5_output_23 : decode cX5_output 23 = .ok (.iload_n 1, 1) := by decide +kernel
theorem dX5_output_24 : decode cX5_output 24 = .ok (.iaload, 1) := by decide +kernel
theorem dX5_output_25 : decode cX5_output 25 = .ok (.goto 8, 3) := by decide +kernel
theorem dX5_output_28 : decode cX5_output 28 = .ok (.aload_n 0, 1) := by decide +kernel
theorem dX5_output_29 : decode cX5_output 29 = .ok (.iconst 1, 1) := by decide +kernel
theorem dX5_output_30 : decode cX5_output 30 = .ok (.invokevirtual 70, 3) := by decide +kernel
theorem dX5_output_33 : decode cX5_output 33 = .ok (.ireturn, 1) := by decide +kernel
theorem dX5_ratio_0 : decode cX5_ratio 0 = .ok (.aload_n 0, 1) := by decide +kernel
theorem dX5_ratio_1 : decode cX5_ratio 1 = .ok (.iconst 0, 1) := by decide +kernel
theorem dX5_ratio_2 : decode cX5_ratio 2 = .ok (.putfield 49, 3) := by decide +kernel
theorem dX5_ratio_5 : decode cX5_ratio 5 = .ok (.aload_n 0, 1) := by decide +kernel
theorem dX5_ratio_6 : decode cX5_ratio 6 = .ok (.getfield 78, 3) := by decide +kernel
theorem dX5_ratio_9 : decode cX5_ratio 9 = .ok (.ifCond .ne 7, 3) := by decide +kernel
theorem dX5_ratio_12 : decode cX5_ratio 12 = .ok (.dconst 0, 1) := by decide +kernel
theorem dX5_ratio_13 : decode cX5_ratio 13 = .ok (.goto 14, 3) := by decide +kernel
theorem dX5_ratio_16 : decode cX5_ratio 16 = .ok (.aload_n 0, 1) := by decide +kernel
theorem dX5_ratio_17 : decode cX5_ratio 17 = .ok (.getfield 126, 3) := by decide +kernel
theorem dX5_ratio_20 : decode cX5_ratio 20 = .ok (.i2d, 1) := by decide +kernel
theorem dX5_ratio_21 : decode cX5_ratio 21 = .ok (.aload_n 0, 1) := by decide +kernel
theorem dX5_ratio_22 : decode cX5_ratio 22 = .ok (.getfield 78, 3) := by decide +kernel
theorem dX5_ratio_25 : decode cX5_ratio 25 = .ok (.i2d, 1) := by decide +kernel
theorem dX5_ratio_26 : decode cX5_ratio 26 = .ok (.ddiv, 1) := by decide +kernel
theorem dX5_ratio_27 : decode cX5_ratio 27 = .ok (.dreturn, 1) := by decide +kernel
theorem dX5_digest_0 : decode cX5_digest 0 = .ok (.aload_n 0, 1) := by decide +kernel
theorem dX5_digest_1 : decode cX5_digest 1 = .ok (.iconst 0, 1) := by decide +kernel
theorem dX5_digest_2 : decode cX5_digest 2 = .ok (.putfield 49, 3) := by decide +kernel
theorem dX5_digest_5 : decode cX5_digest 5 = .ok (.ldc2_w 172, 3) := by decide +kernel
theorem dX5_digest_8 : decode cX5_digest 8 = .ok (.aload_n 0, 1) := by decide +kernel
theorem dX5_digest_9 : decode cX5_digest 9 = .ok (.getfield 53, 3) := by decide +kernel
theorem dX5_digest_12 : decode cX5_digest 12 = .ok (.i2l, 1) := by decide +kernel
theorem dX5_digest_13 : decode cX5_digest 13 = .ok (.ladd, 1) := by decide +kernel
theorem dX5_digest_14 : decode cX5_digest 14 = .ok (.lstore_n 1, 1) := by decide +kernel
theorem dX5_digest_15 : decode cX5_digest 15 = .ok (.iconst 0, 1) := by decide +kernel
theorem dX5_digest_16 : decode cX5_digest 16 = .ok (.istore_n 3, 1) := by decide +kernel
theorem dX5_digest_17 : decode cX5_digest 17 = .ok (.iload_n 3, 1) := by decide +kernel
theorem dX5_digest_18 : decode cX5_digest 18 = .ok (.aload_n 0, 1) := by decide +kernel
theorem dX5_digest_19 : decode cX5_digest 19 = .ok (.getfield 53, 3) := by decide +kernel
theorem dX5_digest_22 : decode cX5_digest 22 = .ok (.if_icmp .ge 97, 3) := by decide +kernel
theorem dX5_digest_25 : decode cX5_digest 25 = .ok (.lload_n 1, 1) := by decide +kernel
theorem dX5_digest_26 : decode cX5_digest 26 = .ok (.ldc2_w 174, 3) := by decide +kernel
theorem dX5_digest_29 : decode cX5_digest 29 = .ok (.lmul, 1) := by decide +kernel
theorem dX5_digest_30 : decode cX5_digest 30 = .ok (.aload_n 0, 1) := by decide +kernel
theorem dX5_digest_31 : decode cX5_digest 31 = .ok (.getfield 9, 3) := by decide +kernel
theorem dX5_digest_34 : decode cX5_digest 34 = .ok (.iload_n 3, 1) := by decide +kernel
theorem dX5_digest_35 : decode cX5_digest 35 = .ok (.iaload, 1) := by decide +kernel
theorem dX5_digest_36 : decode cX5_digest 36 = .ok (.i2l, 1) := by decide +kernel
theorem dX5_digest_37 : decode cX5_digest 37 = .ok (.ladd, 1) := by decide +kernel
theorem dX5_digest_38 : decode cX5_digest 38 = .ok (.ldc2_w 174, 3) := by decide +kernel
theorem dX5_digest_41 : decode cX5_digest 41 = .ok (.lmul, 1) := by decide +kernel
theorem dX5_digest_42 : decode cX5_digest 42 = .ok (.aload_n 0, 1) := by decide +kernel
theorem dX5_digest_43 : decode cX5_digest 43 = .ok (.getfield 13, 3) := by decide +kernel
theorem dX5_digest_46 : decode cX5_digest 46 = .ok (.iload_n 3, 1) := by decide +kernel
theorem dX5_digest_47 : decode cX5_digest 47 = .ok (.iaload, 1) := by decide +kernel
theorem dX5_digest_48 : decode cX5_digest 48 = .ok (.i2l, 1) := by decide +kernel
theorem dX5_digest_49 : decode cX5_digest 49 = .ok (.ladd, 1) := by decide +kernel
theorem dX5_digest_50 : decode cX5_digest 50 = .ok (.ldc2_w 174, 3) := by decide +kernel
theorem dX5_digest_53 : decode cX5_digest 53 = .ok (.lmul, 1) := by decide +kernel
theorem dX5_digest_54 : decode cX5_digest 54 = .ok (.aload_n 0, 1) := by decide +kernel
theorem dX5_digest_55 : decode cX5_digest 55 = .ok (.getfield 16, 3) := by decide +kernel
theorem dX5_digest_58 : decode cX5_digest 58 = .ok (.iload_n 3, 1) := by decide +kernel
theorem dX5_digest_59 : decode cX5_digest 59 = .ok (.iaload, 1) := by decide +kernel
theorem dX5_digest_60 : decode cX5_digest 60 = .ok (.i2l, 1) := by decide +kernel
theorem dX5_digest_61 : decode cX5_digest 61 = .ok (.ladd, 1) := by decide +kernel
theorem dX5_digest_62 : decode cX5_digest 62 = .ok (.lstore_n 1, 1) := by decide +kernel
theorem dX5_digest_63 : decode cX5_digest 63 = .ok (.iconst 0, 1) := by decide +kernel
theorem dX5_digest_64 : decode cX5_digest 64 = .ok (.istore 4, 2) := by decide +kernel
theorem dX5_digest_66 : decode cX5_digest 66 = .ok (.iload 4, 2) := by decide +kernel
theorem dX5_digest_68 : decode cX5_digest 68 = .ok (.bipush 8, 2) := by decide +kernel
theorem dX5_digest_70 : decode cX5_digest 70 = .ok (.if_icmp .ge 29, 3) := by decide +kernel
theorem dX5_digest_73 : decode cX5_digest 73 = .ok (.lload_n 1, 1) := by decide +kernel
theorem dX5_digest_74 : decode cX5_digest 74 = .ok (.ldc2_w 174, 3) := by decide +kernel
theorem dX5_digest_77 : decode cX5_digest 77 = .ok (.lmul, 1) := by decide +kernel
theorem dX5_digest_78 : decode cX5_digest 78 = .ok (.aload_n 0, 1) := by decide +kernel
theorem dX5_digest_79 : decode cX5_digest 79 = .ok (.getfield 31, 3) := by decide +kernel
theorem dX5_digest_82 : decode cX5_digest 82 = .ok (.bipush 8, 2) := by decide +kernel
theorem dX5_digest_84 : decode cX5_digest 84 = .ok (.iload_n 3, 1) := by decide +kernel
theorem dX5_digest_85 : decode cX5_digest 85 = .ok (.imul, 1) := by decide +kernel
theorem dX5_digest_86 : decode cX5_digest 86 = .ok (.iload 4, 2) := by decide +kernel
theorem dX5_digest_88 : decode cX5_digest 88 = .ok (.iadd, 1) := by decide +kernel
theorem dX5_digest_89 : decode cX5_digest 89 = .ok (.iaload, 1) := by decide +kernel
theorem dX5_digest_90 : decode cX5_digest 90 = .ok (.i2l, 1) := by decide +kernel
theorem dX5_digest_91 : decode cX5_digest 91 = .ok (.ladd, 1) := by decide +kernel
theorem dX5_digest_92 : decode cX5_digest 92 = .ok (.lstore_n 1, 1) := by decide +kernel
theorem dX5_digest_93 : decode cX5_digest 93 = .ok (.iinc 4 1, 3) := by decide +kernel
theorem dX5_digest_96 : decode cX5_digest 96 = .ok (.goto (-30), 3) := by decide +kernel
theorem dX5_digest_99 : decode cX5_digest 99 = .ok (.lload_n 1, 1) := by decide +kernel
end
section
theorem dX5_digest_100 : decode cX5_digest 100 = .ok (.ldc2_w 174, 3) := by decide +kernel
theorem dX5_digest_103 : decode cX5_digest 103 = .ok (.lmul, 1) := by decide +kernel
theorem dX5_digest_104 : decode cX5_digest 104 = .ok (.aload_n 0, 1) := by decide +kernel
theorem dX5_digest_105 : decode cX5_digest 105 = .ok (.getfield 34, 3) := by decide +kernel
theorem dX5_digest_108 : decode cX5_digest 108 = .ok (.iload_n 3, 1) := by decide +kernel
theorem dX5_digest_109 : decode cX5_digest 109 = .ok (.iaload, 1) := by decide +kernel
theorem dX5_digest_110 : decode cX5_digest 110 = .ok (.i2l, 1) := by decide +kernel
theorem dX5_digest_111 : decode cX5_digest 111 = .ok (.ladd, 1) := by decide +kernel
theorem dX5_digest_112 : decode cX5_digest 112 = .ok (.lstore_n 1, 1) := by decide +kernel
theorem dX5_digest_113 : decode cX5_digest 113 = .ok (.iinc 3 1, 3) := by decide +kernel
theorem dX5_digest_116 : decode cX5_digest 116 = .ok (.goto (-99), 3) := by decide +kernel
theorem dX5_digest_119 : decode cX5_digest 119 = .ok (.lload_n 1, 1) := by decide +kernel
theorem dX5_digest_120 : decode cX5_digest 120 = .ok (.ldc2_w 174, 3) := by decide +kernel
theorem dX5_digest_123 : decode cX5_digest 123 = .ok (.lmul, 1) := by decide +kernel
theorem dX5_digest_124 : decode cX5_digest 124 = .ok (.aload_n 0, 1) := by decide +kernel
theorem dX5_digest_125 : decode cX5_digest 125 = .ok (.getfield 78, 3) := by decide +kernel
theorem dX5_digest_128 : decode cX5_digest 128 = .ok (.i2l, 1) := by decide +kernel
theorem dX5_digest_129 : decode cX5_digest 129 = .ok (.ladd, 1) := by decide +kernel
theorem dX5_digest_130 : decode cX5_digest 130 = .ok (.lstore_n 1, 1) := by decide +kernel
theorem dX5_digest_131 : decode cX5_digest 131 = .ok (.iconst 0, 1) := by decide +kernel
theorem dX5_digest_132 : decode cX5_digest 132 = .ok (.istore_n 3, 1) := by decide +kernel
theorem dX5_digest_133 : decode cX5_digest 133 = .ok (.iload_n 3, 1) := by decide +kernel
theorem dX5_digest_134 : decode cX5_digest 134 = .ok (.aload_n 0, 1) := by decide +kernel
theorem dX5_digest_135 : decode cX5_digest 135 = .ok (.getfield 78, 3) := by decide +kernel
theorem dX5_digest_138 : decode cX5_digest 138 = .ok (.if_icmp .ge 23, 3) := by decide +kernel
theorem dX5_digest_141 : decode cX5_digest 141 = .ok (.lload_n 1, 1) := by decide +kernel
theorem dX5_digest_142 : decode cX5_digest 142 = .ok (.ldc2_w 174, 3) := by decide +kernel
theorem dX5_digest_145 : decode cX5_digest 145 = .ok (.lmul, 1) := by decide +kernel
theorem dX5_digest_146 : decode cX5_digest 146 = .ok (.aload_n 0, 1) := by decide +kernel
theorem dX5_digest_147 : decode cX5_digest 147 = .ok (.getfield 19, 3) := by decide +kernel
theorem dX5_digest_150 : decode cX5_digest 150 = .ok (.iload_n 3, 1) := by decide +kernel
theorem dX5_digest_151 : decode cX5_digest 151 = .ok (.iaload, 1) := by decide +kernel
theorem dX5_digest_152 : decode cX5_digest 152 = .ok (.i2l, 1) := by decide +kernel
theorem dX5_digest_153 : decode cX5_digest 153 = .ok (.ladd, 1) := by decide +kernel
theorem dX5_digest_154 : decode cX5_digest 154 = .ok (.lstore_n 1, 1) := by decide +kernel
theorem dX5_digest_155 : decode cX5_digest 155 = .ok (.iinc 3 1, 3) := by decide +kernel
theorem dX5_digest_158 : decode cX5_digest 158 = .ok (.goto (-25), 3) := by decide +kernel
theorem dX5_digest_161 : decode cX5_digest 161 = .ok (.lload_n 1, 1) := by decide +kernel
theorem dX5_digest_162 : decode cX5_digest 162 = .ok (.ldc2_w 174, 3) := by decide +kernel
theorem dX5_digest_165 : decode cX5_digest 165 = .ok (.lmul, 1) := by decide +kernel
theorem dX5_digest_166 : decode cX5_digest 166 = .ok (.aload_n 0, 1) := by decide +kernel
theorem dX5_digest_167 : decode cX5_digest 167 = .ok (.getfield 60, 3) := by decide +kernel
theorem dX5_digest_170 : decode cX5_digest 170 = .ok (.i2l, 1) := by decide +kernel
theorem dX5_digest_171 : decode cX5_digest 171 = .ok (.ladd, 1) := by decide +kernel
theorem dX5_digest_172 : decode cX5_digest 172 = .ok (.ldc2_w 174, 3) := by decide +kernel
theorem dX5_digest_175 : decode cX5_digest 175 = .ok (.lmul, 1) := by decide +kernel
theorem dX5_digest_176 : decode cX5_digest 176 = .ok (.aload_n 0, 1) := by decide +kernel
theorem dX5_digest_177 : decode cX5_digest 177 = .ok (.getfield 63, 3) := by decide +kernel
theorem dX5_digest_180 : decode cX5_digest 180 = .ok (.i2l, 1) := by decide +kernel
theorem dX5_digest_181 : decode cX5_digest 181 = .ok (.ladd, 1) := by decide +kernel
theorem dX5_digest_182 : decode cX5_digest 182 = .ok (.ldc2_w 174, 3) := by decide +kernel
theorem dX5_digest_185 : decode cX5_digest 185 = .ok (.lmul, 1) := by decide +kernel
theorem dX5_digest_186 : decode cX5_digest 186 = .ok (.aload_n 0, 1) := by decide +kernel
theorem dX5_digest_187 : decode cX5_digest 187 = .ok (.getfield 66, 3) := by decide +kernel
theorem dX5_digest_190 : decode cX5_digest 190 = .ok (.ladd, 1) := by decide +kernel
theorem dX5_digest_191 : decode cX5_digest 191 = .ok (.lstore_n 1, 1) := by decide +kernel
theorem dX5_digest_192 : decode cX5_digest 192 = .ok (.lload_n 1, 1) := by decide +kernel
theorem dX5_digest_193 : decode cX5_digest 193 = .ok (.ldc2_w 174, 3) := by decide +kernel
theorem dX5_digest_196 : decode cX5_digest 196 = .ok (.lmul, 1) := by decide +kernel
theorem dX5_digest_197 : decode cX5_digest 197 = .ok (.aload_n 0, 1) := by decide +kernel
theorem dX5_digest_198 : decode cX5_digest 198 = .ok (.getfield 126, 3) := by decide +kernel
theorem dX5_digest_201 : decode cX5_digest 201 = .ok (.i2l, 1) := by decide +kernel
theorem dX5_digest_202 : decode cX5_digest 202 = .ok (.ladd, 1) := by decide +kernel
theorem dX5_digest_203 : decode cX5_digest 203 = .ok (.lstore_n 1, 1) := by decide +kernel
theorem dX5_digest_204 : decode cX5_digest 204 = .ok (.iconst 0, 1) := by decide +kernel
theorem dX5_digest_205 : decode cX5_digest 205 = .ok (.istore_n 3, 1) := by decide +kernel
theorem dX5_digest_206 : decode cX5_digest 206 = .ok (.iload_n 3, 1) := by decide +kernel
theorem dX5_digest_207 : decode cX5_digest 207 = .ok (.aload_n 0, 1) := by decide +kernel
theorem dX5_digest_208 : decode cX5_digest 208 = .ok (.getfield 126, 3) := by decide +kernel
theorem dX5_digest_211 : decode cX5_digest 211 = .ok (.if_icmp .ge 23, 3) := by decide +kernel
theorem dX5_digest_214 : decode cX5_digest 214 = .ok (.lload_n 1, 1) := by decide +kernel
theorem dX5_digest_215 : decode cX5_digest 215 = .ok (.ldc2_w 174, 3) := by decide +kernel
theorem dX5_digest_218 : decode cX5_digest 218 = .ok (.lmul, 1) := by decide +kernel
theorem dX5_digest_219 : decode cX5_digest 219 = .ok (.aload_n 0, 1) := by decide +kernel
theorem dX5_digest_220 : decode cX5_digest 220 = .ok (.getfield 40, 3) := by decide +kernel
theorem dX5_digest_223 : decode cX5_digest 223 = .ok (.iload_n 3, 1) := by decide +kernel
theorem dX5_digest_224 : decode cX5_digest 224 = .ok (.iaload, 1) := by decide +kernel
theorem dX5_digest_225 : decode cX5_digest 225 = .ok (.i2l, 1) := by decide +kernel
theorem dX5_digest_226 : decode cX5_digest 226 = .ok (.ladd, 1) := by decide +kernel
theorem dX5_digest_227 : decode cX5_digest 227 = .ok (.lstore_n 1, 1) := by decide +kernel
theorem dX5_digest_228 : decode cX5_digest 228 = .ok (.iinc 3 1, 3) := by decide +kernel
theorem dX5_digest_231 : decode cX5_digest 231 = .ok (.goto (-25), 3) := by decide +kernel
theorem dX5_digest_234 : decode cX5_digest 234 = .ok (.lload_n 1, 1) := by decide +kernel
theorem dX5_digest_235 : decode cX5_digest 235 = .ok (.ldc2_w 174, 3) := by decide +kernel
theorem dX5_digest_238 : decode cX5_digest 238 = .ok (.lmul, 1) := by decide +kernel
theorem dX5_digest_239 : decode cX5_digest 239 = .ok (.aload_n 0, 1) := by decide +kernel
theorem dX5_digest_240 : decode cX5_digest 240 = .ok (.getfield 163, 3) := by decide +kernel
theorem dX5_digest_243 : decode cX5_digest 243 = .ok (.i2l, 1) := by decide +kernel
theorem dX5_digest_244 : decode cX5_digest 244 = .ok (.ladd, 1) := by decide +kernel
theorem dX5_digest_245 : decode cX5_digest 245 = .ok (.lstore_n 1, 1) := by decide +kernel
theorem dX5_digest_246 : decode cX5_digest 246 = .ok (.iconst 0, 1) := by decide +kernel
theorem dX5_digest_247 : decode cX5_digest 247 = .ok (.istore_n 3, 1) := by decide +kernel
theorem dX5_digest_248 : decode cX5_digest 248 = .ok (.iload_n 3, 1) := by decide +kernel
theorem dX5_digest_249 : decode cX5_digest 249 = .ok (.aload_n 0, 1) := by decide +kernel
theorem dX5_digest_250 : decode cX5_digest 250 = .ok (.getfield 163, 3) := by decide +kernel
theorem dX5_digest_253 : decode cX5_digest 253 = .ok (.if_icmp .ge 23, 3) := by decide +kernel
theorem dX5_digest_256 : decode cX5_digest 256 = .ok (.lload_n 1, 1) := by decide +kernel
theorem dX5_digest_257 : decode cX5_digest 257 = .ok (.ldc2_w 174, 3) := by decide +kernel
theorem dX5_digest_260 : decode cX5_digest 260 = .ok (.lmul, 1) := by decide +kernel
theorem dX5_digest_261 : decode cX5_digest 261 = .ok (.aload_n 0, 1) := by decide +kernel
theorem dX5_digest_262 : decode cX5_digest 262 = .ok (.getfield 43, 3) := by decide +kernel
theorem dX5_digest_265 : decode cX5_digest 265 = .ok (.iload_n 3, 1) := by decide +kernel
theorem dX5_digest_266 : decode cX5_digest 266 = .ok (.iaload, 1) := by decide +kernel
theorem dX5_digest_267 : decode cX5_digest 267 = .ok (.i2l, 1) := by decide +kernel
theorem dX5_digest_268 : decode cX5_digest 268 = .ok (.ladd, 1) := by decide +kernel
theorem dX5_digest_269 : decode cX5_digest 269 = .ok (.lstore_n 1, 1) := by decide +kernel
theorem dX5_digest_270 : decode cX5_digest 270 = .ok (.iinc 3 1, 3) := by decide +kernel
theorem dX5_digest_273 : decode cX5_digest 273 = .ok (.goto (-25), 3) := by decide +kernel
theorem dX5_digest_276 : decode cX5_digest 276 = .ok (.lload_n 1, 1) := by decide +kernel
theorem dX5_digest_277 : decode cX5_digest 277 = .ok (.lreturn, 1) := by decide +kernel
theorem dJ9_abs_0f7a4_0 : decode cJ9_abs_0f7a4 0 = .ok (.iload_n 0, 1) := by decide +kernel
theorem dJ9_abs_0f7a4_1 : decode cJ9_abs_0f7a4 1 = .ok (.ifCond .ge 8, 3) := by decide +kernel
theorem dJ9_abs_0f7a4_4 : decode cJ9_abs_0f7a4 4 = .ok (.iload_n 0, 1) := by decide +kernel
theorem dJ9_abs_0f7a4_5 : decode cJ9_abs_0f7a4 5 = .ok (.ineg, 1) := by decide +kernel
theorem dJ9_abs_0f7a4_6 : decode cJ9_abs_0f7a4 6 = .ok (.goto 4, 3) := by decide +kernel
theorem dJ9_abs_0f7a4_9 : decode cJ9_abs_0f7a4 9 = .ok (.iload_n 0, 1) := by decide +kernel
theorem dJ9_abs_0f7a4_10 : decode cJ9_abs_0f7a4 10 = .ok (.ireturn, 1) := by decide +kernel
theorem dJ9_max_7cf53_0 : decode cJ9_max_7cf53 0 = .ok (.iload_n 0, 1) := by decide +kernel
theorem dJ9_max_7cf53_1 : decode cJ9_max_7cf53 1 = .ok (.iload_n 1, 1) := by decide +kernel
theorem dJ9_max_7cf53_2 : decode cJ9_max_7cf53 2 = .ok (.if_icmp .lt 7, 3) := by decide +kernel
theorem dJ9_max_7cf53_5 : decode cJ9_max_7cf53 5 = .ok (.iload_n 0, 1) := by decide +kernel
theorem dJ9_max_7cf53_6 : decode cJ9_max_7cf53 6 = .ok (.goto 4, 3) := by decide +kernel
theorem dJ9_max_7cf53_9 : decode cJ9_max_7cf53 9 = .ok (.iload_n 1, 1) := by decide +kernel
theorem dJ9_max_7cf53_10 : decode cJ9_max_7cf53 10 = .ok (.ireturn, 1) := by decide +kernel
theorem dJ9_max_f86c9_0 : decode cJ9_max_f86c9 0 = .ok (.lload_n 0, 1) := by decide +kernel
theorem dJ9_max_f86c9_1 : decode cJ9_max_f86c9 1 = .ok (.lload_n 2, 1) := by decide +kernel
theorem dJ9_max_f86c9_2 : decode cJ9_max_f86c9 2 = .ok (.lcmp, 1) := by decide +kernel
theorem dJ9_max_f86c9_3 : decode cJ9_max_f86c9 3 = .ok (.ifCond .lt 7, 3) := by decide +kernel
theorem dJ9_max_f86c9_6 : decode cJ9_max_f86c9 6 = .ok (.lload_n 0, 1) := by decide +kernel
theorem dJ9_max_f86c9_7 : decode cJ9_max_f86c9 7 = .ok (.goto 4, 3) := by decide +kernel
theorem dJ9_max_f86c9_10 : decode cJ9_max_f86c9 10 = .ok (.lload_n 2, 1) := by decide +kernel
theorem dJ9_max_f86c9_11 : decode cJ9_max_f86c9 11 = .ok (.lreturn, 1) := by decide +kernel
theorem dJ9_min_7cf53_0 : decode cJ9_min_7cf53 0 = .ok (.iload_n 0, 1) := by decide +kernel
theorem dJ9_min_7cf53_1 : decode cJ9_min_7cf53 1 = .ok (.iload_n 1, 1) := by decide +kernel
theorem dJ9_min_7cf53_2 : decode cJ9_min_7cf53 2 = .ok (.if_icmp .gt 7, 3) := by decide +kernel
theorem dJ9_min_7cf53_5 : decode cJ9_min_7cf53 5 = .ok (.iload_n 0, 1) := by decide +kernel
theorem dJ9_min_7cf53_6 : decode cJ9_min_7cf53 6 = .ok (.goto 4, 3) := by decide +kernel
theorem dJ9_min_7cf53_9 : decode cJ9_min_7cf53 9 = .ok (.iload_n 1, 1) := by decide +kernel
theorem dJ9_min_7cf53_10 : decode cJ9_min_7cf53 10 = .ok (.ireturn, 1) := by decide +kernel
theorem dJ9_min_f86c9_0 : decode cJ9_min_f86c9 0 = .ok (.lload_n 0, 1) := by decide +kernel
theorem dJ9_min_f86c9_1 : decode cJ9_min_f86c9 1 = .ok (.lload_n 2, 1) := by decide +kernel
theorem dJ9_min_f86c9_2 : decode cJ9_min_f86c9 2 = .ok (.lcmp, 1) := by decide +kernel
theorem dJ9_min_f86c9_3 : decode cJ9_min_f86c9 3 = .ok (.ifCond .gt 7, 3) := by decide +kernel
theorem dJ9_min_f86c9_6 : decode cJ9_min_f86c9 6 = .ok (.lload_n 0, 1) := by decide +kernel
theorem dJ9_min_f86c9_7 : decode cJ9_min_f86c9 7 = .ok (.goto 4, 3) := by decide +kernel
theorem dJ9_min_f86c9_10 : decode cJ9_min_f86c9 10 = .ok (.lload_n 2, 1) := by decide +kernel
theorem dJ9_min_f86c9_11 : decode cJ9_min_f86c9 11 = .ok (.lreturn, 1) := by decide +kernel
theorem dJ7_fill_d0a16_0 : decode cJ7_fill_d0a16 0 = .ok (.iconst 0, 1) := by decide +kernel
theorem dJ7_fill_d0a16_1 : decode cJ7_fill_d0a16 1 = .ok (.istore_n 3, 1) := by decide +kernel
theorem dJ7_fill_d0a16_2 : decode cJ7_fill_d0a16 2 = .ok (.aload_n 0, 1) := by decide +kernel
theorem dJ7_fill_d0a16_3 : decode cJ7_fill_d0a16 3 = .ok (.arraylength, 1) := by decide +kernel
theorem dJ7_fill_d0a16_4 : decode cJ7_fill_d0a16 4 = .ok (.istore 4, 2) := by decide +kernel
theorem dJ7_fill_d0a16_6 : decode cJ7_fill_d0a16 6 = .ok (.iload_n 3, 1) := by decide +kernel
theorem dJ7_fill_d0a16_7 : decode cJ7_fill_d0a16 7 = .ok (.iload 4, 2) := by decide +kernel
theorem dJ7_fill_d0a16_9 : decode cJ7_fill_d0a16 9 = .ok (.if_icmp .ge 13, 3) := by decide +kernel
theorem dJ7_fill_d0a16_12 : decode cJ7_fill_d0a16 12 = .ok (.aload_n 0, 1) := by decide +kernel
theorem dJ7_fill_d0a16_13 : decode cJ7_fill_d0a16 13 = .ok (.iload_n 3, 1) := by decide +kernel
theorem dJ7_fill_d0a16_14 : decode cJ7_fill_d0a16 14 = .ok (.lload_n 1, 1) := by decide +kernel
theorem dJ7_fill_d0a16_15 : decode cJ7_fill_d0a16 15 = .ok (.lastore, 1) := by decide +kernel
theorem dJ7_fill_d0a16_16 : decode cJ7_fill_d0a16 16 = .ok (.iinc 3 1, 3) := by decide +kernel
theorem dJ7_fill_d0a16_19 : decode cJ7_fill_d0a16 19 = .ok (.goto (-13), 3) := by decide +kernel
theorem dJ7_fill_d0a16_22 : decode cJ7_fill_d0a16 22 = .ok (.return_, 1) := by decide +kernel
theorem dJ7_fill_53178_0 : decode cJ7_fill_53178 0 = .ok (.iconst 0, 1) := by decide +kernel
theorem dJ7_fill_53178_1 : decode cJ7_fill_53178 1 = .ok (.istore_n 2, 1) := by decide +kernel
theorem dJ7_fill_53178_2 : decode cJ7_fill_53178 2 = .ok (.aload_n 0, 1) := by decide +kernel
theorem dJ7_fill_53178_3 : decode cJ7_fill_53178 3 = .ok (.arraylength, 1) := by decide +kernel
theorem dJ7_fill_53178_4 : decode cJ7_fill_53178 4 = .ok (.istore_n 3, 1) := by decide +kernel
theorem dJ7_fill_53178_5 : decode cJ7_fill_53178 5 = .ok (.iload_n 2, 1) := by decide +kernel
theorem dJ7_fill_53178_6 : decode cJ7_fill_53178 6 = .ok (.iload_n 3, 1) := by decide +kernel
theorem dJ7_fill_53178_7 : decode cJ7_fill_53178 7 = .ok (.if_icmp .ge 13, 3) := by decide +kernel
theorem dJ7_fill_53178_10 : decode cJ7_fill_53178 10 = .ok (.aload_n 0, 1) := by decide +kernel
theorem dJ7_fill_53178_11 : decode cJ7_fill_53178 11 = .ok (.iload_n 2, 1) := by decide +kernel
theorem dJ7_fill_53178_12 : decode cJ7_fill_53178 12 = .ok (.iload_n 1, 1) := by decide +kernel
theorem dJ7_fill_53178_13 : decode cJ7_fill_53178 13 = .ok (.iastore, 1) := by decide +kernel
theorem dJ7_fill_53178_14 : decode cJ7_fill_53178 14 = .ok (.iinc 2 1, 3) := by decide +kernel
theorem dJ7_fill_53178_17 : decode cJ7_fill_53178 17 = .ok (.goto (-12), 3) := by decide +kernel
theorem dJ7_fill_53178_20 : decode cJ7_fill_53178 20 = .ok (.return_, 1) := by decide +kernel
set_option maxRecDepth 20000 in
theorem ggL_addModel_X4_addModel : GoodIn wsL_addModel wsX4_addModel := goodIn_ca (goodIn_ca (goodIn_r _ [7, 8, 9, 10, 11, 12, 13, 14, 15, 6, 16, 17, 18, 19, 20, 21, 22, 23, 24, 25, 26, 27, 28, 29, 30, 31, 32, 33, 34, 35, 36, 37, 38, 39, 40, 41, 42, 43, 44, 45, 46, 47, 48, 49, 50, 51, 52, 53, 54, 55, 56, 57, 58, 59, 60, 61, 62, 63, 64, 65, 66, 67, 68, 69, 70, 71, 72, 73, 74, 75, 76, 77, 78, 79, 80, 81, 82, 83, 84, 85, 86, 87, 88, 89, 90, 91, 92, 93, 94, 95, 96, 97, 98, 99, 100, 101, 102, 103, 104, 105, 106] (by decide +kernel) (by decide +kernel)) (goodIn_sub (fun _ h => List.mem_cons_of_mem _ (List.mem_append_left _ (List.mem_append_right _ h))) (by decide +kernel))) (goodIn_sub (fun _ h => List.mem_cons_of_mem _ (List.mem_append_right _ h)) (by decide +kernel))
set_option maxRecDepth 20000 in
theorem gL_addModel_X4_addModel : GoodIn wsL_addModel (wsV RL 7 RX4 yX4_addModel wsX4_addModel) := goodIn_app (goodIn_of _ (by decide +kernel)) ggL_addModel_X4_addModel
theorem dL_addModel_0 : decode cL_addModel 0 = .ok (.aload 4, 2) := by decide +kernel
theorem dL_addModel_2 : decode cL_addModel 2 = .ok (.iconst 0, 1) := by decide +kernel
theorem dL_addModel_3 : decode cL_addModel 3 = .ok (.aload_n 0, 1) := by decide +kernel
theorem dL_addModel_4 : decode cL_addModel 4 = .ok (.iload_n 1, 1) := by decide +kernel
theorem dL_addModel_5 : decode cL_addModel 5 = .ok (.iload_n 2, 1) := by decide +kernel
theorem dL_addModel_6 : decode cL_addModel 6 = .ok (.iload_n 3, 1) := by decide +kernel
theorem dL_addModel_7 : decode cL_addModel 7 = .ok (.invokevirtual 7, 3) := by decide +kernel
theorem dL_addModel_10 : decode cL_addModel 10 = .ok (.i2l, 1) := by decide +kernel
theorem dL_addModel_11 : decode cL_addModel 11 = .ok (.lastore, 1) := by decide +kernel
theorem dL_addModel_12 : decode cL_addModel 12 = .ok (.goto 11, 3) := by decide +kernel
theorem dL_addModel_15 : decode cL_addModel 15 = .ok (.astore 5, 2) := by decide +kernel
theorem dL_addModel_17 : decode cL_addModel 17 = .ok (.iconst 1, 1) := by decide +kernel
theorem dL_addModel_18 : decode cL_addModel 18 = .ok (.ireturn, 1) := by decide +kernel
theorem dL_addModel_19 : decode cL_addModel 19 = .ok (.astore 5, 2) := by decide +kernel
theorem dL_addModel_21 : decode cL_addModel 21 = .ok (.iconst 2, 1) := by decide +kernel
theorem dL_addModel_22 : decode cL_addModel 22 = .ok (.ireturn, 1) := by decide +kernel
theorem dL_addModel_23 : decode cL_addModel 23 = .ok (.iconst 0, 1) := by decide +kernel
theorem dL_addModel_24 : decode cL_addModel 24 = .ok (.ireturn, 1) := by decide +kernel
set_option maxRecDepth 20000 in
theorem ggL_removeModel_X4_removeModel : GoodIn wsL_removeModel wsX4_removeModel := goodIn_ca (goodIn_r _ [6, 7, 8, 9, 10, 11, 12, 13, 14, 15, 16, 17, 18, 19, 20, 21, 22, 23, 24, 25, 26, 27, 28, 29, 30, 31, 32, 33, 34, 35, 36, 37, 38, 39, 40, 41, 42, 43, 44, 45, 46, 47, 48, 49, 50, 51, 52, 53, 54, 55, 56, 57, 58, 59, 60, 61, 62, 63, 64, 65, 66, 67, 68, 69, 70, 71, 72, 73, 74, 75, 76, 77, 78, 79, 80, 81, 82, 83, 84, 85, 86, 87, 88, 89, 90, 91, 92, 93, 94, 95] (by decide +kernel) (by decide +kernel)) (goodIn_sub (fun _ h => List.mem_cons_of_mem _ (List.mem_append_right _ h)) (by decide +kernel))
set_option maxRecDepth 20000 in
theorem gL_removeModel_X4_removeModel : GoodIn wsL_removeModel (wsV RL 17 RX4 yX4_removeModel wsX4_removeModel) := goodIn_app (goodIn_of _ (by decide +kernel)) ggL_removeModel_X4_removeModel
theorem dL_removeModel_0 : decode cL_removeModel 0 = .ok (.aload_n 1, 1) := by decide +kernel
theorem dL_removeModel_1 : decode cL_removeModel 1 = .ok (.iconst 0, 1) := by decide +kernel
theorem dL_removeModel_2 : decode cL_removeModel 2 = .ok (.aload_n 0, 1) := by decide +kernel
theorem dL_removeModel_3 : decode cL_removeModel 3 = .ok (.invokevirtual 17, 3) := by decide +kernel
theorem dL_removeModel_6 : decode cL_removeModel 6 = .ok (.i2l, 1) := by decide +kernel
theorem dL_removeModel_7 : decode cL_removeModel 7 = .ok (.lastore, 1) := by decide +kernel
theorem dL_removeModel_8 : decode cL_removeModel 8 = .ok (.goto 6, 3) := by decide +kernel
theorem dL_removeModel_11 : decode cL_removeModel 11 = .ok (.astore_n 2, 1) := by decide +kernel
theorem dL_removeModel_12 : decode cL_removeModel 12 = .ok (.iconst 1, 1) := by decide +kernel
theorem dL_removeModel_13 : decode cL_removeModel 13 = .ok (.ireturn, 1) := by decide +kernel
theorem dL_removeModel_14 : decode cL_removeModel 14 = .ok (.iconst 0, 1) := by decide +kernel
theorem dL_removeModel_15 : decode cL_removeModel 15 = .ok (.ireturn, 1) := by decide +kernel
set_option maxRecDepth 20000 in
theorem ggL_setRate_X4_setRate : GoodIn wsL_setRate wsX4_setRate := goodIn_ca (goodIn_ca (goodIn_r _ [7, 8, 9, 10, 11, 12, 6, 13, 14, 15, 16, 17, 18, 19, 20, 21, 22, 23, 24, 25, 26, 27, 28, 29, 30, 31, 32, 33, 34, 35, 36, 37, 38, 39, 40, 41, 42, 43, 44, 45, 46, 47, 48, 49, 50, 51, 52, 53, 54, 55, 56, 57, 58, 59, 60, 61, 62, 63, 64, 65, 66, 67, 68, 69, 70, 71, 72, 73, 74, 75, 76, 77, 78, 79, 80, 81, 82, 83, 84, 85, 86, 87, 88, 89, 90, 91, 92, 93, 94, 95, 96, 97, 98, 99, 100, 101, 102, 103] (by decide +kernel) (by decide +kernel)) (goodIn_sub (fun _ h => List.mem_cons_of_mem _ (List.mem_append_left _ (List.mem_append_right _ h))) (by decide +kernel))) (goodIn_sub (fun _ h => List.mem_cons_of_mem _ (List.mem_append_right _ h)) (by decide +kernel))
set_option maxRecDepth 20000 in
theorem gL_setRate_X4_setRate : GoodIn wsL_setRate (wsV RL 21 RX4 yX4_setRate wsX4_setRate) := goodIn_app (goodIn_of _ (by decide +kernel)) ggL_setRate_X4_setRate
theorem dL_setRate_0 : decode cL_setRate 0 = .ok (.aload_n 3, 1) := by decide +kernel
theorem dL_setRate_1 : decode cL_setRate 1 = .ok (.iconst 0, 1) := by decide +kernel
theorem dL_setRate_2 : decode cL_setRate 2 = .ok (.aload_n 0, 1) := by decide +kernel
theorem dL_setRate_3 : decode cL_setRate 3 = .ok (.iload_n 1, 1) := by decide +kernel
theorem dL_setRate_4 : decode cL_setRate 4 = .ok (.iload_n 2, 1) := by decide +kernel
theorem dL_setRate_5 : decode cL_setRate 5 = .ok (.invokevirtual 21, 3) := by decide +kernel
theorem dL_setRate_8 : decode cL_setRate 8 = .ok (.i2l, 1) := by decide +kernel
theorem dL_setRate_9 : decode cL_setRate 9 = .ok (.lastore, 1) := by decide +kernel
theorem dL_setRate_10 : decode cL_setRate 10 = .ok (.goto 11, 3) := by decide +kernel
theorem dL_setRate_13 : decode cL_setRate 13 = .ok (.astore 4, 2) := by decide +kernel
theorem dL_setRate_15 : decode cL_setRate 15 = .ok (.iconst 1, 1) := by decide +kernel
theorem dL_setRate_16 : decode cL_setRate 16 = .ok (.ireturn, 1) := by decide +kernel
theorem dL_setRate_17 : decode cL_setRate 17 = .ok (.astore 4, 2) := by decide +kernel
theorem dL_setRate_19 : decode cL_setRate 19 = .ok (.iconst 2, 1) := by decide +kernel
theorem dL_setRate_20 : decode cL_setRate 20 = .ok (.ireturn, 1) := by decide +kernel
theorem dL_setRate_21 : decode cL_setRate 21 = .ok (.iconst 0, 1) := by decide +kernel
theorem dL_setRate_22 : decode cL_setRate 22 = .ok (.ireturn, 1) := by decide +kernel
set_option maxRecDepth 20000 in
theorem ggL_feed_X4_feed : GoodIn wsL_feed wsX4_feed := goodIn_ca (goodIn_ca (goodIn_r _ [7, 8, 9, 10, 11, 12, 13, 14, 6, 15, 16, 17, 18, 19, 20, 21, 22, 23, 24, 25, 26, 27, 28, 29, 30, 31] (by decide +kernel) (by decide +kernel)) (goodIn_sub (fun _ h => List.mem_cons_of_mem _ (List.mem_append_left _ (List.mem_append_right _ h))) (by decide +kernel))) (goodIn_sub (fun _ h => List.mem_cons_of_mem _ (List.mem_append_right _ h)) (by decide +kernel))
set_option maxRecDepth 20000 in
theorem gL_feed_X4_feed : GoodIn wsL_feed (wsV RL 27 RX4 yX4_feed wsX4_feed) := goodIn_app (goodIn_of _ (by decide +kernel)) ggL_feed_X4_feed
theorem dL_feed_0 : decode cL_feed 0 = .ok (.aload 4, 2) := by decide +kernel
theorem dL_feed_2 : decode cL_feed 2 = .ok (.iconst 0, 1) := by decide +kernel
theorem dL_feed_3 : decode cL_feed 3 = .ok (.aload_n 0, 1) := by decide +kernel
theorem dL_feed_4 : decode cL_feed 4 = .ok (.lload_n 1, 1) := by decide +kernel
theorem dL_feed_5 : decode cL_feed 5 = .ok (.iload_n 3, 1) := by decide +kernel
theorem dL_feed_6 : decode cL_feed 6 = .ok (.invokevirtual 27, 3) := by decide +kernel
theorem dL_feed_9 : decode cL_feed 9 = .ok (.i2l, 1) := by decide +kernel
theorem dL_feed_10 : decode cL_feed 10 = .ok (.lastore, 1) := by decide +kernel
theorem dL_feed_11 : decode cL_feed 11 = .ok (.goto 11, 3) := by decide +kernel
theorem dL_feed_14 : decode cL_feed 14 = .ok (.astore 5, 2) := by decide +kernel
theorem dL_feed_16 : decode cL_feed 16 = .ok (.iconst 1, 1) := by decide +kernel
theorem dL_feed_17 : decode cL_feed 17 = .ok (.ireturn, 1) := by decide +kernel
theorem dL_feed_18 : decode cL_feed 18 = .ok (.astore 5, 2) := by decide +kernel
theorem dL_feed_20 : decode cL_feed 20 = .ok (.iconst 2, 1) := by decide +kernel
theorem dL_feed_21 : decode cL_feed 21 = .ok (.ireturn, 1) := by decide +kernel
theorem dL_feed_22 : decode cL_feed 22 = .ok (.iconst 0, 1) := by decide +kernel
theorem dL_feed_23 : decode cL_feed 23 = .ok (.ireturn, 1) := by decide +kernel
set_option maxRecDepth 20000 in
theorem ggL_fill_X4_fill : GoodIn wsL_fill wsX4_fill := goodIn_ca (goodIn_ca (goodIn_r _ [7, 8, 9, 10, 11, 12, 13, 6, 14, 15, 16, 17, 18, 19, 20, 21, 22, 23, 24, 25, 26, 27, 28, 29, 30, 31, 32, 33, 34] (by decide +kernel) (by decide +kernel)) (goodIn_sub (fun _ h => List.mem_cons_of_mem _ (List.mem_append_left _ (List.mem_append_right _ h))) (by decide +kernel))) (goodIn_sub (fun _ h => List.mem_cons_of_mem _ (List.mem_append_right _ h)) (by decide +kernel))
set_option maxRecDepth 20000 in
theorem gL_fill_X4_fill : GoodIn wsL_fill (wsV RL 31 RX4 yX4_fill wsX4_fill) := goodIn_app (goodIn_of _ (by decide +kernel)) ggL_fill_X4_fill
theorem dL_fill_0 : decode cL_fill 0 = .ok (.aload_n 3, 1) := by decide +kernel
theorem dL_fill_1 : decode cL_fill 1 = .ok (.iconst 0, 1) := by decide +kernel
theorem dL_fill_2 : decode cL_fill 2 = .ok (.aload_n 0, 1) := by decide +kernel
theorem dL_fill_3 : decode cL_fill 3 = .ok (.iload_n 1, 1) := by decide +kernel
theorem dL_fill_4 : decode cL_fill 4 = .ok (.iload_n 2, 1) := by decide +kernel
theorem dL_fill_5 : decode cL_fill 5 = .ok (.invokevirtual 31, 3) := by decide +kernel
theorem dL_fill_8 : decode cL_fill 8 = .ok (.i2l, 1) := by decide +kernel
theorem dL_fill_9 : decode cL_fill 9 = .ok (.lastore, 1) := by decide +kernel
theorem dL_fill_10 : decode cL_fill 10 = .ok (.goto 11, 3) := by decide +kernel
theorem dL_fill_13 : decode cL_fill 13 = .ok (.astore 4, 2) := by decide +kernel
theorem dL_fill_15 : decode cL_fill 15 = .ok (.iconst 1, 1) := by decide +kernel
theorem dL_fill_16 : decode cL_fill 16 = .ok (.ireturn, 1) := by decide +kernel
theorem dL_fill_17 : decode cL_fill 17 = .ok (.astore 4, 2) := by decide +kernel
theorem dL_fill_19 : decode cL_fill 19 = .ok (.iconst 2, 1) := by decide +kernel
theorem dL_fill_20 : decode cL_fill 20 = .ok (.ireturn, 1) := by decide +kernel
theorem dL_fill_21 : decode cL_fill 21 = .ok (.iconst 0, 1) := by decide +kernel
theorem dL_fill_22 : decode cL_fill 22 = .ok (.ireturn, 1) := by decide +kernel
set_option maxRecDepth 20000 in
theorem ggL_cut_X4_cut : GoodIn wsL_cut wsX4_cut := goodIn_ca (goodIn_r _ [6, 7, 8, 9, 5, 10, 11, 12, 13, 14, 15, 16, 17, 18, 19, 20] (by decide +kernel) (by decide +kernel)) (goodIn_sub (fun _ h => List.mem_cons_of_mem _ (List.mem_append_right _ h)) (by decide +kernel))
set_option maxRecDepth 20000 in
theorem gL_cut_X4_cut : GoodIn wsL_cut (wsV RL 34 RX4 yX4_cut wsX4_cut) := goodIn_app (goodIn_of _ (by decide +kernel)) ggL_cut_X4_cut
theorem dL_cut_0 : decode cL_cut 0 = .ok (.aload_n 2, 1) := by decide +kernel
theorem dL_cut_1 : decode cL_cut 1 = .ok (.iconst 0, 1) := by decide +kernel
theorem dL_cut_2 : decode cL_cut 2 = .ok (.aload_n 0, 1) := by decide +kernel
theorem dL_cut_3 : decode cL_cut 3 = .ok (.iload_n 1, 1) := by decide +kernel
theorem dL_cut_4 : decode cL_cut 4 = .ok (.invokevirtual 34, 3) := by decide +kernel
theorem dL_cut_7 : decode cL_cut 7 = .ok (.i2l, 1) := by decide +kernel
theorem dL_cut_8 : decode cL_cut 8 = .ok (.lastore, 1) := by decide +kernel
theorem dL_cut_9 : decode cL_cut 9 = .ok (.goto 6, 3) := by decide +kernel
theorem dL_cut_12 : decode cL_cut 12 = .ok (.astore_n 3, 1) := by decide +kernel
theorem dL_cut_13 : decode cL_cut 13 = .ok (.iconst 1, 1) := by decide +kernel
theorem dL_cut_14 : decode cL_cut 14 = .ok (.ireturn, 1) := by decide +kernel
theorem dL_cut_15 : decode cL_cut 15 = .ok (.iconst 0, 1) := by decide +kernel
theorem dL_cut_16 : decode cL_cut 16 = .ok (.ireturn, 1) := by decide +kernel
set_option maxRecDepth 20000 in
theorem ggL_byteAt_X4_byteAt : GoodIn wsL_byteAt wsX4_byteAt := goodIn_ca (goodIn_r _ [6, 7, 8, 9, 5, 10, 11, 12, 13, 14, 15, 16, 17, 18, 19, 20, 21, 22, 23, 24, 25, 26, 27, 28, 29, 30, 31] (by decide +kernel) (by decide +kernel)) (goodIn_sub (fun _ h => List.mem_cons_of_mem _ (List.mem_append_right _ h)) (by decide +kernel))
set_option maxRecDepth 20000 in
theorem gL_byteAt_X4_byteAt : GoodIn wsL_byteAt (wsV RL 38 RX4 yX4_byteAt wsX4_byteAt) := goodIn_app (goodIn_of _ (by decide +kernel)) ggL_byteAt_X4_byteAt
theorem dL_byteAt_0 : decode cL_byteAt 0 = .ok (.aload_n 2, 1) := by decide +kernel
theorem dL_byteAt_1 : decode cL_byteAt 1 = .ok (.iconst 0, 1) := by decide +kernel
theorem dL_byteAt_2 : decode cL_byteAt 2 = .ok (.aload_n 0, 1) := by decide +kernel
theorem dL_byteAt_3 : decode cL_byteAt 3 = .ok (.iload_n 1, 1) := by decide +kernel
theorem dL_byteAt_4 : decode cL_byteAt 4 = .ok (.invokevirtual 38, 3) := by decide +kernel
theorem dL_byteAt_7 : decode cL_byteAt 7 = .ok (.i2l, 1) := by decide +kernel
theorem dL_byteAt_8 : decode cL_byteAt 8 = .ok (.lastore, 1) := by decide +kernel
theorem dL_byteAt_9 : decode cL_byteAt 9 = .ok (.goto 6, 3) := by decide +kernel
theorem dL_byteAt_12 : decode cL_byteAt 12 = .ok (.astore_n 3, 1) := by decide +kernel
theorem dL_byteAt_13 : decode cL_byteAt 13 = .ok (.iconst 1, 1) := by decide +kernel
theorem dL_byteAt_14 : decode cL_byteAt 14 = .ok (.ireturn, 1) := by decide +kernel
theorem dL_byteAt_15 : decode cL_byteAt 15 = .ok (.iconst 0, 1) := by decide +kernel
theorem dL_byteAt_16 : decode cL_byteAt 16 = .ok (.ireturn, 1) := by decide +kernel
set_option maxRecDepth 20000 in
theorem ggL_prediction_X4_prediction : GoodIn wsL_prediction wsX4_prediction := goodIn_ca (goodIn_r _ [6, 7, 8, 9, 5, 10, 11, 12, 13, 14, 15, 16, 17, 18, 19, 20, 21, 22, 23, 24, 25, 26, 27, 28, 29, 30, 31, 32, 33, 34, 35, 36, 37, 38, 39, 40, 41, 42, 43, 44] (by decide +kernel) (by decide +kernel)) (goodIn_sub (fun _ h => List.mem_cons_of_mem _ (List.mem_append_right _ h)) (by decide +kernel))
set_option maxRecDepth 20000 in
theorem gL_prediction_X4_prediction : GoodIn wsL_prediction (wsV RL 41 RX4 yX4_prediction wsX4_prediction) := goodIn_app (goodIn_of _ (by decide +kernel)) ggL_prediction_X4_prediction
theorem dL_prediction_0 : decode cL_prediction 0 = .ok (.aload_n 2, 1) := by decide +kernel
theorem dL_prediction_1 : decode cL_prediction 1 = .ok (.iconst 0, 1) := by decide +kernel
theorem dL_prediction_2 : decode cL_prediction 2 = .ok (.aload_n 0, 1) := by decide +kernel
theorem dL_prediction_3 : decode cL_prediction 3 = .ok (.iload_n 1, 1) := by decide +kernel
theorem dL_prediction_4 : decode cL_prediction 4 = .ok (.invokevirtual 41, 3) := by decide +kernel
theorem dL_prediction_7 : decode cL_prediction 7 = .ok (.i2l, 1) := by decide +kernel
theorem dL_prediction_8 : decode cL_prediction 8 = .ok (.lastore, 1) := by decide +kernel
theorem dL_prediction_9 : decode cL_prediction 9 = .ok (.goto 6, 3) := by decide +kernel
theorem dL_prediction_12 : decode cL_prediction 12 = .ok (.astore_n 3, 1) := by decide +kernel
theorem dL_prediction_13 : decode cL_prediction 13 = .ok (.iconst 1, 1) := by decide +kernel
theorem dL_prediction_14 : decode cL_prediction 14 = .ok (.ireturn, 1) := by decide +kernel
theorem dL_prediction_15 : decode cL_prediction 15 = .ok (.iconst 0, 1) := by decide +kernel
theorem dL_prediction_16 : decode cL_prediction 16 = .ok (.ireturn, 1) := by decide +kernel
set_option maxRecDepth 20000 in
theorem ggL_index_X4_index : GoodIn wsL_index wsX4_index := goodIn_ca (goodIn_r _ [6, 7, 8, 9, 10, 5, 11, 12, 13, 14, 15, 16, 17, 18, 19, 20, 21, 22, 23, 24, 25, 26, 27, 28, 29, 30, 31, 32, 33, 34, 35, 36, 37, 38] (by decide +kernel) (by decide +kernel)) (goodIn_sub (fun _ h => List.mem_cons_of_mem _ (List.mem_append_right _ h)) (by decide +kernel))
set_option maxRecDepth 20000 in
theorem gL_index_X4_index : GoodIn wsL_index (wsV RL 44 RX4 yX4_index wsX4_index) := goodIn_app (goodIn_of _ (by decide +kernel)) ggL_index_X4_index
theorem dL_index_0 : decode cL_index 0 = .ok (.aload_n 2, 1) := by decide +kernel
theorem dL_index_1 : decode cL_index 1 = .ok (.iconst 0, 1) := by decide +kernel
theorem dL_index_2 : decode cL_index 2 = .ok (.aload_n 0, 1) := by decide +kernel
theorem dL_index_3 : decode cL_index 3 = .ok (.iload_n 1, 1) := by decide +kernel
theorem dL_index_4 : decode cL_index 4 = .ok (.invokevirtual 44, 3) := by decide +kernel
theorem dL_index_7 : decode cL_index 7 = .ok (.i2l, 1) := by decide +kernel
theorem dL_index_8 : decode cL_index 8 = .ok (.lastore, 1) := by decide +kernel
theorem dL_index_9 : decode cL_index 9 = .ok (.goto 6, 3) := by decide +kernel
theorem dL_index_12 : decode cL_index 12 = .ok (.astore_n 3, 1) := by decide +kernel
theorem dL_index_13 : decode cL_index 13 = .ok (.iconst 1, 1) := by decide +kernel
theorem dL_index_14 : decode cL_index 14 = .ok (.ireturn, 1) := by decide +kernel
theorem dL_index_15 : decode cL_index 15 = .ok (.iconst 0, 1) := by decide +kernel
theorem dL_index_16 : decode cL_index 16 = .ok (.ireturn, 1) := by decide +kernel
set_option maxRecDepth 20000 in
theorem ggL_counter_X4_counter : GoodIn wsL_counter wsX4_counter := goodIn_ca (goodIn_r _ [6, 7, 8, 9, 10, 11, 12, 5, 13, 14, 15, 16, 17, 18, 19, 20, 21, 22, 23, 24, 25, 26, 27, 28, 29, 30, 31, 32, 33, 34, 35, 36, 37, 38, 39, 40, 41, 42, 43, 44, 45, 46, 47, 48] (by decide +kernel) (by decide +kernel)) (goodIn_sub (fun _ h => List.mem_cons_of_mem _ (List.mem_append_right _ h)) (by decide +kernel))
set_option maxRecDepth 20000 in
theorem gL_counter_X4_counter : GoodIn wsL_counter (wsV RL 47 RX4 yX4_counter wsX4_counter) := goodIn_app (goodIn_of _ (by decide +kernel)) ggL_counter_X4_counter
theorem dL_counter_0 : decode cL_counter 0 = .ok (.aload_n 3, 1) := by decide +kernel
theorem dL_counter_1 : decode cL_counter 1 = .ok (.iconst 0, 1) := by decide +kernel
theorem dL_counter_2 : decode cL_counter 2 = .ok (.aload_n 0, 1) := by decide +kernel
theorem dL_counter_3 : decode cL_counter 3 = .ok (.iload_n 1, 1) := by decide +kernel
theorem dL_counter_4 : decode cL_counter 4 = .ok (.iload_n 2, 1) := by decide +kernel
theorem dL_counter_5 : decode cL_counter 5 = .ok (.invokevirtual 47, 3) := by decide +kernel
theorem dL_counter_8 : decode cL_counter 8 = .ok (.i2l, 1) := by decide +kernel
theorem dL_counter_9 : decode cL_counter 9 = .ok (.lastore, 1) := by decide +kernel
theorem dL_counter_10 : decode cL_counter 10 = .ok (.goto 7, 3) := by decide +kernel
theorem dL_counter_13 : decode cL_counter 13 = .ok (.astore 4, 2) := by decide +kernel
theorem dL_counter_15 : decode cL_counter 15 = .ok (.iconst 1, 1) := by decide +kernel
theorem dL_counter_16 : decode cL_counter 16 = .ok (.ireturn, 1) := by decide +kernel
theorem dL_counter_17 : decode cL_counter 17 = .ok (.iconst 0, 1) := by decide +kernel
theorem dL_counter_18 : decode cL_counter 18 = .ok (.ireturn, 1) := by decide +kernel
set_option maxRecDepth 20000 in
theorem ggL_weight_X4_weight : GoodIn wsL_weight wsX4_weight := goodIn_ca (goodIn_r _ [6, 7, 8, 9, 10, 11, 12, 5, 13, 14, 15, 16, 17, 18, 19, 20, 21, 22, 23, 24, 25, 26, 27, 28, 29, 30, 31, 32, 33, 34, 35, 36, 37, 38] (by decide +kernel) (by decide +kernel)) (goodIn_sub (fun _ h => List.mem_cons_of_mem _ (List.mem_append_right _ h)) (by decide +kernel))
set_option maxRecDepth 20000 in
theorem gL_weight_X4_weight : GoodIn wsL_weight (wsV RL 50 RX4 yX4_weight wsX4_weight) := goodIn_app (goodIn_of _ (by decide +kernel)) ggL_weight_X4_weight
theorem dL_weight_0 : decode cL_weight 0 = .ok (.aload_n 3, 1) := by decide +kernel
theorem dL_weight_1 : decode cL_weight 1 = .ok (.iconst 0, 1) := by decide +kernel
theorem dL_weight_2 : decode cL_weight 2 = .ok (.aload_n 0, 1) := by decide +kernel
theorem dL_weight_3 : decode cL_weight 3 = .ok (.iload_n 1, 1) := by decide +kernel
theorem dL_weight_4 : decode cL_weight 4 = .ok (.iload_n 2, 1) := by decide +kernel
theorem dL_weight_5 : decode cL_weight 5 = .ok (.invokevirtual 50, 3) := by decide +kernel
theorem dL_weight_8 : decode cL_weight 8 = .ok (.i2l, 1) := by decide +kernel
theorem dL_weight_9 : decode cL_weight 9 = .ok (.lastore, 1) := by decide +kernel
theorem dL_weight_10 : decode cL_weight 10 = .ok (.goto 7, 3) := by decide +kernel
theorem dL_weight_13 : decode cL_weight 13 = .ok (.astore 4, 2) := by decide +kernel
theorem dL_weight_15 : decode cL_weight 15 = .ok (.iconst 1, 1) := by decide +kernel
theorem dL_weight_16 : decode cL_weight 16 = .ok (.ireturn, 1) := by decide +kernel
theorem dL_weight_17 : decode cL_weight 17 = .ok (.iconst 0, 1) := by decide +kernel
theorem dL_weight_18 : decode cL_weight 18 = .ok (.ireturn, 1) := by decide +kernel
set_option maxRecDepth 20000 in
theorem ggL_collisions_X4_collisions : GoodIn wsL_collisions wsX4_collisions := goodIn_ca (goodIn_r _ [6, 7, 8, 9, 10, 5, 11, 12, 13, 14, 15, 16, 17, 18, 19, 20, 21, 22, 23, 24, 25, 26, 27, 28, 29, 30, 31, 32, 33, 34, 35, 36, 37, 38] (by decide +kernel) (by decide +kernel)) (goodIn_sub (fun _ h => List.mem_cons_of_mem _ (List.mem_append_right _ h)) (by decide +kernel))
set_option maxRecDepth 20000 in
theorem gL_collisions_X4_collisions : GoodIn wsL_collisions (wsV RL 53 RX4 yX4_collisions wsX4_collisions) := goodIn_app (goodIn_of _ (by decide +kernel)) ggL_collisions_X4_collisions
theorem dL_collisions_0 : decode cL_collisions 0 = .ok (.aload_n 2, 1) := by decide +kernel
theorem dL_collisions_1 : decode cL_collisions 1 = .ok (.iconst 0, 1) := by decide +kernel
theorem dL_collisions_2 : decode cL_collisions 2 = .ok (.aload_n 0, 1) := by decide +kernel
theorem dL_collisions_3 : decode cL_collisions 3 = .ok (.iload_n 1, 1) := by decide +kernel
theorem dL_collisions_4 : decode cL_collisions 4 = .ok (.invokevirtual 53, 3) := by decide +kernel
theorem dL_collisions_7 : decode cL_collisions 7 = .ok (.i2l, 1) := by decide +kernel
theorem dL_collisions_8 : decode cL_collisions 8 = .ok (.lastore, 1) := by decide +kernel
theorem dL_collisions_9 : decode cL_collisions 9 = .ok (.goto 6, 3) := by decide +kernel
theorem dL_collisions_12 : decode cL_collisions 12 = .ok (.astore_n 3, 1) := by decide +kernel
theorem dL_collisions_13 : decode cL_collisions 13 = .ok (.iconst 1, 1) := by decide +kernel
theorem dL_collisions_14 : decode cL_collisions 14 = .ok (.ireturn, 1) := by decide +kernel
theorem dL_collisions_15 : decode cL_collisions 15 = .ok (.iconst 0, 1) := by decide +kernel
theorem dL_collisions_16 : decode cL_collisions 16 = .ok (.ireturn, 1) := by decide +kernel
set_option maxRecDepth 20000 in
theorem ggL_history_X4_history : GoodIn wsL_history wsX4_history := goodIn_ca (goodIn_r _ [6, 7, 8, 9, 10, 11, 12, 13, 14, 15, 16, 17, 18, 19, 20, 21, 22] (by decide +kernel) (by decide +kernel)) (goodIn_sub (fun _ h => List.mem_cons_of_mem _ (List.mem_append_right _ h)) (by decide +kernel))
set_option maxRecDepth 20000 in
theorem gL_history_X4_history : GoodIn wsL_history (wsV RL 56 RX4 yX4_history wsX4_history) := goodIn_app (goodIn_of _ (by decide +kernel)) ggL_history_X4_history
theorem dL_history_0 : decode cL_history 0 = .ok (.aload_n 2, 1) := by decide +kernel
theorem dL_history_1 : decode cL_history 1 = .ok (.iconst 0, 1) := by decide +kernel
theorem dL_history_2 : decode cL_history 2 = .ok (.aload_n 0, 1) := by decide +kernel
theorem dL_history_3 : decode cL_history 3 = .ok (.iload_n 1, 1) := by decide +kernel
theorem dL_history_4 : decode cL_history 4 = .ok (.invokevirtual 56, 3) := by decide +kernel
theorem dL_history_7 : decode cL_history 7 = .ok (.i2l, 1) := by decide +kernel
theorem dL_history_8 : decode cL_history 8 = .ok (.lastore, 1) := by decide +kernel
theorem dL_history_9 : decode cL_history 9 = .ok (.goto 6, 3) := by decide +kernel
theorem dL_history_12 : decode cL_history 12 = .ok (.astore_n 3, 1) := by decide +kernel
theorem dL_history_13 : decode cL_history 13 = .ok (.iconst 1, 1) := by decide +kernel
theorem dL_history_14 : decode cL_history 14 = .ok (.ireturn, 1) := by decide +kernel
theorem dL_history_15 : decode cL_history 15 = .ok (.iconst 0, 1) := by decide +kernel
theorem dL_history_16 : decode cL_history 16 = .ok (.ireturn, 1) := by decide +kernel
set_option maxRecDepth 20000 in
theorem ggL_code_X4_code : GoodIn wsL_code wsX4_code := goodIn_ca (goodIn_r _ [6, 7, 8, 9, 5, 10, 11, 12, 13, 14, 15, 16, 17, 18, 19, 20, 21, 22, 23, 24, 25, 26, 27, 28, 29, 30, 31] (by decide +kernel) (by decide +kernel)) (goodIn_sub (fun _ h => List.mem_cons_of_mem _ (List.mem_append_right _ h)) (by decide +kernel))
set_option maxRecDepth 20000 in
theorem gL_code_X4_code : GoodIn wsL_code (wsV RL 59 RX4 yX4_code wsX4_code) := goodIn_app (goodIn_of _ (by decide +kernel)) ggL_code_X4_code
theorem dL_code_0 : decode cL_code 0 = .ok (.aload_n 2, 1) := by decide +kernel
theorem dL_code_1 : decode cL_code 1 = .ok (.iconst 0, 1) := by decide +kernel
theorem dL_code_2 : decode cL_code 2 = .ok (.aload_n 0, 1) := by decide +kernel
theorem dL_code_3 : decode cL_code 3 = .ok (.iload_n 1, 1) := by decide +kernel
theorem dL_code_4 : decode cL_code 4 = .ok (.invokevirtual 59, 3) := by decide +kernel
theorem dL_code_7 : decode cL_code 7 = .ok (.i2l, 1) := by decide +kernel
theorem dL_code_8 : decode cL_code 8 = .ok (.lastore, 1) := by decide +kernel
theorem dL_code_9 : decode cL_code 9 = .ok (.goto 6, 3) := by decide +kernel
theorem dL_code_12 : decode cL_code 12 = .ok (.astore_n 3, 1) := by decide +kernel
theorem dL_code_13 : decode cL_code 13 = .ok (.iconst 1, 1) := by decide +kernel
theorem dL_code_14 : decode cL_code 14 = .ok (.ireturn, 1) := by decide +kernel
theorem dL_code_15 : decode cL_code 15 = .ok (.iconst 0, 1) := by decide +kernel
theorem dL_code_16 : decode cL_code 16 = .ok (.ireturn, 1) := by decide +kernel
set_option maxRecDepth 20000 in
theorem ggL_setCode_X4_setCode : GoodIn wsL_setCode wsX4_setCode := goodIn_ca (goodIn_ca (goodIn_r _ [7, 8, 9, 10, 6, 11, 12, 13, 14, 15, 16, 17, 18, 19, 20, 21, 22, 23, 24, 25, 26, 27, 28, 29, 30, 31, 32, 33, 34, 35, 36, 37, 38, 39, 40, 41] (by decide +kernel) (by decide +kernel)) (goodIn_sub (fun _ h => List.mem_cons_of_mem _ (List.mem_append_left _ (List.mem_append_right _ h))) (by decide +kernel))) (goodIn_sub (fun _ h => List.mem_cons_of_mem _ (List.mem_append_right _ h)) (by decide +kernel))
set_option maxRecDepth 20000 in
theorem gL_setCode_X4_setCode : GoodIn wsL_setCode (wsV RL 62 RX4 yX4_setCode wsX4_setCode) := goodIn_app (goodIn_of _ (by decide +kernel)) ggL_setCode_X4_setCode
theorem dL_setCode_0 : decode cL_setCode 0 = .ok (.aload_n 3, 1) := by decide +kernel
theorem dL_setCode_1 : decode cL_setCode 1 = .ok (.iconst 0, 1) := by decide +kernel
theorem dL_setCode_2 : decode cL_setCode 2 = .ok (.aload_n 0, 1) := by decide +kernel
theorem dL_setCode_3 : decode cL_setCode 3 = .ok (.iload_n 1, 1) := by decide +kernel
theorem dL_setCode_4 : decode cL_setCode 4 = .ok (.iload_n 2, 1) := by decide +kernel
theorem dL_setCode_5 : decode cL_setCode 5 = .ok (.invokevirtual 62, 3) := by decide +kernel
theorem dL_setCode_8 : decode cL_setCode 8 = .ok (.i2l, 1) := by decide +kernel
theorem dL_setCode_9 : decode cL_setCode 9 = .ok (.lastore, 1) := by decide +kernel
theorem dL_setCode_10 : decode cL_setCode 10 = .ok (.goto 11, 3) := by decide +kernel
theorem dL_setCode_13 : decode cL_setCode 13 = .ok (.astore 4, 2) := by decide +kernel
theorem dL_setCode_15 : decode cL_setCode 15 = .ok (.iconst 1, 1) := by decide +kernel
theorem dL_setCode_16 : decode cL_setCode 16 = .ok (.ireturn, 1) := by decide +kernel
theorem dL_setCode_17 : decode cL_setCode 17 = .ok (.astore 4, 2) := by decide +kernel
theorem dL_setCode_19 : decode cL_setCode 19 = .ok (.iconst 2, 1) := by decide +kernel
theorem dL_setCode_20 : decode cL_setCode 20 = .ok (.ireturn, 1) := by decide +kernel
theorem dL_setCode_21 : decode cL_setCode 21 = .ok (.iconst 0, 1) := by decide +kernel
theorem dL_setCode_22 : decode cL_setCode 22 = .ok (.ireturn, 1) := by decide +kernel
set_option maxRecDepth 20000 in
theorem ggL_cutCode_X4_cutCode : GoodIn wsL_cutCode wsX4_cutCode := goodIn_ca (goodIn_r _ [6, 7, 8, 9, 5, 10, 11, 12, 13, 14, 15, 16, 17, 18, 19, 20] (by decide +kernel) (by decide +kernel)) (goodIn_sub (fun _ h => List.mem_cons_of_mem _ (List.mem_append_right _ h)) (by decide +kernel))
set_option maxRecDepth 20000 in
theorem gL_cutCode_X4_cutCode : GoodIn wsL_cutCode (wsV RL 65 RX4 yX4_cutCode wsX4_cutCode) := goodIn_app (goodIn_of _ (by decide +kernel)) ggL_cutCode_X4_cutCode
theorem dL_cutCode_0 : decode cL_cutCode 0 = .ok (.aload_n 2, 1) := by decide +kernel
theorem dL_cutCode_1 : decode cL_cutCode 1 = .ok (.iconst 0, 1) := by decide +kernel
theorem dL_cutCode_2 : decode cL_cutCode 2 = .ok (.aload_n 0, 1) := by decide +kernel
theorem dL_cutCode_3 : decode cL_cutCode 3 = .ok (.iload_n 1, 1) := by decide +kernel
theorem dL_cutCode_4 : decode cL_cutCode 4 = .ok (.invokevirtual 65, 3) := by decide +kernel
theorem dL_cutCode_7 : decode cL_cutCode 7 = .ok (.i2l, 1) := by decide +kernel
theorem dL_cutCode_8 : decode cL_cutCode 8 = .ok (.lastore, 1) := by decide +kernel
theorem dL_cutCode_9 : decode cL_cutCode 9 = .ok (.goto 6, 3) := by decide +kernel
theorem dL_cutCode_12 : decode cL_cutCode 12 = .ok (.astore_n 3, 1) := by decide +kernel
theorem dL_cutCode_13 : decode cL_cutCode 13 = .ok (.iconst 1, 1) := by decide +kernel
theorem dL_cutCode_14 : decode cL_cutCode 14 = .ok (.ireturn, 1) := by decide +kernel
theorem dL_cutCode_15 : decode cL_cutCode 15 = .ok (.iconst 0, 1) := by decide +kernel
theorem dL_cutCode_16 : decode cL_cutCode 16 = .ok (.ireturn, 1) := by decide +kernel
set_option maxRecDepth 20000 in
theorem ggL_decode_X4_decode : GoodIn wsL_decode wsX4_decode := goodIn_ca (goodIn_r _ [6, 7, 8, 9, 10, 11, 12, 13, 14, 15, 16, 17, 18, 19, 20, 21, 22, 23, 24, 25, 26, 27, 28, 29, 30, 31, 32, 33, 34, 35, 36, 37, 38, 39, 40, 41, 42, 43, 44, 45, 46, 47, 48, 49, 50, 51, 52, 53, 54, 55, 56, 57, 58, 59, 60, 61, 62, 63, 64, 65, 66, 67, 68, 69, 70, 71, 72, 73, 74, 75, 76, 77, 78, 79, 80, 81, 82, 83, 84, 85, 86, 87, 88, 89, 90, 91, 92, 93, 94, 95, 96, 97, 98, 99, 100, 101, 102, 103, 104, 105, 106, 107, 5, 108, 109, 110, 111, 112, 113, 114, 115, 116, 117, 118, 119, 120, 121, 122, 123, 124, 125, 126, 127, 128, 129, 130, 131, 132, 133, 134, 135, 136, 137, 138, 139, 140, 141, 142, 143, 144, 145, 146, 147, 148, 149, 150, 151, 152, 153, 154, 155, 156, 157, 158, 159, 160, 161, 162, 163, 164, 165, 166, 167, 168, 169, 170, 171, 172, 173, 174, 175, 176, 177, 178, 179, 180, 181, 182, 183, 184, 185, 186, 187, 188, 189, 190, 191, 192, 193, 194, 195, 196, 197, 198, 199, 200, 201, 202, 203, 204, 205, 206, 207] (by decide +kernel) (by decide +kernel)) (goodIn_sub (fun _ h => List.mem_cons_of_mem _ (List.mem_append_right _ h)) (by decide +kernel))
set_option maxRecDepth 20000 in
theorem gL_decode_X4_decode : GoodIn wsL_decode (wsV RL 68 RX4 yX4_decode wsX4_decode) := goodIn_app (goodIn_of _ (by decide +kernel)) ggL_decode_X4_decode
theorem dL_decode_0 : decode cL_decode 0 = .ok (.aload_n 2, 1) := by decide +kernel
theorem dL_decode_1 : decode cL_decode 1 = .ok (.iconst 0, 1) := by decide +kernel
theorem dL_decode_2 : decode cL_decode 2 = .ok (.aload_n 0, 1) := by decide +kernel
theorem dL_decode_3 : decode cL_decode 3 = .ok (.iload_n 1, 1) := by decide +kernel
theorem dL_decode_4 : decode cL_decode 4 = .ok (.invokevirtual 68, 3) := by decide +kernel
theorem dL_decode_7 : decode cL_decode 7 = .ok (.i2l, 1) := by decide +kernel
theorem dL_decode_8 : decode cL_decode 8 = .ok (.lastore, 1) := by decide +kernel
theorem dL_decode_9 : decode cL_decode 9 = .ok (.goto 6, 3) := by decide +kernel
theorem dL_decode_12 : decode cL_decode 12 = .ok (.astore_n 3, 1) := by decide +kernel
theorem dL_decode_13 : decode cL_decode 13 = .ok (.iconst 1, 1) := by decide +kernel
theorem dL_decode_14 : decode cL_decode 14 = .ok (.ireturn, 1) := by decide +kernel
theorem dL_decode_15 : decode cL_decode 15 = .ok (.iconst 0, 1) := by decide +kernel
theorem dL_decode_16 : decode cL_decode 16 = .ok (.ireturn, 1) := by decide +kernel
set_option maxRecDepth 20000 in
theorem ggL_output_X4_output : GoodIn wsL_output wsX4_output := goodIn_ca (goodIn_r _ [6, 7, 8, 9, 5, 10, 11, 12, 13, 14, 15, 16, 17, 18, 19, 20, 21, 22, 23, 24, 25, 26, 27, 28, 29, 30, 31] (by decide +kernel) (by decide +kernel)) (goodIn_sub (fun _ h => List.mem_cons_of_mem _ (List.mem_append_right _ h)) (by decide +kernel))
set_option maxRecDepth 20000 in
theorem gL_output_X4_output : GoodIn wsL_output (wsV RL 71 RX4 yX4_output wsX4_output) := goodIn_app (goodIn_of _ (by decide +kernel)) ggL_output_X4_output
theorem dL_output_0 : decode cL_output 0 = .ok (.aload_n 2, 1) := by decide +kernel
theorem dL_output_1 : decode cL_output 1 = .ok (.iconst 0, 1) := by decide +kernel
theorem dL_output_2 : decode cL_output 2 = .ok (.aload_n 0, 1) := by decide +kernel
theorem dL_output_3 : decode cL_output 3 = .ok (.iload_n 1, 1) := by decide +kernel
theorem dL_output_4 : decode cL_output 4 = .ok (.invokevirtual 71, 3) := by decide +kernel
theorem dL_output_7 : decode cL_output 7 = .ok (.i2l, 1) := by decide +kernel
theorem dL_output_8 : decode cL_output 8 = .ok (.lastore, 1) := by decide +kernel
theorem dL_output_9 : decode cL_output 9 = .ok (.goto 6, 3) := by decide +kernel
theorem dL_output_12 : decode cL_output 12 = .ok (.astore_n 3, 1) := by decide +kernel
theorem dL_output_13 : decode cL_output 13 = .ok (.iconst 1, 1) := by decide +kernel
theorem dL_output_14 : decode cL_output 14 = .ok (.ireturn, 1) := by decide +kernel
theorem dL_output_15 : decode cL_output 15 = .ok (.iconst 0, 1) := by decide +kernel
theorem dL_output_16 : decode cL_output 16 = .ok (.ireturn, 1) := by decide +kernel
abbrev vwCl : List vw_C := [(RX0, TX0, 2), (RX1, TX1, 4), (RX2, TX2, 10), (RX3, TX3, 7), (RX4, TX4, 5), (RX5, TX5, 22)]
end
section
/-! ===== the layer: what every contract of ours speaks of ===== -/
abbrev tB (cI cL cM : ClassId) : List (ClassId × FieldType) := [(cI, .int), (cL, .long), (cM, .object "BitMixer$Model")]
abbrev nwA : Cond := .methodLinkNest "BitMixer$Model" 69 yX4_quality "BitMixer"
abbrev nwB : Cond := .methodLinkNest "BitMixer$Predictor" 85 yX4_quality "BitMixer"
/-- what the tables say, wherever a method begins -/
def ev (D : va_G) (T : List (ClassId × FieldType)) (U : State) : Prop := va_K D vwCl T U ∧ va_Nw nwA U ∧ va_Nw nwB U
theorem ev_warm {D : va_G} {T : List (ClassId × FieldType)} {s U : State} (hW : s.WarmedH U.vm) (h : ev D T s) : ev D T U := ⟨va_K.moved hW.alike h.1, va_Nw.warmM hW h.2.1, va_Nw.warmM hW h.2.2⟩
theorem ev_same {D : va_G} {T : List (ClassId × FieldType)} {s U : State} (hv : s.vm = U.vm) (h : ev D T s) : ev D T U := ⟨va_K.moved (by rw [← hv]; exact Vm.Alike.refl _) h.1, va_Nw.same rfl hv h.2.1, va_Nw.same rfl hv h.2.2⟩
/-- the heap holds the cells ws, which are apart and in A; so are all cells to come -/
def ho (D : va_G) (T : List (ClassId × FieldType)) (A : Nat → Prop) (ws : va_W) (U : State) : Prop := va_P D vwCl ws U.heap ∧ ev D T U ∧ va_D A ws ∧ ∀ q, U.heap.size ≤ q → A q
def hq (D : va_G) (A : Nat → Prop) (ws : va_W) (t : State) : Prop := va_P D vwCl ws t.heap ∧ va_D A ws
theorem ho_blind {D : va_G} {T : List (ClassId × FieldType)} {A : Nat → Prop} {ws : va_W} {av : List Value} : FrameBlind (va_Pc av (ho D T A ws)) := fun _ _ _ _ q => ⟨q.1, q.2.1, ev_same rfl q.2.2.1, q.2.2.2.1, q.2.2.2.2⟩
/-- contracts of methods that make nothing and throw nothing: an int, a long, nothing -/
def mI (l : Launch) (y : MethodName) (wy : List Cond) (rm : Room) (D : va_G) (T : List (ClassId × FieldType)) (A : Nat → Prop) (av : List Value) (ws : va_W) (r : Int32) (ws' : va_W) : Prop :=
  Met l y wy rm (va_Pc av (ho D T A ws)) (va_Qi (fun x (_ : Unit) => x = r) (fun _ t => hq D A ws' t) A) 0 0 A
def mL (l : Launch) (y : MethodName) (wy : List Cond) (rm : Room) (D : va_G) (T : List (ClassId × FieldType)) (A : Nat → Prop) (av : List Value) (ws : va_W) (r : Int64) (ws' : va_W) : Prop :=
  Met l y wy rm (va_Pc av (ho D T A ws)) (va_Ql (fun x (_ : Unit) => x = r) (fun _ t => hq D A ws' t) A) 0 0 A
def mV (l : Launch) (y : MethodName) (wy : List Cond) (rm : Room) (D : va_G) (T : List (ClassId × FieldType)) (A : Nat → Prop) (av : List Value) (ws ws' : va_W) : Prop :=
  Met l y wy rm (va_Pc av (ho D T A ws)) (va_Qv (fun (_ : Unit) => True) (fun _ t => hq D A ws' t) A) 0 0 A
/-- cells put at their places -/
def putW : va_W → List Nat → va_W → va_W
  | ws, i :: is, x :: xs => putW (ws.set i x) is xs
  | ws, _, _ => ws
theorem putW_get : ∀ (is : List Nat) (xs ws : va_W) (k : Nat) (q : Nat × va_E), is.length = xs.length → (putW ws is xs)[k]? = some q → (∃ j : Nat, is[j]? = some k ∧ xs[j]? = some q) ∨ (k ∉ is ∧ ws[k]? = some q)
  | [], xs, ws, k, q, _, h => Or.inr ⟨List.not_mem_nil, by cases xs <;> exact h⟩
  | i :: is, [], ws, k, q, hl, h => by simp at hl
  | i :: is, x :: xs, ws, k, q, hl, h => by
    have hl2 : is.length = xs.length := by simpa using hl
    rcases putW_get is xs (ws.set i x) k q hl2 h with ⟨j, h1, h2⟩ | ⟨h1, h2⟩
    · exact Or.inl ⟨j + 1, h1, h2⟩
    · by_cases hk : i = k
      · subst hk
        rw [List.getElem?_set] at h2
        simp only [if_true] at h2
        split at h2
        · exact Or.inl ⟨0, rfl, h2⟩
        · cases h2
      · rw [List.getElem?_set_ne hk] at h2
        refine Or.inr ⟨?_, h2⟩
        intro hm
        rcases List.mem_cons.mp hm with e | e
        · exact hk e.symm
        · exact h1 e
theorem set_fst {ws : va_W} {i : Nat} {x y : Nat × va_E} (h : ws[i]? = some y) (e : x.1 = y.1) : (ws.set i x).map Prod.fst = ws.map Prod.fst := by
  rw [List.map_set]
  refine List.ext_getElem? (fun k => ?_)
  rw [List.getElem?_set]
  split
  · rename_i hk
    subst hk
    rw [List.getElem?_map, h]
    split
    · simp [e]
    · rename_i hl
      exact absurd (by rw [List.length_map]; exact (List.getElem?_eq_some_iff.mp h).1) hl
  · rfl
theorem putW_fst : ∀ (is : List Nat) (xs ws : va_W), (∀ (j i : Nat) (x : Nat × va_E), is[j]? = some i → xs[j]? = some x → ∃ y : Nat × va_E, ws[i]? = some y ∧ x.1 = y.1) → (putW ws is xs).map Prod.fst = ws.map Prod.fst
  | [], xs, ws, _ => by cases xs <;> rfl
  | i :: is, [], ws, _ => rfl
  | i :: is, x :: xs, ws, h => by
    obtain ⟨y, h1, h2⟩ := h 0 i x rfl rfl
    have e1 := set_fst (x := x) h1 h2
    have e2 := putW_fst is xs (ws.set i x) (fun j i' x' h3 h4 => by
      obtain ⟨y', h5, h6⟩ := h (j + 1) i' x' h3 h4
      have h7 : ((ws.set i x).map Prod.fst)[i']? = some y'.1 := by rw [e1, List.getElem?_map, h5]; rfl
      rw [List.getElem?_map] at h7
      cases h8 : (ws.set i x)[i']? with
      | none => rw [h8] at h7; cases h7
      | some z => rw [h8] at h7; exact ⟨z, rfl, h6.trans (Option.some.inj h7).symm⟩)
    exact e2.trans e1
theorem va_D_fst {A : Nat → Prop} {ws ws' : va_W} (e : ws'.map Prod.fst = ws.map Prod.fst) (h : va_D A ws) : va_D A ws' := by
  have key : ∀ (k : Nat) (q : Nat × va_E), ws'[k]? = some q → ∃ q' : Nat × va_E, ws[k]? = some q' ∧ q'.1 = q.1 := by
    intro k q hq
    have h7 : (ws.map Prod.fst)[k]? = some q.1 := by rw [← e, List.getElem?_map, hq]; rfl
    rw [List.getElem?_map] at h7
    cases h8 : ws[k]? with
    | none => rw [h8] at h7; cases h7
    | some z => rw [h8] at h7; exact ⟨z, rfl, Option.some.inj h7⟩
  refine ⟨fun i j p q hi hj hpq => ?_, fun k q hk => ?_⟩
  · obtain ⟨p', h1, h2⟩ := key i p hi
    obtain ⟨q', h3, h4⟩ := key j q hj
    exact h.1 i j p' q' h1 h3 (by rw [h2, h4, hpq])
  · obtain ⟨q', h1, h2⟩ := key k q hk
    rw [← h2]
    exact h.2 k q' h1
theorem at_map {is : List Nat} {ws w : va_W} (hs : is.map (fun i => ws[i]?) = w.map some) (k : Nat) (q : Nat × va_E) (hq : w[k]? = some q) : ∃ i, is[k]? = some i ∧ ws[i]? = some q := by
  have h1 : (is.map (fun i => ws[i]?))[k]? = some (some q) := by rw [hs, List.getElem?_map, hq]; rfl
  rw [List.getElem?_map] at h1
  cases hi : is[k]? with
  | none => rw [hi] at h1; cases h1
  | some i => rw [hi] at h1; exact ⟨i, rfl, Option.some.inj h1⟩
theorem fst_at {w1 wc : va_W} (hf : w1.map Prod.fst = wc.map Prod.fst) {j : Nat} {x : Nat × va_E} (h : w1[j]? = some x) : ∃ y : Nat × va_E, wc[j]? = some y ∧ x.1 = y.1 := by
  have h7 : (wc.map Prod.fst)[j]? = some x.1 := by rw [← hf, List.getElem?_map, h]; rfl
  rw [List.getElem?_map] at h7
  cases h8 : wc[j]? with
  | none => rw [h8] at h7; cases h7
  | some z => rw [h8] at h7; exact ⟨z, rfl, (Option.some.inj h7).symm⟩
/-- behind a call: the callee's cells at their places, the others as they were -/
theorem lift1 {D : va_G} {A : Nat → Prop} {ws wc w1 : va_W} {H H1 : Heap} {is : List Nat} (hP : va_P D vwCl ws H) (hD : va_D A ws) (hC : is.map (fun i => ws[i]?) = wc.map some) (hf : w1.map Prod.fst = wc.map Prod.fst)
    (hk : ∀ q : Nat, q < H.size → ¬ va_A wc H.size q → H1[q]? = H[q]?) (hP1 : va_P D vwCl w1 H1) : va_P D vwCl (putW ws is w1) H1 ∧ va_D A (putW ws is w1) := by
  have hlen : is.length = w1.length := by
    have e1 : is.length = wc.length := by have := congrArg List.length hC; simpa using this
    have e2 : w1.length = wc.length := by have := congrArg List.length hf; simpa using this
    rw [e1, e2]
  refine ⟨fun k q hq => ?_, ?_⟩
  · rcases putW_get is w1 ws k q hlen hq with ⟨j, h1, h2⟩ | ⟨h1, h2⟩
    · exact hP1 j q h2
    · have hl := (hP k q h2).lt
      refine (hP k q h2).kept (hk q.1 hl (fun h => ?_))
      rcases h with ⟨k2, e, h⟩ | h
      · obtain ⟨j, h3, h4⟩ := at_map hC k2 (q.1, e) h
        have hij := hD.1 k j q (q.1, e) h2 h4 rfl
        subst hij
        exact h1 (List.mem_of_getElem? h3)
      · omega
  · refine va_D_fst (putW_fst is w1 ws (fun j i x h3 h4 => ?_)) hD
    obtain ⟨y, h5, h6⟩ := fst_at hf h4
    obtain ⟨i', h7, h8⟩ := at_map hC j y h5
    rw [h3] at h7
    cases h7
    exact ⟨y, h8, h6⟩
theorem sub_P {D : va_G} {ws wc : va_W} {H : Heap} {is : List Nat} (hP : va_P D vwCl ws H) (hC : is.map (fun i => ws[i]?) = wc.map some) : va_P D vwCl wc H := fun k q hq => by
  obtain ⟨i, _, h2⟩ := at_map hC k q hq
  exact hP i q h2
theorem sub_D {A : Nat → Prop} {ws wc : va_W} {is : List Nat} {sz : Nat} (hD : va_D A ws) (hn : va_nd is = true) (hC : is.map (fun i => ws[i]?) = wc.map some) : va_D (va_A wc sz) wc := (hD.sub is hn hC).self
/-- what a callee asks, out of the caller's world -/
theorem ho_sub {D : va_G} {T : List (ClassId × FieldType)} {A : Nat → Prop} {ws wc : va_W} {s U : State} {H : Heap} {is : List Nat} (hE : ev D T s) (hP : va_P D vwCl ws H) (hD : va_D A ws) (hn : va_nd is = true) (hC : is.map (fun i => ws[i]?) = wc.map some) (hU : U.heap = H) (hW : s.WarmedH U.vm) : ho D T (va_A wc H.size) wc U :=
  ⟨by rw [hU]; exact sub_P hP hC, ev_warm hW hE, sub_D hD hn hC, fun q h => Or.inr (by rw [hU] at h; exact h)⟩
section LAY
variable {p : Program} {l : Launch} {e : Env} {R : Room} {s : State} {m : MethodId} {args : Array Value} {below : List Frame} {meth : Method} {c : Code} {H : Heap} {locs : List Loc} {cells slots : Nat} {Q : State → Prop}
variable {y : MethodName} {bytes cc : ByteArray} {maxL nL n index pc : Nat} {ret : Option FieldType} {wy : List Cond} {rm : Room} {Ts : List Cond} {own C : String} {b : Addr} {As rest st0 : List Value} {ls : Array Slot} {D : va_G} {T : List (ClassId × FieldType)} {A : Nat → Prop} {ws wc w1 : va_W} {H0 : Heap}
variable {Qc : Array Value → State → Outcome → State → Prop}
/-- the runs: by invokevirtual, by invokestatic, of a nest mate -/
theorem rV (S : CallFix p m c cc nL s args Ts own) (hM : Met l y wy rm (va_Pc (.ref b :: As) (ho D T (va_A wc H.size) wc)) Qc 0 0 (va_A wc H.size)) (cw : CallW R s args own C index y bytes maxL ret wy rm 0 0 n)
    (hE : ev D T s) (hP : va_P D vwCl ws H) (hD : va_D A ws) (is : List Nat) (hn : va_nd is = true) (hC : is.map (fun i => ws[i]?) = wc.map some) {ci : Nat} {T0 : u_T} {N : Nat} {fs : List Value} (hc : vwCl[ci]? = some (C, T0, N)) (he : wc[0]? = some (b, .inr (ci, fs)))
    (hl : As.length = n) (hsize : ls.size = nL) (hst : st0 = As.reverse ++ .ref b :: rest) (hr : (rest.map fun v => v.category).sum ≤ 8) (hdg : decode cc pc = .ok (.invokevirtual index, 3)) (hf : cells ≤ R.cells ∧ slots ≤ R.slots) :
    va_Run p l e R s m args below meth c H locs cells slots 0 0 (F0 m pc ls st0) rest (Qc (Value.ref b :: As).toArray) (va_A wc H.size) :=
  va_runV S hM cw ⟨ho_blind, va_recv hE.1 (sub_P hP hC) hc he, fun _ hU hW => ⟨rfl, ho_sub hE hP hD hn hC hU hW⟩⟩ rfl hl hsize hst (lv_room hr) hdg hf
theorem rS (S : CallFix p m c cc nL s args Ts own) (hM : Met l y wy rm (va_Pc As (ho D T (va_A wc H.size) wc)) Qc 0 0 (va_A wc H.size)) (cw : CallB R s args own index y bytes maxL ret wy rm 0 0 n ∧ (Cond.static y).before args s = true)
    (hE : ev D T s) (hP : va_P D vwCl ws H) (hD : va_D A ws) (is : List Nat) (hn : va_nd is = true) (hC : is.map (fun i => ws[i]?) = wc.map some)
    (hl : As.length = n) (hsize : ls.size = nL) (hst : st0 = As.reverse ++ rest) (hr : (rest.map fun v => v.category).sum ≤ 8) (hdg : decode cc pc = .ok (.invokestatic index, 3)) (hf : cells ≤ R.cells ∧ slots ≤ R.slots) :
    va_Run p l e R s m args below meth c H locs cells slots 0 0 (F0 m pc ls st0) rest (Qc As.toArray) (va_A wc H.size) :=
  va_runS S hM cw ⟨ho_blind, fun _ hU hW => ⟨rfl, ho_sub hE hP hD hn hC hU hW⟩⟩ rfl hl hsize hst (lv_room hr) hdg hf
theorem rSN {host : String} (S : CallFix p m c cc nL s args Ts own) (hM : Met l y wy rm (va_Pc As (ho D T (va_A wc H.size) wc)) Qc 0 0 (va_A wc H.size)) (cw : va_CN R s args own index y host bytes maxL ret wy rm 0 0 n ∧ (Cond.static y).before args s = true ∧ True)
    (hE : ev D T s) (hP : va_P D vwCl ws H) (hD : va_D A ws) (is : List Nat) (hn : va_nd is = true) (hC : is.map (fun i => ws[i]?) = wc.map some)
    (hl : As.length = n) (hsize : ls.size = nL) (hst : st0 = As.reverse ++ rest) (hr : (rest.map fun v => v.category).sum ≤ 8) (hdg : decode cc pc = .ok (.invokestatic index, 3)) (hf : cells ≤ R.cells ∧ slots ≤ R.slots) :
    va_Run p l e R s m args below meth c H locs cells slots 0 0 (F0 m pc ls st0) rest (Qc As.toArray) (va_A wc H.size) :=
  va_runSN S hM cw ⟨ho_blind, fun _ hU hW => ⟨rfl, ho_sub hE hP hD hn hC hU hW⟩⟩ rfl hl hsize hst (lv_room hr) hdg hf
theorem free_A {is : List Nat} (hD : va_D A ws) (hS : va_S A H0 H locs) (hA : ∀ q, H0.size ≤ q → A q) (hC : is.map (fun i => ws[i]?) = wc.map some) : ∀ q, va_A wc H.size q → A q := va_free hD hS hA is hC
/-- behind the call: an int, a long, nothing -/
theorem kI {r : Int32} {a : Array Value} {is : List Nat} (hr : va_Run p l e R s m args below meth c H locs cells slots 0 0 (F0 m pc ls st0) rest (va_Qi (fun x (_ : Unit) => x = r) (fun _ t => hq D (va_A wc H.size) w1 t) (va_A wc H.size) a) (va_A wc H.size))
    (hP : va_P D vwCl ws H) (hD : va_D A ws) (hS : va_S A H0 H locs) (hA : ∀ q, H0.size ≤ q → A q) (hC : is.map (fun i => ws[i]?) = wc.map some) (hf : w1.map Prod.fst = wc.map Prod.fst)
    (kk : ∀ (H : Heap) (locs : List Loc), va_P D vwCl (putW ws is w1) H → va_D A (putW ws is w1) → va_S A H0 H locs → W p l e R s m args below meth c H locs cells slots Q (F0 m (pc + 3) ls (.int r :: rest))) : W p l e R s m args below meth c H locs cells slots Q (F0 m pc ls st0) :=
  va_calli hr hS (fun q _ h => free_A hD hS hA hC q h) (free_A hD hS hA hC) (fun r1 u t H1 locs1 ht _ hp hB _ hk hS1 => by
    subst hp
    obtain ⟨g1, g2⟩ := lift1 hP hD hC hf hk (by rw [← ht]; exact hB.1)
    exact kk H1 locs1 g1 g2 hS1)
theorem kL {r : Int64} {a : Array Value} {is : List Nat} (hr : va_Run p l e R s m args below meth c H locs cells slots 0 0 (F0 m pc ls st0) rest (va_Ql (fun x (_ : Unit) => x = r) (fun _ t => hq D (va_A wc H.size) w1 t) (va_A wc H.size) a) (va_A wc H.size))
    (hP : va_P D vwCl ws H) (hD : va_D A ws) (hS : va_S A H0 H locs) (hA : ∀ q, H0.size ≤ q → A q) (hC : is.map (fun i => ws[i]?) = wc.map some) (hf : w1.map Prod.fst = wc.map Prod.fst)
    (kk : ∀ (H : Heap) (locs : List Loc), va_P D vwCl (putW ws is w1) H → va_D A (putW ws is w1) → va_S A H0 H locs → W p l e R s m args below meth c H locs cells slots Q (F0 m (pc + 3) ls (.long r :: rest))) : W p l e R s m args below meth c H locs cells slots Q (F0 m pc ls st0) :=
  va_calll hr hS (fun q _ h => free_A hD hS hA hC q h) (free_A hD hS hA hC) (fun r1 u t H1 locs1 ht _ hp hB _ hk hS1 => by
    subst hp
    obtain ⟨g1, g2⟩ := lift1 hP hD hC hf hk (by rw [← ht]; exact hB.1)
    exact kk H1 locs1 g1 g2 hS1)
theorem kV {a : Array Value} {is : List Nat} (hr : va_Run p l e R s m args below meth c H locs cells slots 0 0 (F0 m pc ls st0) rest (va_Qv (fun (_ : Unit) => True) (fun _ t => hq D (va_A wc H.size) w1 t) (va_A wc H.size) a) (va_A wc H.size))
    (hP : va_P D vwCl ws H) (hD : va_D A ws) (hS : va_S A H0 H locs) (hA : ∀ q, H0.size ≤ q → A q) (hC : is.map (fun i => ws[i]?) = wc.map some) (hf : w1.map Prod.fst = wc.map Prod.fst)
    (kk : ∀ (H : Heap) (locs : List Loc), va_P D vwCl (putW ws is w1) H → va_D A (putW ws is w1) → va_S A H0 H locs → W p l e R s m args below meth c H locs cells slots Q (F0 m (pc + 3) ls rest)) : W p l e R s m args below meth c H locs cells slots Q (F0 m pc ls st0) :=
  va_callv hr hS (fun q _ h => free_A hD hS hA hC q h) (free_A hD hS hA hC) (fun u t H1 locs1 ht _ _ hB _ hk hS1 => by
    obtain ⟨g1, g2⟩ := lift1 hP hD hC hf hk (by rw [← ht]; exact hB.1)
    exact kk H1 locs1 g1 g2 hS1)
/-- the top of the stack by an equal number -/
theorem topI {x y : Int32} (h : x = y) (k : W p l e R s m args below meth c H locs cells slots Q (F0 m pc ls (.int y :: rest))) : W p l e R s m args below meth c H locs cells slots Q (F0 m pc ls (.int x :: rest)) := by rw [h]; exact k
theorem topL {x y : Int64} (h : x = y) (k : W p l e R s m args below meth c H locs cells slots Q (F0 m pc ls (.long y :: rest))) : W p l e R s m args below meth c H locs cells slots Q (F0 m pc ls (.long x :: rest)) := by rw [h]; exact k
end LAY
section LAY2
variable {p : Program} {l : Launch} {e : Env} {R : Room} {s : State} {m : MethodId} {args : Array Value} {below : List Frame} {meth : Method} {c : Code} {H : Heap} {locs : List Loc} {cells slots : Nat} {Q : State → Prop}
variable {cc : ByteArray} {pc : Nat} {a : Nat} {rest : List Value} {ls : Array Slot} {D : va_G} {cl : List vw_C} {tys : List (ClassId × FieldType)} {A : Nat → Prop} {ws : va_W} {H0 : Heap}
/-- a row read and written at a place that is a Nat -/
theorem ildN (hx : p.tables.exec = Jvm.exec) (hb : c.code = cc) (hK : va_K D cl tys s) (hP : va_P D cl ws H) (q0 t0 : Nat) {cA : ClassId} {n : Nat} {f : Nat → Int32} (ha : ws[q0]? = some (a, .inl (cA, n, .inl f))) (ht : tys[t0]? = some (cA, .int)) (j : Nat) (hj : j < n) (hn : n < 2147483648) (hdg : decode cc pc = .ok (.iaload, 1))
    (kk : W p l e R s m args below meth c H locs cells slots Q (F0 m (pc + 1) ls (.int (f j) :: rest))) : W p l e R s m args below meth c H locs cells slots Q (F0 m pc ls (.int (nI j) :: .ref a :: rest)) :=
  va_iald hx hb hK hP q0 t0 ha ht (vp_in_nI hj hn) hdg (by rw [nI_clamp (Nat.lt_trans hj hn)]; exact kk)
theorem lldN (hx : p.tables.exec = Jvm.exec) (hb : c.code = cc) (hK : va_K D cl tys s) (hP : va_P D cl ws H) (q0 t0 : Nat) {cA : ClassId} {n : Nat} {f : Nat → Int64} (ha : ws[q0]? = some (a, .inl (cA, n, .inr (.inl f)))) (ht : tys[t0]? = some (cA, .long)) (j : Nat) (hj : j < n) (hn : n < 2147483648) (hdg : decode cc pc = .ok (.laload, 1))
    (kk : W p l e R s m args below meth c H locs cells slots Q (F0 m (pc + 1) ls (.long (f j) :: rest))) : W p l e R s m args below meth c H locs cells slots Q (F0 m pc ls (.int (nI j) :: .ref a :: rest)) :=
  va_lald hx hb hK hP q0 t0 ha ht (vp_in_nI hj hn) hdg (by rw [nI_clamp (Nat.lt_trans hj hn)]; exact kk)
theorem aldN (hx : p.tables.exec = Jvm.exec) (hb : c.code = cc) (hK : va_K D cl tys s) (hP : va_P D cl ws H) (q0 t0 : Nat) {cA : ClassId} {C : String} {n : Nat} {f : Nat → Option Nat} (ha : ws[q0]? = some (a, .inl (cA, n, .inr (.inr (.inr (.inr f)))))) (ht : tys[t0]? = some (cA, .object C)) (j : Nat) (hj : j < n) (hn : n < 2147483648) {b : Nat} (hb2 : f j = some b) (hdg : decode cc pc = .ok (.aaload, 1))
    (kk : W p l e R s m args below meth c H locs cells slots Q (F0 m (pc + 1) ls (.ref b :: rest))) : W p l e R s m args below meth c H locs cells slots Q (F0 m pc ls (.int (nI j) :: .ref a :: rest)) :=
  va_aldq hx hb hK hP q0 t0 ha ht (vp_in_nI hj hn) hdg (by rw [nI_clamp (Nat.lt_trans hj hn), hb2]; exact kk)
theorem istN (hx : p.tables.exec = Jvm.exec) (hb : c.code = cc) (hK : va_K D cl tys s) (hP : va_P D cl ws H) (hD : va_D A ws) (hS : va_S A H0 H locs) (q0 t0 : Nat) {cA : ClassId} {n : Nat} {f : Nat → Int32} (ha : ws[q0]? = some (a, .inl (cA, n, .inl f))) (ht : tys[t0]? = some (cA, .int)) (j : Nat) {x : Int32} (hj : j < n) (hn : n < 2147483648) (hdg : decode cc pc = .ok (.iastore, 1))
    (kk : ∀ (H1 : Heap) (locs1 : List Loc), va_P D cl (ws.set q0 (a, .inl (cA, n, .inl (upd f j x)))) H1 → va_D A (ws.set q0 (a, .inl (cA, n, .inl (upd f j x)))) → va_S A H0 H1 locs1 → W p l e R s m args below meth c H1 locs1 cells slots Q (F0 m (pc + 1) ls rest)) : W p l e R s m args below meth c H locs cells slots Q (F0 m pc ls (.int x :: .int (nI j) :: .ref a :: rest)) :=
  va_iast hx hb hK hP hD hS q0 t0 ha ht (vp_in_nI hj hn) hdg (by rw [nI_clamp (Nat.lt_trans hj hn)]; exact kk)
theorem lstN (hx : p.tables.exec = Jvm.exec) (hb : c.code = cc) (hK : va_K D cl tys s) (hP : va_P D cl ws H) (hD : va_D A ws) (hS : va_S A H0 H locs) (q0 t0 : Nat) {cA : ClassId} {n : Nat} {f : Nat → Int64} (ha : ws[q0]? = some (a, .inl (cA, n, .inr (.inl f)))) (ht : tys[t0]? = some (cA, .long)) (j : Nat) {x : Int64} (hj : j < n) (hn : n < 2147483648) (hdg : decode cc pc = .ok (.lastore, 1))
    (kk : ∀ (H1 : Heap) (locs1 : List Loc), va_P D cl (ws.set q0 (a, .inl (cA, n, .inr (.inl (vp_updL f j x))))) H1 → va_D A (ws.set q0 (a, .inl (cA, n, .inr (.inl (vp_updL f j x))))) → va_S A H0 H1 locs1 → W p l e R s m args below meth c H1 locs1 cells slots Q (F0 m (pc + 1) ls rest)) : W p l e R s m args below meth c H locs cells slots Q (F0 m pc ls (.long x :: .int (nI j) :: .ref a :: rest)) :=
  va_last hx hb hK hP hD hS q0 t0 ha ht (vp_in_nI hj hn) hdg (by rw [nI_clamp (Nat.lt_trans hj hn)]; exact kk)
end LAY2
end
section
/-! ===== what a state is: rows of bytes, the interval, a model, the predictor, the class; the reference ===== -/
abbrev Row : Type := Nat × (Nat → Int32)
def q_c (u : Row) : Nat := u.1
def qs_c (u : Row) (x : Nat) : Row := (x, u.2)
def q_f (u : Row) : Nat → Int32 := u.2
def qs_f (u : Row) (x : Nat → Int32) : Row := (u.1, x)
theorem q_c_c (u : Row) (x : Nat) : q_c (qs_c u x) = x := rfl
theorem q_c_f (u : Row) (x : Nat → Int32) : q_c (qs_f u x) = q_c u := rfl
theorem q_f_c (u : Row) (x : Nat) : q_f (qs_c u x) = q_f u := rfl
theorem q_f_f (u : Row) (x : Nat → Int32) : q_f (qs_f u x) = x := rfl
abbrev Iv : Type := Int64 × Int64 × Int64 × Int32
def v_lo (u : Iv) : Int64 := u.1
def vs_lo (u : Iv) (x : Int64) : Iv := (x, u.2.1, u.2.2.1, u.2.2.2)
def v_hi (u : Iv) : Int64 := u.2.1
def vs_hi (u : Iv) (x : Int64) : Iv := (u.1, x, u.2.2.1, u.2.2.2)
def v_x (u : Iv) : Int64 := u.2.2.1
def vs_x (u : Iv) (x : Int64) : Iv := (u.1, u.2.1, x, u.2.2.2)
def v_nx (u : Iv) : Int32 := u.2.2.2
def vs_nx (u : Iv) (x : Int32) : Iv := (u.1, u.2.1, u.2.2.1, x)
theorem v_lo_lo (u : Iv) (x : Int64) : v_lo (vs_lo u x) = x := rfl
theorem v_lo_hi (u : Iv) (x : Int64) : v_lo (vs_hi u x) = v_lo u := rfl
theorem v_lo_x (u : Iv) (x : Int64) : v_lo (vs_x u x) = v_lo u := rfl
theorem v_lo_nx (u : Iv) (x : Int32) : v_lo (vs_nx u x) = v_lo u := rfl
theorem v_hi_lo (u : Iv) (x : Int64) : v_hi (vs_lo u x) = v_hi u := rfl
theorem v_hi_hi (u : Iv) (x : Int64) : v_hi (vs_hi u x) = x := rfl
theorem v_hi_x (u : Iv) (x : Int64) : v_hi (vs_x u x) = v_hi u := rfl
theorem v_hi_nx (u : Iv) (x : Int32) : v_hi (vs_nx u x) = v_hi u := rfl
theorem v_x_lo (u : Iv) (x : Int64) : v_x (vs_lo u x) = v_x u := rfl
theorem v_x_hi (u : Iv) (x : Int64) : v_x (vs_hi u x) = v_x u := rfl
theorem v_x_x (u : Iv) (x : Int64) : v_x (vs_x u x) = x := rfl
theorem v_x_nx (u : Iv) (x : Int32) : v_x (vs_nx u x) = v_x u := rfl
theorem v_nx_lo (u : Iv) (x : Int64) : v_nx (vs_lo u x) = v_nx u := rfl
theorem v_nx_hi (u : Iv) (x : Int64) : v_nx (vs_hi u x) = v_nx u := rfl
theorem v_nx_x (u : Iv) (x : Int64) : v_nx (vs_x u x) = v_nx u := rfl
theorem v_nx_nx (u : Iv) (x : Int32) : v_nx (vs_nx u x) = x := rfl
abbrev Mo : Type := Int32 × Int32 × Int32 × (Nat → Int32) × (Nat → Int64) × (Nat → Int32) × Int32 × Int32 × Int64 × Int32
def o_od (u : Mo) : Int32 := u.1
def os_od (u : Mo) (x : Int32) : Mo := (x, u.2.1, u.2.2.1, u.2.2.2.1, u.2.2.2.2.1, u.2.2.2.2.2.1, u.2.2.2.2.2.2.1, u.2.2.2.2.2.2.2.1, u.2.2.2.2.2.2.2.2.1, u.2.2.2.2.2.2.2.2.2)
def o_rt (u : Mo) : Int32 := u.2.1
def os_rt (u : Mo) (x : Int32) : Mo := (u.1, x, u.2.2.1, u.2.2.2.1, u.2.2.2.2.1, u.2.2.2.2.2.1, u.2.2.2.2.2.2.1, u.2.2.2.2.2.2.2.1, u.2.2.2.2.2.2.2.2.1, u.2.2.2.2.2.2.2.2.2)
def o_t (u : Mo) : Int32 := u.2.2.1
def os_t (u : Mo) (x : Int32) : Mo := (u.1, u.2.1, x, u.2.2.2.1, u.2.2.2.2.1, u.2.2.2.2.2.1, u.2.2.2.2.2.2.1, u.2.2.2.2.2.2.2.1, u.2.2.2.2.2.2.2.2.1, u.2.2.2.2.2.2.2.2.2)
def o_co (u : Mo) : Nat → Int32 := u.2.2.2.1
def os_co (u : Mo) (x : Nat → Int32) : Mo := (u.1, u.2.1, u.2.2.1, x, u.2.2.2.2.1, u.2.2.2.2.2.1, u.2.2.2.2.2.2.1, u.2.2.2.2.2.2.2.1, u.2.2.2.2.2.2.2.2.1, u.2.2.2.2.2.2.2.2.2)
def o_se (u : Mo) : Nat → Int64 := u.2.2.2.2.1
def os_se (u : Mo) (x : Nat → Int64) : Mo := (u.1, u.2.1, u.2.2.1, u.2.2.2.1, x, u.2.2.2.2.2.1, u.2.2.2.2.2.2.1, u.2.2.2.2.2.2.2.1, u.2.2.2.2.2.2.2.2.1, u.2.2.2.2.2.2.2.2.2)
def o_we (u : Mo) : Nat → Int32 := u.2.2.2.2.2.1
def os_we (u : Mo) (x : Nat → Int32) : Mo := (u.1, u.2.1, u.2.2.1, u.2.2.2.1, u.2.2.2.2.1, x, u.2.2.2.2.2.2.1, u.2.2.2.2.2.2.2.1, u.2.2.2.2.2.2.2.2.1, u.2.2.2.2.2.2.2.2.2)
def o_cn (u : Mo) : Int32 := u.2.2.2.2.2.2.1
def os_cn (u : Mo) (x : Int32) : Mo := (u.1, u.2.1, u.2.2.1, u.2.2.2.1, u.2.2.2.2.1, u.2.2.2.2.2.1, x, u.2.2.2.2.2.2.2.1, u.2.2.2.2.2.2.2.2.1, u.2.2.2.2.2.2.2.2.2)
def o_cx (u : Mo) : Int32 := u.2.2.2.2.2.2.2.1
def os_cx (u : Mo) (x : Int32) : Mo := (u.1, u.2.1, u.2.2.1, u.2.2.2.1, u.2.2.2.2.1, u.2.2.2.2.2.1, u.2.2.2.2.2.2.1, x, u.2.2.2.2.2.2.2.2.1, u.2.2.2.2.2.2.2.2.2)
def o_si (u : Mo) : Int64 := u.2.2.2.2.2.2.2.2.1
def os_si (u : Mo) (x : Int64) : Mo := (u.1, u.2.1, u.2.2.1, u.2.2.2.1, u.2.2.2.2.1, u.2.2.2.2.2.1, u.2.2.2.2.2.2.1, u.2.2.2.2.2.2.2.1, x, u.2.2.2.2.2.2.2.2.2)
def o_pl (u : Mo) : Int32 := u.2.2.2.2.2.2.2.2.2
def os_pl (u : Mo) (x : Int32) : Mo := (u.1, u.2.1, u.2.2.1, u.2.2.2.1, u.2.2.2.2.1, u.2.2.2.2.2.1, u.2.2.2.2.2.2.1, u.2.2.2.2.2.2.2.1, u.2.2.2.2.2.2.2.2.1, x)
theorem o_od_od (u : Mo) (x : Int32) : o_od (os_od u x) = x := rfl
theorem o_od_rt (u : Mo) (x : Int32) : o_od (os_rt u x) = o_od u := rfl
theorem o_od_t (u : Mo) (x : Int32) : o_od (os_t u x) = o_od u := rfl
theorem o_od_co (u : Mo) (x : Nat → Int32) : o_od (os_co u x) = o_od u := rfl
theorem o_od_se (u : Mo) (x : Nat → Int64) : o_od (os_se u x) = o_od u := rfl
theorem o_od_we (u : Mo) (x : Nat → Int32) : o_od (os_we u x) = o_od u := rfl
theorem o_od_cn (u : Mo) (x : Int32) : o_od (os_cn u x) = o_od u := rfl
theorem o_od_cx (u : Mo) (x : Int32) : o_od (os_cx u x) = o_od u := rfl
theorem o_od_si (u : Mo) (x : Int64) : o_od (os_si u x) = o_od u := rfl
theorem o_od_pl (u : Mo) (x : Int32) : o_od (os_pl u x) = o_od u := rfl
theorem o_rt_od (u : Mo) (x : Int32) : o_rt (os_od u x) = o_rt u := rfl
theorem o_rt_rt (u : Mo) (x : Int32) : o_rt (os_rt u x) = x := rfl
theorem o_rt_t (u : Mo) (x : Int32) : o_rt (os_t u x) = o_rt u := rfl
theorem o_rt_co (u : Mo) (x : Nat → Int32) : o_rt (os_co u x) = o_rt u := rfl
theorem o_rt_se (u : Mo) (x : Nat → Int64) : o_rt (os_se u x) = o_rt u := rfl
theorem o_rt_we (u : Mo) (x : Nat → Int32) : o_rt (os_we u x) = o_rt u := rfl
theorem o_rt_cn (u : Mo) (x : Int32) : o_rt (os_cn u x) = o_rt u := rfl
theorem o_rt_cx (u : Mo) (x : Int32) : o_rt (os_cx u x) = o_rt u := rfl
theorem o_rt_si (u : Mo) (x : Int64) : o_rt (os_si u x) = o_rt u := rfl
theorem o_rt_pl (u : Mo) (x : Int32) : o_rt (os_pl u x) = o_rt u := rfl
theorem o_t_od (u : Mo) (x : Int32) : o_t (os_od u x) = o_t u := rfl
theorem o_t_rt (u : Mo) (x : Int32) : o_t (os_rt u x) = o_t u := rfl
theorem o_t_t (u : Mo) (x : Int32) : o_t (os_t u x) = x := rfl
theorem o_t_co (u : Mo) (x : Nat → Int32) : o_t (os_co u x) = o_t u := rfl
theorem o_t_se (u : Mo) (x : Nat → Int64) : o_t (os_se u x) = o_t u := rfl
theorem o_t_we (u : Mo) (x : Nat → Int32) : o_t (os_we u x) = o_t u := rfl
theorem o_t_cn (u : Mo) (x : Int32) : o_t (os_cn u x) = o_t u := rfl
theorem o_t_cx (u : Mo) (x : Int32) : o_t (os_cx u x) = o_t u := rfl
theorem o_t_si (u : Mo) (x : Int64) : o_t (os_si u x) = o_t u := rfl
theorem o_t_pl (u : Mo) (x : Int32) : o_t (os_pl u x) = o_t u := rfl
theorem o_co_od (u : Mo) (x : Int32) : o_co (os_od u x) = o_co u := rfl
theorem o_co_rt (u : Mo) (x : Int32) : o_co (os_rt u x) = o_co u := rfl
theorem o_co_t (u : Mo) (x : Int32) : o_co (os_t u x) = o_co u := rfl
theorem o_co_co (u : Mo) (x : Nat → Int32) : o_co (os_co u x) = x := rfl
theorem o_co_se (u : Mo) (x : Nat → Int64) : o_co (os_se u x) = o_co u := rfl
theorem o_co_we (u : Mo) (x : Nat → Int32) : o_co (os_we u x) = o_co u := rfl
theorem o_co_cn (u : Mo) (x : Int32) : o_co (os_cn u x) = o_co u := rfl
theorem o_co_cx (u : Mo) (x : Int32) : o_co (os_cx u x) = o_co u := rfl
theorem o_co_si (u : Mo) (x : Int64) : o_co (os_si u x) = o_co u := rfl
theorem o_co_pl (u : Mo) (x : Int32) : o_co (os_pl u x) = o_co u := rfl
theorem o_se_od (u : Mo) (x : Int32) : o_se (os_od u x) = o_se u := rfl
theorem o_se_rt (u : Mo) (x : Int32) : o_se (os_rt u x) = o_se u := rfl
theorem o_se_t (u : Mo) (x : Int32) : o_se (os_t u x) = o_se u := rfl
theorem o_se_co (u : Mo) (x : Nat → Int32) : o_se (os_co u x) = o_se u := rfl
theorem o_se_se (u : Mo) (x : Nat → Int64) : o_se (os_se u x) = x := rfl
theorem o_se_we (u : Mo) (x : Nat → Int32) : o_se (os_we u x) = o_se u := rfl
theorem o_se_cn (u : Mo) (x : Int32) : o_se (os_cn u x) = o_se u := rfl
theorem o_se_cx (u : Mo) (x : Int32) : o_se (os_cx u x) = o_se u := rfl
theorem o_se_si (u : Mo) (x : Int64) : o_se (os_si u x) = o_se u := rfl
theorem o_se_pl (u : Mo) (x : Int32) : o_se (os_pl u x) = o_se u := rfl
theorem o_we_od (u : Mo) (x : Int32) : o_we (os_od u x) = o_we u := rfl
theorem o_we_rt (u : Mo) (x : Int32) : o_we (os_rt u x) = o_we u := rfl
theorem o_we_t (u : Mo) (x : Int32) : o_we (os_t u x) = o_we u := rfl
theorem o_we_co (u : Mo) (x : Nat → Int32) : o_we (os_co u x) = o_we u := rfl
theorem o_we_se (u : Mo) (x : Nat → Int64) : o_we (os_se u x) = o_we u := rfl
theorem o_we_we (u : Mo) (x : Nat → Int32) : o_we (os_we u x) = x := rfl
theorem o_we_cn (u : Mo) (x : Int32) : o_we (os_cn u x) = o_we u := rfl
theorem o_we_cx (u : Mo) (x : Int32) : o_we (os_cx u x) = o_we u := rfl
theorem o_we_si (u : Mo) (x : Int64) : o_we (os_si u x) = o_we u := rfl
theorem o_we_pl (u : Mo) (x : Int32) : o_we (os_pl u x) = o_we u := rfl
theorem o_cn_od (u : Mo) (x : Int32) : o_cn (os_od u x) = o_cn u := rfl
theorem o_cn_rt (u : Mo) (x : Int32) : o_cn (os_rt u x) = o_cn u := rfl
theorem o_cn_t (u : Mo) (x : Int32) : o_cn (os_t u x) = o_cn u := rfl
theorem o_cn_co (u : Mo) (x : Nat → Int32) : o_cn (os_co u x) = o_cn u := rfl
theorem o_cn_se (u : Mo) (x : Nat → Int64) : o_cn (os_se u x) = o_cn u := rfl
theorem o_cn_we (u : Mo) (x : Nat → Int32) : o_cn (os_we u x) = o_cn u := rfl
theorem o_cn_cn (u : Mo) (x : Int32) : o_cn (os_cn u x) = x := rfl
theorem o_cn_cx (u : Mo) (x : Int32) : o_cn (os_cx u x) = o_cn u := rfl
theorem o_cn_si (u : Mo) (x : Int64) : o_cn (os_si u x) = o_cn u := rfl
theorem o_cn_pl (u : Mo) (x : Int32) : o_cn (os_pl u x) = o_cn u := rfl
theorem o_cx_od (u : Mo) (x : Int32) : o_cx (os_od u x) = o_cx u := rfl
theorem o_cx_rt (u : Mo) (x : Int32) : o_cx (os_rt u x) = o_cx u := rfl
theorem o_cx_t (u : Mo) (x : Int32) : o_cx (os_t u x) = o_cx u := rfl
theorem o_cx_co (u : Mo) (x : Nat → Int32) : o_cx (os_co u x) = o_cx u := rfl
theorem o_cx_se (u : Mo) (x : Nat → Int64) : o_cx (os_se u x) = o_cx u := rfl
theorem o_cx_we (u : Mo) (x : Nat → Int32) : o_cx (os_we u x) = o_cx u := rfl
theorem o_cx_cn (u : Mo) (x : Int32) : o_cx (os_cn u x) = o_cx u := rfl
theorem o_cx_cx (u : Mo) (x : Int32) : o_cx (os_cx u x) = x := rfl
theorem o_cx_si (u : Mo) (x : Int64) : o_cx (os_si u x) = o_cx u := rfl
theorem o_cx_pl (u : Mo) (x : Int32) : o_cx (os_pl u x) = o_cx u := rfl
theorem o_si_od (u : Mo) (x : Int32) : o_si (os_od u x) = o_si u := rfl
theorem o_si_rt (u : Mo) (x : Int32) : o_si (os_rt u x) = o_si u := rfl
theorem o_si_t (u : Mo) (x : Int32) : o_si (os_t u x) = o_si u := rfl
theorem o_si_co (u : Mo) (x : Nat → Int32) : o_si (os_co u x) = o_si u := rfl
theorem o_si_se (u : Mo) (x : Nat → Int64) : o_si (os_se u x) = o_si u := rfl
theorem o_si_we (u : Mo) (x : Nat → Int32) : o_si (os_we u x) = o_si u := rfl
theorem o_si_cn (u : Mo) (x : Int32) : o_si (os_cn u x) = o_si u := rfl
theorem o_si_cx (u : Mo) (x : Int32) : o_si (os_cx u x) = o_si u := rfl
theorem o_si_si (u : Mo) (x : Int64) : o_si (os_si u x) = x := rfl
theorem o_si_pl (u : Mo) (x : Int32) : o_si (os_pl u x) = o_si u := rfl
theorem o_pl_od (u : Mo) (x : Int32) : o_pl (os_od u x) = o_pl u := rfl
theorem o_pl_rt (u : Mo) (x : Int32) : o_pl (os_rt u x) = o_pl u := rfl
theorem o_pl_t (u : Mo) (x : Int32) : o_pl (os_t u x) = o_pl u := rfl
theorem o_pl_co (u : Mo) (x : Nat → Int32) : o_pl (os_co u x) = o_pl u := rfl
theorem o_pl_se (u : Mo) (x : Nat → Int64) : o_pl (os_se u x) = o_pl u := rfl
theorem o_pl_we (u : Mo) (x : Nat → Int32) : o_pl (os_we u x) = o_pl u := rfl
theorem o_pl_cn (u : Mo) (x : Int32) : o_pl (os_cn u x) = o_pl u := rfl
theorem o_pl_cx (u : Mo) (x : Int32) : o_pl (os_cx u x) = o_pl u := rfl
theorem o_pl_si (u : Mo) (x : Int64) : o_pl (os_si u x) = o_pl u := rfl
theorem o_pl_pl (u : Mo) (x : Int32) : o_pl (os_pl u x) = x := rfl
abbrev Pr : Type := (Nat → Mo) × Nat × (Nat → Int32) × Nat × Int32 × Int32 × Int64
def k_mo (u : Pr) : Nat → Mo := u.1
def ks_mo (u : Pr) (x : Nat → Mo) : Pr := (x, u.2.1, u.2.2.1, u.2.2.2.1, u.2.2.2.2.1, u.2.2.2.2.2.1, u.2.2.2.2.2.2)
def k_n (u : Pr) : Nat := u.2.1
def ks_n (u : Pr) (x : Nat) : Pr := (u.1, x, u.2.2.1, u.2.2.2.1, u.2.2.2.2.1, u.2.2.2.2.2.1, u.2.2.2.2.2.2)
def k_la (u : Pr) : Nat → Int32 := u.2.2.1
def ks_la (u : Pr) (x : Nat → Int32) : Pr := (u.1, u.2.1, x, u.2.2.2.1, u.2.2.2.2.1, u.2.2.2.2.2.1, u.2.2.2.2.2.2)
def k_nd (u : Pr) : Nat := u.2.2.2.1
def ks_nd (u : Pr) (x : Nat) : Pr := (u.1, u.2.1, u.2.2.1, x, u.2.2.2.2.1, u.2.2.2.2.2.1, u.2.2.2.2.2.2)
def k_ph (u : Pr) : Int32 := u.2.2.2.2.1
def ks_ph (u : Pr) (x : Int32) : Pr := (u.1, u.2.1, u.2.2.1, u.2.2.2.1, x, u.2.2.2.2.2.1, u.2.2.2.2.2.2)
def k_bt (u : Pr) : Int32 := u.2.2.2.2.2.1
def ks_bt (u : Pr) (x : Int32) : Pr := (u.1, u.2.1, u.2.2.1, u.2.2.2.1, u.2.2.2.2.1, x, u.2.2.2.2.2.2)
def k_er (u : Pr) : Int64 := u.2.2.2.2.2.2
def ks_er (u : Pr) (x : Int64) : Pr := (u.1, u.2.1, u.2.2.1, u.2.2.2.1, u.2.2.2.2.1, u.2.2.2.2.2.1, x)
theorem k_mo_mo (u : Pr) (x : Nat → Mo) : k_mo (ks_mo u x) = x := rfl
theorem k_mo_n (u : Pr) (x : Nat) : k_mo (ks_n u x) = k_mo u := rfl
theorem k_mo_la (u : Pr) (x : Nat → Int32) : k_mo (ks_la u x) = k_mo u := rfl
theorem k_mo_nd (u : Pr) (x : Nat) : k_mo (ks_nd u x) = k_mo u := rfl
theorem k_mo_ph (u : Pr) (x : Int32) : k_mo (ks_ph u x) = k_mo u := rfl
theorem k_mo_bt (u : Pr) (x : Int32) : k_mo (ks_bt u x) = k_mo u := rfl
theorem k_mo_er (u : Pr) (x : Int64) : k_mo (ks_er u x) = k_mo u := rfl
theorem k_n_mo (u : Pr) (x : Nat → Mo) : k_n (ks_mo u x) = k_n u := rfl
theorem k_n_n (u : Pr) (x : Nat) : k_n (ks_n u x) = x := rfl
theorem k_n_la (u : Pr) (x : Nat → Int32) : k_n (ks_la u x) = k_n u := rfl
theorem k_n_nd (u : Pr) (x : Nat) : k_n (ks_nd u x) = k_n u := rfl
theorem k_n_ph (u : Pr) (x : Int32) : k_n (ks_ph u x) = k_n u := rfl
theorem k_n_bt (u : Pr) (x : Int32) : k_n (ks_bt u x) = k_n u := rfl
theorem k_n_er (u : Pr) (x : Int64) : k_n (ks_er u x) = k_n u := rfl
theorem k_la_mo (u : Pr) (x : Nat → Mo) : k_la (ks_mo u x) = k_la u := rfl
theorem k_la_n (u : Pr) (x : Nat) : k_la (ks_n u x) = k_la u := rfl
theorem k_la_la (u : Pr) (x : Nat → Int32) : k_la (ks_la u x) = x := rfl
theorem k_la_nd (u : Pr) (x : Nat) : k_la (ks_nd u x) = k_la u := rfl
theorem k_la_ph (u : Pr) (x : Int32) : k_la (ks_ph u x) = k_la u := rfl
theorem k_la_bt (u : Pr) (x : Int32) : k_la (ks_bt u x) = k_la u := rfl
theorem k_la_er (u : Pr) (x : Int64) : k_la (ks_er u x) = k_la u := rfl
theorem k_nd_mo (u : Pr) (x : Nat → Mo) : k_nd (ks_mo u x) = k_nd u := rfl
theorem k_nd_n (u : Pr) (x : Nat) : k_nd (ks_n u x) = k_nd u := rfl
theorem k_nd_la (u : Pr) (x : Nat → Int32) : k_nd (ks_la u x) = k_nd u := rfl
theorem k_nd_nd (u : Pr) (x : Nat) : k_nd (ks_nd u x) = x := rfl
theorem k_nd_ph (u : Pr) (x : Int32) : k_nd (ks_ph u x) = k_nd u := rfl
theorem k_nd_bt (u : Pr) (x : Int32) : k_nd (ks_bt u x) = k_nd u := rfl
theorem k_nd_er (u : Pr) (x : Int64) : k_nd (ks_er u x) = k_nd u := rfl
theorem k_ph_mo (u : Pr) (x : Nat → Mo) : k_ph (ks_mo u x) = k_ph u := rfl
theorem k_ph_n (u : Pr) (x : Nat) : k_ph (ks_n u x) = k_ph u := rfl
theorem k_ph_la (u : Pr) (x : Nat → Int32) : k_ph (ks_la u x) = k_ph u := rfl
theorem k_ph_nd (u : Pr) (x : Nat) : k_ph (ks_nd u x) = k_ph u := rfl
theorem k_ph_ph (u : Pr) (x : Int32) : k_ph (ks_ph u x) = x := rfl
theorem k_ph_bt (u : Pr) (x : Int32) : k_ph (ks_bt u x) = k_ph u := rfl
theorem k_ph_er (u : Pr) (x : Int64) : k_ph (ks_er u x) = k_ph u := rfl
theorem k_bt_mo (u : Pr) (x : Nat → Mo) : k_bt (ks_mo u x) = k_bt u := rfl
theorem k_bt_n (u : Pr) (x : Nat) : k_bt (ks_n u x) = k_bt u := rfl
theorem k_bt_la (u : Pr) (x : Nat → Int32) : k_bt (ks_la u x) = k_bt u := rfl
theorem k_bt_nd (u : Pr) (x : Nat) : k_bt (ks_nd u x) = k_bt u := rfl
theorem k_bt_ph (u : Pr) (x : Int32) : k_bt (ks_ph u x) = k_bt u := rfl
theorem k_bt_bt (u : Pr) (x : Int32) : k_bt (ks_bt u x) = x := rfl
theorem k_bt_er (u : Pr) (x : Int64) : k_bt (ks_er u x) = k_bt u := rfl
theorem k_er_mo (u : Pr) (x : Nat → Mo) : k_er (ks_mo u x) = k_er u := rfl
theorem k_er_n (u : Pr) (x : Nat) : k_er (ks_n u x) = k_er u := rfl
theorem k_er_la (u : Pr) (x : Nat → Int32) : k_er (ks_la u x) = k_er u := rfl
theorem k_er_nd (u : Pr) (x : Nat) : k_er (ks_nd u x) = k_er u := rfl
theorem k_er_ph (u : Pr) (x : Int32) : k_er (ks_ph u x) = k_er u := rfl
theorem k_er_bt (u : Pr) (x : Int32) : k_er (ks_bt u x) = k_er u := rfl
theorem k_er_er (u : Pr) (x : Int64) : k_er (ks_er u x) = x := rfl
abbrev Mx : Type := Row × Row × Row × Pr × Iv
def x_tx (u : Mx) : Row := u.1
def xs_tx (u : Mx) (x : Row) : Mx := (x, u.2.1, u.2.2.1, u.2.2.2.1, u.2.2.2.2)
def x_en (u : Mx) : Row := u.2.1
def xs_en (u : Mx) (x : Row) : Mx := (u.1, x, u.2.2.1, u.2.2.2.1, u.2.2.2.2)
def x_de (u : Mx) : Row := u.2.2.1
def xs_de (u : Mx) (x : Row) : Mx := (u.1, u.2.1, x, u.2.2.2.1, u.2.2.2.2)
def x_pr (u : Mx) : Pr := u.2.2.2.1
def xs_pr (u : Mx) (x : Pr) : Mx := (u.1, u.2.1, u.2.2.1, x, u.2.2.2.2)
def x_iv (u : Mx) : Iv := u.2.2.2.2
def xs_iv (u : Mx) (x : Iv) : Mx := (u.1, u.2.1, u.2.2.1, u.2.2.2.1, x)
theorem x_tx_tx (u : Mx) (x : Row) : x_tx (xs_tx u x) = x := rfl
theorem x_tx_en (u : Mx) (x : Row) : x_tx (xs_en u x) = x_tx u := rfl
theorem x_tx_de (u : Mx) (x : Row) : x_tx (xs_de u x) = x_tx u := rfl
theorem x_tx_pr (u : Mx) (x : Pr) : x_tx (xs_pr u x) = x_tx u := rfl
theorem x_tx_iv (u : Mx) (x : Iv) : x_tx (xs_iv u x) = x_tx u := rfl
theorem x_en_tx (u : Mx) (x : Row) : x_en (xs_tx u x) = x_en u := rfl
theorem x_en_en (u : Mx) (x : Row) : x_en (xs_en u x) = x := rfl
theorem x_en_de (u : Mx) (x : Row) : x_en (xs_de u x) = x_en u := rfl
theorem x_en_pr (u : Mx) (x : Pr) : x_en (xs_pr u x) = x_en u := rfl
theorem x_en_iv (u : Mx) (x : Iv) : x_en (xs_iv u x) = x_en u := rfl
theorem x_de_tx (u : Mx) (x : Row) : x_de (xs_tx u x) = x_de u := rfl
theorem x_de_en (u : Mx) (x : Row) : x_de (xs_en u x) = x_de u := rfl
theorem x_de_de (u : Mx) (x : Row) : x_de (xs_de u x) = x := rfl
theorem x_de_pr (u : Mx) (x : Pr) : x_de (xs_pr u x) = x_de u := rfl
theorem x_de_iv (u : Mx) (x : Iv) : x_de (xs_iv u x) = x_de u := rfl
theorem x_pr_tx (u : Mx) (x : Row) : x_pr (xs_tx u x) = x_pr u := rfl
theorem x_pr_en (u : Mx) (x : Row) : x_pr (xs_en u x) = x_pr u := rfl
theorem x_pr_de (u : Mx) (x : Row) : x_pr (xs_de u x) = x_pr u := rfl
theorem x_pr_pr (u : Mx) (x : Pr) : x_pr (xs_pr u x) = x := rfl
theorem x_pr_iv (u : Mx) (x : Iv) : x_pr (xs_iv u x) = x_pr u := rfl
theorem x_iv_tx (u : Mx) (x : Row) : x_iv (xs_tx u x) = x_iv u := rfl
theorem x_iv_en (u : Mx) (x : Row) : x_iv (xs_en u x) = x_iv u := rfl
theorem x_iv_de (u : Mx) (x : Row) : x_iv (xs_de u x) = x_iv u := rfl
theorem x_iv_pr (u : Mx) (x : Pr) : x_iv (xs_pr u x) = x_iv u := rfl
theorem x_iv_iv (u : Mx) (x : Iv) : x_iv (xs_iv u x) = x := rfl
abbrev RS : Type := Int32 × Nat × (Nat → Int32) × (Nat → Int32) × (Nat → Int32) × Nat × (Nat → Int32) × (Nat → Int32) × (Nat → Int32) × (Nat → Int32) × (Nat → Int32) × (Nat → Int32) × (Nat → Int32) × Nat × Int32 × Int64 × Nat × (Nat → Int32) × Nat × (Nat → Int32) × Int64 × Int64
def r_th (u : RS) : Int32 := u.1
def rs_th (u : RS) (x : Int32) : RS := (x, u.2.1, u.2.2.1, u.2.2.2.1, u.2.2.2.2.1, u.2.2.2.2.2.1, u.2.2.2.2.2.2.1, u.2.2.2.2.2.2.2.1, u.2.2.2.2.2.2.2.2.1, u.2.2.2.2.2.2.2.2.2.1, u.2.2.2.2.2.2.2.2.2.2.1, u.2.2.2.2.2.2.2.2.2.2.2.1, u.2.2.2.2.2.2.2.2.2.2.2.2.1, u.2.2.2.2.2.2.2.2.2.2.2.2.2.1, u.2.2.2.2.2.2.2.2.2.2.2.2.2.2.1, u.2.2.2.2.2.2.2.2.2.2.2.2.2.2.2.1, u.2.2.2.2.2.2.2.2.2.2.2.2.2.2.2.2.1, u.2.2.2.2.2.2.2.2.2.2.2.2.2.2.2.2.2.1, u.2.2.2.2.2.2.2.2.2.2.2.2.2.2.2.2.2.2.1, u.2.2.2.2.2.2.2.2.2.2.2.2.2.2.2.2.2.2.2.1, u.2.2.2.2.2.2.2.2.2.2.2.2.2.2.2.2.2.2.2.2.1, u.2.2.2.2.2.2.2.2.2.2.2.2.2.2.2.2.2.2.2.2.2)
def r_n (u : RS) : Nat := u.2.1
def rs_n (u : RS) (x : Nat) : RS := (u.1, x, u.2.2.1, u.2.2.2.1, u.2.2.2.2.1, u.2.2.2.2.2.1, u.2.2.2.2.2.2.1, u.2.2.2.2.2.2.2.1, u.2.2.2.2.2.2.2.2.1, u.2.2.2.2.2.2.2.2.2.1, u.2.2.2.2.2.2.2.2.2.2.1, u.2.2.2.2.2.2.2.2.2.2.2.1, u.2.2.2.2.2.2.2.2.2.2.2.2.1, u.2.2.2.2.2.2.2.2.2.2.2.2.2.1, u.2.2.2.2.2.2.2.2.2.2.2.2.2.2.1, u.2.2.2.2.2.2.2.2.2.2.2.2.2.2.2.1, u.2.2.2.2.2.2.2.2.2.2.2.2.2.2.2.2.1, u.2.2.2.2.2.2.2.2.2.2.2.2.2.2.2.2.2.1, u.2.2.2.2.2.2.2.2.2.2.2.2.2.2.2.2.2.2.1, u.2.2.2.2.2.2.2.2.2.2.2.2.2.2.2.2.2.2.2.1, u.2.2.2.2.2.2.2.2.2.2.2.2.2.2.2.2.2.2.2.2.1, u.2.2.2.2.2.2.2.2.2.2.2.2.2.2.2.2.2.2.2.2.2)
def r_od (u : RS) : Nat → Int32 := u.2.2.1
def rs_od (u : RS) (x : Nat → Int32) : RS := (u.1, u.2.1, x, u.2.2.2.1, u.2.2.2.2.1, u.2.2.2.2.2.1, u.2.2.2.2.2.2.1, u.2.2.2.2.2.2.2.1, u.2.2.2.2.2.2.2.2.1, u.2.2.2.2.2.2.2.2.2.1, u.2.2.2.2.2.2.2.2.2.2.1, u.2.2.2.2.2.2.2.2.2.2.2.1, u.2.2.2.2.2.2.2.2.2.2.2.2.1, u.2.2.2.2.2.2.2.2.2.2.2.2.2.1, u.2.2.2.2.2.2.2.2.2.2.2.2.2.2.1, u.2.2.2.2.2.2.2.2.2.2.2.2.2.2.2.1, u.2.2.2.2.2.2.2.2.2.2.2.2.2.2.2.2.1, u.2.2.2.2.2.2.2.2.2.2.2.2.2.2.2.2.2.1, u.2.2.2.2.2.2.2.2.2.2.2.2.2.2.2.2.2.2.1, u.2.2.2.2.2.2.2.2.2.2.2.2.2.2.2.2.2.2.2.1, u.2.2.2.2.2.2.2.2.2.2.2.2.2.2.2.2.2.2.2.2.1, u.2.2.2.2.2.2.2.2.2.2.2.2.2.2.2.2.2.2.2.2.2)
def r_ra (u : RS) : Nat → Int32 := u.2.2.2.1
def rs_ra (u : RS) (x : Nat → Int32) : RS := (u.1, u.2.1, u.2.2.1, x, u.2.2.2.2.1, u.2.2.2.2.2.1, u.2.2.2.2.2.2.1, u.2.2.2.2.2.2.2.1, u.2.2.2.2.2.2.2.2.1, u.2.2.2.2.2.2.2.2.2.1, u.2.2.2.2.2.2.2.2.2.2.1, u.2.2.2.2.2.2.2.2.2.2.2.1, u.2.2.2.2.2.2.2.2.2.2.2.2.1, u.2.2.2.2.2.2.2.2.2.2.2.2.2.1, u.2.2.2.2.2.2.2.2.2.2.2.2.2.2.1, u.2.2.2.2.2.2.2.2.2.2.2.2.2.2.2.1, u.2.2.2.2.2.2.2.2.2.2.2.2.2.2.2.2.1, u.2.2.2.2.2.2.2.2.2.2.2.2.2.2.2.2.2.1, u.2.2.2.2.2.2.2.2.2.2.2.2.2.2.2.2.2.2.1, u.2.2.2.2.2.2.2.2.2.2.2.2.2.2.2.2.2.2.2.1, u.2.2.2.2.2.2.2.2.2.2.2.2.2.2.2.2.2.2.2.2.1, u.2.2.2.2.2.2.2.2.2.2.2.2.2.2.2.2.2.2.2.2.2)
def r_lo (u : RS) : Nat → Int32 := u.2.2.2.2.1
def rs_lo (u : RS) (x : Nat → Int32) : RS := (u.1, u.2.1, u.2.2.1, u.2.2.2.1, x, u.2.2.2.2.2.1, u.2.2.2.2.2.2.1, u.2.2.2.2.2.2.2.1, u.2.2.2.2.2.2.2.2.1, u.2.2.2.2.2.2.2.2.2.1, u.2.2.2.2.2.2.2.2.2.2.1, u.2.2.2.2.2.2.2.2.2.2.2.1, u.2.2.2.2.2.2.2.2.2.2.2.2.1, u.2.2.2.2.2.2.2.2.2.2.2.2.2.1, u.2.2.2.2.2.2.2.2.2.2.2.2.2.2.1, u.2.2.2.2.2.2.2.2.2.2.2.2.2.2.2.1, u.2.2.2.2.2.2.2.2.2.2.2.2.2.2.2.2.1, u.2.2.2.2.2.2.2.2.2.2.2.2.2.2.2.2.2.1, u.2.2.2.2.2.2.2.2.2.2.2.2.2.2.2.2.2.2.1, u.2.2.2.2.2.2.2.2.2.2.2.2.2.2.2.2.2.2.2.1, u.2.2.2.2.2.2.2.2.2.2.2.2.2.2.2.2.2.2.2.2.1, u.2.2.2.2.2.2.2.2.2.2.2.2.2.2.2.2.2.2.2.2.2)
def r_sz (u : RS) : Nat := u.2.2.2.2.2.1
def rs_sz (u : RS) (x : Nat) : RS := (u.1, u.2.1, u.2.2.1, u.2.2.2.1, u.2.2.2.2.1, x, u.2.2.2.2.2.2.1, u.2.2.2.2.2.2.2.1, u.2.2.2.2.2.2.2.2.1, u.2.2.2.2.2.2.2.2.2.1, u.2.2.2.2.2.2.2.2.2.2.1, u.2.2.2.2.2.2.2.2.2.2.2.1, u.2.2.2.2.2.2.2.2.2.2.2.2.1, u.2.2.2.2.2.2.2.2.2.2.2.2.2.1, u.2.2.2.2.2.2.2.2.2.2.2.2.2.2.1, u.2.2.2.2.2.2.2.2.2.2.2.2.2.2.2.1, u.2.2.2.2.2.2.2.2.2.2.2.2.2.2.2.2.1, u.2.2.2.2.2.2.2.2.2.2.2.2.2.2.2.2.2.1, u.2.2.2.2.2.2.2.2.2.2.2.2.2.2.2.2.2.2.1, u.2.2.2.2.2.2.2.2.2.2.2.2.2.2.2.2.2.2.2.1, u.2.2.2.2.2.2.2.2.2.2.2.2.2.2.2.2.2.2.2.2.1, u.2.2.2.2.2.2.2.2.2.2.2.2.2.2.2.2.2.2.2.2.2)
def r_tx (u : RS) : Nat → Int32 := u.2.2.2.2.2.2.1
def rs_tx (u : RS) (x : Nat → Int32) : RS := (u.1, u.2.1, u.2.2.1, u.2.2.2.1, u.2.2.2.2.1, u.2.2.2.2.2.1, x, u.2.2.2.2.2.2.2.1, u.2.2.2.2.2.2.2.2.1, u.2.2.2.2.2.2.2.2.2.1, u.2.2.2.2.2.2.2.2.2.2.1, u.2.2.2.2.2.2.2.2.2.2.2.1, u.2.2.2.2.2.2.2.2.2.2.2.2.1, u.2.2.2.2.2.2.2.2.2.2.2.2.2.1, u.2.2.2.2.2.2.2.2.2.2.2.2.2.2.1, u.2.2.2.2.2.2.2.2.2.2.2.2.2.2.2.1, u.2.2.2.2.2.2.2.2.2.2.2.2.2.2.2.2.1, u.2.2.2.2.2.2.2.2.2.2.2.2.2.2.2.2.2.1, u.2.2.2.2.2.2.2.2.2.2.2.2.2.2.2.2.2.2.1, u.2.2.2.2.2.2.2.2.2.2.2.2.2.2.2.2.2.2.2.1, u.2.2.2.2.2.2.2.2.2.2.2.2.2.2.2.2.2.2.2.2.1, u.2.2.2.2.2.2.2.2.2.2.2.2.2.2.2.2.2.2.2.2.2)
def r_co (u : RS) : Nat → Int32 := u.2.2.2.2.2.2.2.1
def rs_co (u : RS) (x : Nat → Int32) : RS := (u.1, u.2.1, u.2.2.1, u.2.2.2.1, u.2.2.2.2.1, u.2.2.2.2.2.1, u.2.2.2.2.2.2.1, x, u.2.2.2.2.2.2.2.2.1, u.2.2.2.2.2.2.2.2.2.1, u.2.2.2.2.2.2.2.2.2.2.1, u.2.2.2.2.2.2.2.2.2.2.2.1, u.2.2.2.2.2.2.2.2.2.2.2.2.1, u.2.2.2.2.2.2.2.2.2.2.2.2.2.1, u.2.2.2.2.2.2.2.2.2.2.2.2.2.2.1, u.2.2.2.2.2.2.2.2.2.2.2.2.2.2.2.1, u.2.2.2.2.2.2.2.2.2.2.2.2.2.2.2.2.1, u.2.2.2.2.2.2.2.2.2.2.2.2.2.2.2.2.2.1, u.2.2.2.2.2.2.2.2.2.2.2.2.2.2.2.2.2.2.1, u.2.2.2.2.2.2.2.2.2.2.2.2.2.2.2.2.2.2.2.1, u.2.2.2.2.2.2.2.2.2.2.2.2.2.2.2.2.2.2.2.2.1, u.2.2.2.2.2.2.2.2.2.2.2.2.2.2.2.2.2.2.2.2.2)
def r_lc (u : RS) : Nat → Int32 := u.2.2.2.2.2.2.2.2.1
def rs_lc (u : RS) (x : Nat → Int32) : RS := (u.1, u.2.1, u.2.2.1, u.2.2.2.1, u.2.2.2.2.1, u.2.2.2.2.2.1, u.2.2.2.2.2.2.1, u.2.2.2.2.2.2.2.1, x, u.2.2.2.2.2.2.2.2.2.1, u.2.2.2.2.2.2.2.2.2.2.1, u.2.2.2.2.2.2.2.2.2.2.2.1, u.2.2.2.2.2.2.2.2.2.2.2.2.1, u.2.2.2.2.2.2.2.2.2.2.2.2.2.1, u.2.2.2.2.2.2.2.2.2.2.2.2.2.2.1, u.2.2.2.2.2.2.2.2.2.2.2.2.2.2.2.1, u.2.2.2.2.2.2.2.2.2.2.2.2.2.2.2.2.1, u.2.2.2.2.2.2.2.2.2.2.2.2.2.2.2.2.2.1, u.2.2.2.2.2.2.2.2.2.2.2.2.2.2.2.2.2.2.1, u.2.2.2.2.2.2.2.2.2.2.2.2.2.2.2.2.2.2.2.1, u.2.2.2.2.2.2.2.2.2.2.2.2.2.2.2.2.2.2.2.2.1, u.2.2.2.2.2.2.2.2.2.2.2.2.2.2.2.2.2.2.2.2.2)
def r_ln (u : RS) : Nat → Int32 := u.2.2.2.2.2.2.2.2.2.1
def rs_ln (u : RS) (x : Nat → Int32) : RS := (u.1, u.2.1, u.2.2.1, u.2.2.2.1, u.2.2.2.2.1, u.2.2.2.2.2.1, u.2.2.2.2.2.2.1, u.2.2.2.2.2.2.2.1, u.2.2.2.2.2.2.2.2.1, x, u.2.2.2.2.2.2.2.2.2.2.1, u.2.2.2.2.2.2.2.2.2.2.2.1, u.2.2.2.2.2.2.2.2.2.2.2.2.1, u.2.2.2.2.2.2.2.2.2.2.2.2.2.1, u.2.2.2.2.2.2.2.2.2.2.2.2.2.2.1, u.2.2.2.2.2.2.2.2.2.2.2.2.2.2.2.1, u.2.2.2.2.2.2.2.2.2.2.2.2.2.2.2.2.1, u.2.2.2.2.2.2.2.2.2.2.2.2.2.2.2.2.2.1, u.2.2.2.2.2.2.2.2.2.2.2.2.2.2.2.2.2.2.1, u.2.2.2.2.2.2.2.2.2.2.2.2.2.2.2.2.2.2.2.1, u.2.2.2.2.2.2.2.2.2.2.2.2.2.2.2.2.2.2.2.2.1, u.2.2.2.2.2.2.2.2.2.2.2.2.2.2.2.2.2.2.2.2.2)
def r_we (u : RS) : Nat → Int32 := u.2.2.2.2.2.2.2.2.2.2.1
def rs_we (u : RS) (x : Nat → Int32) : RS := (u.1, u.2.1, u.2.2.1, u.2.2.2.1, u.2.2.2.2.1, u.2.2.2.2.2.1, u.2.2.2.2.2.2.1, u.2.2.2.2.2.2.2.1, u.2.2.2.2.2.2.2.2.1, u.2.2.2.2.2.2.2.2.2.1, x, u.2.2.2.2.2.2.2.2.2.2.2.1, u.2.2.2.2.2.2.2.2.2.2.2.2.1, u.2.2.2.2.2.2.2.2.2.2.2.2.2.1, u.2.2.2.2.2.2.2.2.2.2.2.2.2.2.1, u.2.2.2.2.2.2.2.2.2.2.2.2.2.2.2.1, u.2.2.2.2.2.2.2.2.2.2.2.2.2.2.2.2.1, u.2.2.2.2.2.2.2.2.2.2.2.2.2.2.2.2.2.1, u.2.2.2.2.2.2.2.2.2.2.2.2.2.2.2.2.2.2.1, u.2.2.2.2.2.2.2.2.2.2.2.2.2.2.2.2.2.2.2.1, u.2.2.2.2.2.2.2.2.2.2.2.2.2.2.2.2.2.2.2.2.1, u.2.2.2.2.2.2.2.2.2.2.2.2.2.2.2.2.2.2.2.2.2)
def r_cl (u : RS) : Nat → Int32 := u.2.2.2.2.2.2.2.2.2.2.2.1
def rs_cl (u : RS) (x : Nat → Int32) : RS := (u.1, u.2.1, u.2.2.1, u.2.2.2.1, u.2.2.2.2.1, u.2.2.2.2.2.1, u.2.2.2.2.2.2.1, u.2.2.2.2.2.2.2.1, u.2.2.2.2.2.2.2.2.1, u.2.2.2.2.2.2.2.2.2.1, u.2.2.2.2.2.2.2.2.2.2.1, x, u.2.2.2.2.2.2.2.2.2.2.2.2.1, u.2.2.2.2.2.2.2.2.2.2.2.2.2.1, u.2.2.2.2.2.2.2.2.2.2.2.2.2.2.1, u.2.2.2.2.2.2.2.2.2.2.2.2.2.2.2.1, u.2.2.2.2.2.2.2.2.2.2.2.2.2.2.2.2.1, u.2.2.2.2.2.2.2.2.2.2.2.2.2.2.2.2.2.1, u.2.2.2.2.2.2.2.2.2.2.2.2.2.2.2.2.2.2.1, u.2.2.2.2.2.2.2.2.2.2.2.2.2.2.2.2.2.2.2.1, u.2.2.2.2.2.2.2.2.2.2.2.2.2.2.2.2.2.2.2.2.1, u.2.2.2.2.2.2.2.2.2.2.2.2.2.2.2.2.2.2.2.2.2)
def r_hi (u : RS) : Nat → Int32 := u.2.2.2.2.2.2.2.2.2.2.2.2.1
def rs_hi (u : RS) (x : Nat → Int32) : RS := (u.1, u.2.1, u.2.2.1, u.2.2.2.1, u.2.2.2.2.1, u.2.2.2.2.2.1, u.2.2.2.2.2.2.1, u.2.2.2.2.2.2.2.1, u.2.2.2.2.2.2.2.2.1, u.2.2.2.2.2.2.2.2.2.1, u.2.2.2.2.2.2.2.2.2.2.1, u.2.2.2.2.2.2.2.2.2.2.2.1, x, u.2.2.2.2.2.2.2.2.2.2.2.2.2.1, u.2.2.2.2.2.2.2.2.2.2.2.2.2.2.1, u.2.2.2.2.2.2.2.2.2.2.2.2.2.2.2.1, u.2.2.2.2.2.2.2.2.2.2.2.2.2.2.2.2.1, u.2.2.2.2.2.2.2.2.2.2.2.2.2.2.2.2.2.1, u.2.2.2.2.2.2.2.2.2.2.2.2.2.2.2.2.2.2.1, u.2.2.2.2.2.2.2.2.2.2.2.2.2.2.2.2.2.2.2.1, u.2.2.2.2.2.2.2.2.2.2.2.2.2.2.2.2.2.2.2.2.1, u.2.2.2.2.2.2.2.2.2.2.2.2.2.2.2.2.2.2.2.2.2)
def r_nd (u : RS) : Nat := u.2.2.2.2.2.2.2.2.2.2.2.2.2.1
def rs_nd (u : RS) (x : Nat) : RS := (u.1, u.2.1, u.2.2.1, u.2.2.2.1, u.2.2.2.2.1, u.2.2.2.2.2.1, u.2.2.2.2.2.2.1, u.2.2.2.2.2.2.2.1, u.2.2.2.2.2.2.2.2.1, u.2.2.2.2.2.2.2.2.2.1, u.2.2.2.2.2.2.2.2.2.2.1, u.2.2.2.2.2.2.2.2.2.2.2.1, u.2.2.2.2.2.2.2.2.2.2.2.2.1, x, u.2.2.2.2.2.2.2.2.2.2.2.2.2.2.1, u.2.2.2.2.2.2.2.2.2.2.2.2.2.2.2.1, u.2.2.2.2.2.2.2.2.2.2.2.2.2.2.2.2.1, u.2.2.2.2.2.2.2.2.2.2.2.2.2.2.2.2.2.1, u.2.2.2.2.2.2.2.2.2.2.2.2.2.2.2.2.2.2.1, u.2.2.2.2.2.2.2.2.2.2.2.2.2.2.2.2.2.2.2.1, u.2.2.2.2.2.2.2.2.2.2.2.2.2.2.2.2.2.2.2.2.1, u.2.2.2.2.2.2.2.2.2.2.2.2.2.2.2.2.2.2.2.2.2)
def r_ob (u : RS) : Int32 := u.2.2.2.2.2.2.2.2.2.2.2.2.2.2.1
def rs_ob (u : RS) (x : Int32) : RS := (u.1, u.2.1, u.2.2.1, u.2.2.2.1, u.2.2.2.2.1, u.2.2.2.2.2.1, u.2.2.2.2.2.2.1, u.2.2.2.2.2.2.2.1, u.2.2.2.2.2.2.2.2.1, u.2.2.2.2.2.2.2.2.2.1, u.2.2.2.2.2.2.2.2.2.2.1, u.2.2.2.2.2.2.2.2.2.2.2.1, u.2.2.2.2.2.2.2.2.2.2.2.2.1, u.2.2.2.2.2.2.2.2.2.2.2.2.2.1, x, u.2.2.2.2.2.2.2.2.2.2.2.2.2.2.2.1, u.2.2.2.2.2.2.2.2.2.2.2.2.2.2.2.2.1, u.2.2.2.2.2.2.2.2.2.2.2.2.2.2.2.2.2.1, u.2.2.2.2.2.2.2.2.2.2.2.2.2.2.2.2.2.2.1, u.2.2.2.2.2.2.2.2.2.2.2.2.2.2.2.2.2.2.2.1, u.2.2.2.2.2.2.2.2.2.2.2.2.2.2.2.2.2.2.2.2.1, u.2.2.2.2.2.2.2.2.2.2.2.2.2.2.2.2.2.2.2.2.2)
def r_er (u : RS) : Int64 := u.2.2.2.2.2.2.2.2.2.2.2.2.2.2.2.1
def rs_er (u : RS) (x : Int64) : RS := (u.1, u.2.1, u.2.2.1, u.2.2.2.1, u.2.2.2.2.1, u.2.2.2.2.2.1, u.2.2.2.2.2.2.1, u.2.2.2.2.2.2.2.1, u.2.2.2.2.2.2.2.2.1, u.2.2.2.2.2.2.2.2.2.1, u.2.2.2.2.2.2.2.2.2.2.1, u.2.2.2.2.2.2.2.2.2.2.2.1, u.2.2.2.2.2.2.2.2.2.2.2.2.1, u.2.2.2.2.2.2.2.2.2.2.2.2.2.1, u.2.2.2.2.2.2.2.2.2.2.2.2.2.2.1, x, u.2.2.2.2.2.2.2.2.2.2.2.2.2.2.2.2.1, u.2.2.2.2.2.2.2.2.2.2.2.2.2.2.2.2.2.1, u.2.2.2.2.2.2.2.2.2.2.2.2.2.2.2.2.2.2.1, u.2.2.2.2.2.2.2.2.2.2.2.2.2.2.2.2.2.2.2.1, u.2.2.2.2.2.2.2.2.2.2.2.2.2.2.2.2.2.2.2.2.1, u.2.2.2.2.2.2.2.2.2.2.2.2.2.2.2.2.2.2.2.2.2)
def r_cs (u : RS) : Nat := u.2.2.2.2.2.2.2.2.2.2.2.2.2.2.2.2.1
def rs_cs (u : RS) (x : Nat) : RS := (u.1, u.2.1, u.2.2.1, u.2.2.2.1, u.2.2.2.2.1, u.2.2.2.2.2.1, u.2.2.2.2.2.2.1, u.2.2.2.2.2.2.2.1, u.2.2.2.2.2.2.2.2.1, u.2.2.2.2.2.2.2.2.2.1, u.2.2.2.2.2.2.2.2.2.2.1, u.2.2.2.2.2.2.2.2.2.2.2.1, u.2.2.2.2.2.2.2.2.2.2.2.2.1, u.2.2.2.2.2.2.2.2.2.2.2.2.2.1, u.2.2.2.2.2.2.2.2.2.2.2.2.2.2.1, u.2.2.2.2.2.2.2.2.2.2.2.2.2.2.2.1, x, u.2.2.2.2.2.2.2.2.2.2.2.2.2.2.2.2.2.1, u.2.2.2.2.2.2.2.2.2.2.2.2.2.2.2.2.2.2.1, u.2.2.2.2.2.2.2.2.2.2.2.2.2.2.2.2.2.2.2.1, u.2.2.2.2.2.2.2.2.2.2.2.2.2.2.2.2.2.2.2.2.1, u.2.2.2.2.2.2.2.2.2.2.2.2.2.2.2.2.2.2.2.2.2)
def r_cd (u : RS) : Nat → Int32 := u.2.2.2.2.2.2.2.2.2.2.2.2.2.2.2.2.2.1
def rs_cd (u : RS) (x : Nat → Int32) : RS := (u.1, u.2.1, u.2.2.1, u.2.2.2.1, u.2.2.2.2.1, u.2.2.2.2.2.1, u.2.2.2.2.2.2.1, u.2.2.2.2.2.2.2.1, u.2.2.2.2.2.2.2.2.1, u.2.2.2.2.2.2.2.2.2.1, u.2.2.2.2.2.2.2.2.2.2.1, u.2.2.2.2.2.2.2.2.2.2.2.1, u.2.2.2.2.2.2.2.2.2.2.2.2.1, u.2.2.2.2.2.2.2.2.2.2.2.2.2.1, u.2.2.2.2.2.2.2.2.2.2.2.2.2.2.1, u.2.2.2.2.2.2.2.2.2.2.2.2.2.2.2.1, u.2.2.2.2.2.2.2.2.2.2.2.2.2.2.2.2.1, x, u.2.2.2.2.2.2.2.2.2.2.2.2.2.2.2.2.2.2.1, u.2.2.2.2.2.2.2.2.2.2.2.2.2.2.2.2.2.2.2.1, u.2.2.2.2.2.2.2.2.2.2.2.2.2.2.2.2.2.2.2.2.1, u.2.2.2.2.2.2.2.2.2.2.2.2.2.2.2.2.2.2.2.2.2)
def r_mk (u : RS) : Nat := u.2.2.2.2.2.2.2.2.2.2.2.2.2.2.2.2.2.2.1
def rs_mk (u : RS) (x : Nat) : RS := (u.1, u.2.1, u.2.2.1, u.2.2.2.1, u.2.2.2.2.1, u.2.2.2.2.2.1, u.2.2.2.2.2.2.1, u.2.2.2.2.2.2.2.1, u.2.2.2.2.2.2.2.2.1, u.2.2.2.2.2.2.2.2.2.1, u.2.2.2.2.2.2.2.2.2.2.1, u.2.2.2.2.2.2.2.2.2.2.2.1, u.2.2.2.2.2.2.2.2.2.2.2.2.1, u.2.2.2.2.2.2.2.2.2.2.2.2.2.1, u.2.2.2.2.2.2.2.2.2.2.2.2.2.2.1, u.2.2.2.2.2.2.2.2.2.2.2.2.2.2.2.1, u.2.2.2.2.2.2.2.2.2.2.2.2.2.2.2.2.1, u.2.2.2.2.2.2.2.2.2.2.2.2.2.2.2.2.2.1, x, u.2.2.2.2.2.2.2.2.2.2.2.2.2.2.2.2.2.2.2.1, u.2.2.2.2.2.2.2.2.2.2.2.2.2.2.2.2.2.2.2.2.1, u.2.2.2.2.2.2.2.2.2.2.2.2.2.2.2.2.2.2.2.2.2)
def r_ou (u : RS) : Nat → Int32 := u.2.2.2.2.2.2.2.2.2.2.2.2.2.2.2.2.2.2.2.1
def rs_ou (u : RS) (x : Nat → Int32) : RS := (u.1, u.2.1, u.2.2.1, u.2.2.2.1, u.2.2.2.2.1, u.2.2.2.2.2.1, u.2.2.2.2.2.2.1, u.2.2.2.2.2.2.2.1, u.2.2.2.2.2.2.2.2.1, u.2.2.2.2.2.2.2.2.2.1, u.2.2.2.2.2.2.2.2.2.2.1, u.2.2.2.2.2.2.2.2.2.2.2.1, u.2.2.2.2.2.2.2.2.2.2.2.2.1, u.2.2.2.2.2.2.2.2.2.2.2.2.2.1, u.2.2.2.2.2.2.2.2.2.2.2.2.2.2.1, u.2.2.2.2.2.2.2.2.2.2.2.2.2.2.2.1, u.2.2.2.2.2.2.2.2.2.2.2.2.2.2.2.2.1, u.2.2.2.2.2.2.2.2.2.2.2.2.2.2.2.2.2.1, u.2.2.2.2.2.2.2.2.2.2.2.2.2.2.2.2.2.2.1, x, u.2.2.2.2.2.2.2.2.2.2.2.2.2.2.2.2.2.2.2.2.1, u.2.2.2.2.2.2.2.2.2.2.2.2.2.2.2.2.2.2.2.2.2)
def r_lw (u : RS) : Int64 := u.2.2.2.2.2.2.2.2.2.2.2.2.2.2.2.2.2.2.2.2.1
def rs_lw (u : RS) (x : Int64) : RS := (u.1, u.2.1, u.2.2.1, u.2.2.2.1, u.2.2.2.2.1, u.2.2.2.2.2.1, u.2.2.2.2.2.2.1, u.2.2.2.2.2.2.2.1, u.2.2.2.2.2.2.2.2.1, u.2.2.2.2.2.2.2.2.2.1, u.2.2.2.2.2.2.2.2.2.2.1, u.2.2.2.2.2.2.2.2.2.2.2.1, u.2.2.2.2.2.2.2.2.2.2.2.2.1, u.2.2.2.2.2.2.2.2.2.2.2.2.2.1, u.2.2.2.2.2.2.2.2.2.2.2.2.2.2.1, u.2.2.2.2.2.2.2.2.2.2.2.2.2.2.2.1, u.2.2.2.2.2.2.2.2.2.2.2.2.2.2.2.2.1, u.2.2.2.2.2.2.2.2.2.2.2.2.2.2.2.2.2.1, u.2.2.2.2.2.2.2.2.2.2.2.2.2.2.2.2.2.2.1, u.2.2.2.2.2.2.2.2.2.2.2.2.2.2.2.2.2.2.2.1, x, u.2.2.2.2.2.2.2.2.2.2.2.2.2.2.2.2.2.2.2.2.2)
def r_hg (u : RS) : Int64 := u.2.2.2.2.2.2.2.2.2.2.2.2.2.2.2.2.2.2.2.2.2
def rs_hg (u : RS) (x : Int64) : RS := (u.1, u.2.1, u.2.2.1, u.2.2.2.1, u.2.2.2.2.1, u.2.2.2.2.2.1, u.2.2.2.2.2.2.1, u.2.2.2.2.2.2.2.1, u.2.2.2.2.2.2.2.2.1, u.2.2.2.2.2.2.2.2.2.1, u.2.2.2.2.2.2.2.2.2.2.1, u.2.2.2.2.2.2.2.2.2.2.2.1, u.2.2.2.2.2.2.2.2.2.2.2.2.1, u.2.2.2.2.2.2.2.2.2.2.2.2.2.1, u.2.2.2.2.2.2.2.2.2.2.2.2.2.2.1, u.2.2.2.2.2.2.2.2.2.2.2.2.2.2.2.1, u.2.2.2.2.2.2.2.2.2.2.2.2.2.2.2.2.1, u.2.2.2.2.2.2.2.2.2.2.2.2.2.2.2.2.2.1, u.2.2.2.2.2.2.2.2.2.2.2.2.2.2.2.2.2.2.1, u.2.2.2.2.2.2.2.2.2.2.2.2.2.2.2.2.2.2.2.1, u.2.2.2.2.2.2.2.2.2.2.2.2.2.2.2.2.2.2.2.2.1, x)
theorem r_th_th (u : RS) (x : Int32) : r_th (rs_th u x) = x := rfl
theorem r_th_n (u : RS) (x : Nat) : r_th (rs_n u x) = r_th u := rfl
theorem r_th_od (u : RS) (x : Nat → Int32) : r_th (rs_od u x) = r_th u := rfl
theorem r_th_ra (u : RS) (x : Nat → Int32) : r_th (rs_ra u x) = r_th u := rfl
theorem r_th_lo (u : RS) (x : Nat → Int32) : r_th (rs_lo u x) = r_th u := rfl
theorem r_th_sz (u : RS) (x : Nat) : r_th (rs_sz u x) = r_th u := rfl
theorem r_th_tx (u : RS) (x : Nat → Int32) : r_th (rs_tx u x) = r_th u := rfl
theorem r_th_co (u : RS) (x : Nat → Int32) : r_th (rs_co u x) = r_th u := rfl
theorem r_th_lc (u : RS) (x : Nat → Int32) : r_th (rs_lc u x) = r_th u := rfl
theorem r_th_ln (u : RS) (x : Nat → Int32) : r_th (rs_ln u x) = r_th u := rfl
theorem r_th_we (u : RS) (x : Nat → Int32) : r_th (rs_we u x) = r_th u := rfl
theorem r_th_cl (u : RS) (x : Nat → Int32) : r_th (rs_cl u x) = r_th u := rfl
theorem r_th_hi (u : RS) (x : Nat → Int32) : r_th (rs_hi u x) = r_th u := rfl
theorem r_th_nd (u : RS) (x : Nat) : r_th (rs_nd u x) = r_th u := rfl
theorem r_th_ob (u : RS) (x : Int32) : r_th (rs_ob u x) = r_th u := rfl
theorem r_th_er (u : RS) (x : Int64) : r_th (rs_er u x) = r_th u := rfl
theorem r_th_cs (u : RS) (x : Nat) : r_th (rs_cs u x) = r_th u := rfl
theorem r_th_cd (u : RS) (x : Nat → Int32) : r_th (rs_cd u x) = r_th u := rfl
theorem r_th_mk (u : RS) (x : Nat) : r_th (rs_mk u x) = r_th u := rfl
theorem r_th_ou (u : RS) (x : Nat → Int32) : r_th (rs_ou u x) = r_th u := rfl
theorem r_th_lw (u : RS) (x : Int64) : r_th (rs_lw u x) = r_th u := rfl
theorem r_th_hg (u : RS) (x : Int64) : r_th (rs_hg u x) = r_th u := rfl
theorem r_n_th (u : RS) (x : Int32) : r_n (rs_th u x) = r_n u := rfl
theorem r_n_n (u : RS) (x : Nat) : r_n (rs_n u x) = x := rfl
theorem r_n_od (u : RS) (x : Nat → Int32) : r_n (rs_od u x) = r_n u := rfl
theorem r_n_ra (u : RS) (x : Nat → Int32) : r_n (rs_ra u x) = r_n u := rfl
theorem r_n_lo (u : RS) (x : Nat → Int32) : r_n (rs_lo u x) = r_n u := rfl
theorem r_n_sz (u : RS) (x : Nat) : r_n (rs_sz u x) = r_n u := rfl
theorem r_n_tx (u : RS) (x : Nat → Int32) : r_n (rs_tx u x) = r_n u := rfl
theorem r_n_co (u : RS) (x : Nat → Int32) : r_n (rs_co u x) = r_n u := rfl
theorem r_n_lc (u : RS) (x : Nat → Int32) : r_n (rs_lc u x) = r_n u := rfl
theorem r_n_ln (u : RS) (x : Nat → Int32) : r_n (rs_ln u x) = r_n u := rfl
theorem r_n_we (u : RS) (x : Nat → Int32) : r_n (rs_we u x) = r_n u := rfl
theorem r_n_cl (u : RS) (x : Nat → Int32) : r_n (rs_cl u x) = r_n u := rfl
theorem r_n_hi (u : RS) (x : Nat → Int32) : r_n (rs_hi u x) = r_n u := rfl
theorem r_n_nd (u : RS) (x : Nat) : r_n (rs_nd u x) = r_n u := rfl
theorem r_n_ob (u : RS) (x : Int32) : r_n (rs_ob u x) = r_n u := rfl
theorem r_n_er (u : RS) (x : Int64) : r_n (rs_er u x) = r_n u := rfl
theorem r_n_cs (u : RS) (x : Nat) : r_n (rs_cs u x) = r_n u := rfl
theorem r_n_cd (u : RS) (x : Nat → Int32) : r_n (rs_cd u x) = r_n u := rfl
theorem r_n_mk (u : RS) (x : Nat) : r_n (rs_mk u x) = r_n u := rfl
theorem r_n_ou (u : RS) (x : Nat → Int32) : r_n (rs_ou u x) = r_n u := rfl
theorem r_n_lw (u : RS) (x : Int64) : r_n (rs_lw u x) = r_n u := rfl
theorem r_n_hg (u : RS) (x : Int64) : r_n (rs_hg u x) = r_n u := rfl
theorem r_od_th (u : RS) (x : Int32) : r_od (rs_th u x) = r_od u := rfl
theorem r_od_n (u : RS) (x : Nat) : r_od (rs_n u x) = r_od u := rfl
theorem r_od_od (u : RS) (x : Nat → Int32) : r_od (rs_od u x) = x := rfl
theorem r_od_ra (u : RS) (x : Nat → Int32) : r_od (rs_ra u x) = r_od u := rfl
theorem r_od_lo (u : RS) (x : Nat → Int32) : r_od (rs_lo u x) = r_od u := rfl
theorem r_od_sz (u : RS) (x : Nat) : r_od (rs_sz u x) = r_od u := rfl
theorem r_od_tx (u : RS) (x : Nat → Int32) : r_od (rs_tx u x) = r_od u := rfl
theorem r_od_co (u : RS) (x : Nat → Int32) : r_od (rs_co u x) = r_od u := rfl
theorem r_od_lc (u : RS) (x : Nat → Int32) : r_od (rs_lc u x) = r_od u := rfl
theorem r_od_ln (u : RS) (x : Nat → Int32) : r_od (rs_ln u x) = r_od u := rfl
theorem r_od_we (u : RS) (x : Nat → Int32) : r_od (rs_we u x) = r_od u := rfl
theorem r_od_cl (u : RS) (x : Nat → Int32) : r_od (rs_cl u x) = r_od u := rfl
theorem r_od_hi (u : RS) (x : Nat → Int32) : r_od (rs_hi u x) = r_od u := rfl
theorem r_od_nd (u : RS) (x : Nat) : r_od (rs_nd u x) = r_od u := rfl
theorem r_od_ob (u : RS) (x : Int32) : r_od (rs_ob u x) = r_od u := rfl
theorem r_od_er (u : RS) (x : Int64) : r_od (rs_er u x) = r_od u := rfl
theorem r_od_cs (u : RS) (x : Nat) : r_od (rs_cs u x) = r_od u := rfl
theorem r_od_cd (u : RS) (x : Nat → Int32) : r_od (rs_cd u x) = r_od u := rfl
theorem r_od_mk (u : RS) (x : Nat) : r_od (rs_mk u x) = r_od u := rfl
theorem r_od_ou (u : RS) (x : Nat → Int32) : r_od (rs_ou u x) = r_od u := rfl
theorem r_od_lw (u : RS) (x : Int64) : r_od (rs_lw u x) = r_od u := rfl
theorem r_od_hg (u : RS) (x : Int64) : r_od (rs_hg u x) = r_od u := rfl
theorem r_ra_th (u : RS) (x : Int32) : r_ra (rs_th u x) = r_ra u := rfl
theorem r_ra_n (u : RS) (x : Nat) : r_ra (rs_n u x) = r_ra u := rfl
theorem r_ra_od (u : RS) (x : Nat → Int32) : r_ra (rs_od u x) = r_ra u := rfl
theorem r_ra_ra (u : RS) (x : Nat → Int32) : r_ra (rs_ra u x) = x := rfl
theorem r_ra_lo (u : RS) (x : Nat → Int32) : r_ra (rs_lo u x) = r_ra u := rfl
theorem r_ra_sz (u : RS) (x : Nat) : r_ra (rs_sz u x) = r_ra u := rfl
theorem r_ra_tx (u : RS) (x : Nat → Int32) : r_ra (rs_tx u x) = r_ra u := rfl
theorem r_ra_co (u : RS) (x : Nat → Int32) : r_ra (rs_co u x) = r_ra u := rfl
theorem r_ra_lc (u : RS) (x : Nat → Int32) : r_ra (rs_lc u x) = r_ra u := rfl
theorem r_ra_ln (u : RS) (x : Nat → Int32) : r_ra (rs_ln u x) = r_ra u := rfl
theorem r_ra_we (u : RS) (x : Nat → Int32) : r_ra (rs_we u x) = r_ra u := rfl
theorem r_ra_cl (u : RS) (x : Nat → Int32) : r_ra (rs_cl u x) = r_ra u := rfl
theorem r_ra_hi (u : RS) (x : Nat → Int32) : r_ra (rs_hi u x) = r_ra u := rfl
theorem r_ra_nd (u : RS) (x : Nat) : r_ra (rs_nd u x) = r_ra u := rfl
theorem r_ra_ob (u : RS) (x : Int32) : r_ra (rs_ob u x) = r_ra u := rfl
theorem r_ra_er (u : RS) (x : Int64) : r_ra (rs_er u x) = r_ra u := rfl
theorem r_ra_cs (u : RS) (x : Nat) : r_ra (rs_cs u x) = r_ra u := rfl
theorem r_ra_cd (u : RS) (x : Nat → Int32) : r_ra (rs_cd u x) = r_ra u := rfl
theorem r_ra_mk (u : RS) (x : Nat) : r_ra (rs_mk u x) = r_ra u := rfl
theorem r_ra_ou (u : RS) (x : Nat → Int32) : r_ra (rs_ou u x) = r_ra u := rfl
theorem r_ra_lw (u : RS) (x : Int64) : r_ra (rs_lw u x) = r_ra u := rfl
theorem r_ra_hg (u : RS) (x : Int64) : r_ra (rs_hg u x) = r_ra u := rfl
theorem r_lo_th (u : RS) (x : Int32) : r_lo (rs_th u x) = r_lo u := rfl
theorem r_lo_n (u : RS) (x : Nat) : r_lo (rs_n u x) = r_lo u := rfl
theorem r_lo_od (u : RS) (x : Nat → Int32) : r_lo (rs_od u x) = r_lo u := rfl
theorem r_lo_ra (u : RS) (x : Nat → Int32) : r_lo (rs_ra u x) = r_lo u := rfl
theorem r_lo_lo (u : RS) (x : Nat → Int32) : r_lo (rs_lo u x) = x := rfl
theorem r_lo_sz (u : RS) (x : Nat) : r_lo (rs_sz u x) = r_lo u := rfl
theorem r_lo_tx (u : RS) (x : Nat → Int32) : r_lo (rs_tx u x) = r_lo u := rfl
theorem r_lo_co (u : RS) (x : Nat → Int32) : r_lo (rs_co u x) = r_lo u := rfl
theorem r_lo_lc (u : RS) (x : Nat → Int32) : r_lo (rs_lc u x) = r_lo u := rfl
theorem r_lo_ln (u : RS) (x : Nat → Int32) : r_lo (rs_ln u x) = r_lo u := rfl
theorem r_lo_we (u : RS) (x : Nat → Int32) : r_lo (rs_we u x) = r_lo u := rfl
theorem r_lo_cl (u : RS) (x : Nat → Int32) : r_lo (rs_cl u x) = r_lo u := rfl
theorem r_lo_hi (u : RS) (x : Nat → Int32) : r_lo (rs_hi u x) = r_lo u := rfl
theorem r_lo_nd (u : RS) (x : Nat) : r_lo (rs_nd u x) = r_lo u := rfl
theorem r_lo_ob (u : RS) (x : Int32) : r_lo (rs_ob u x) = r_lo u := rfl
theorem r_lo_er (u : RS) (x : Int64) : r_lo (rs_er u x) = r_lo u := rfl
theorem r_lo_cs (u : RS) (x : Nat) : r_lo (rs_cs u x) = r_lo u := rfl
theorem r_lo_cd (u : RS) (x : Nat → Int32) : r_lo (rs_cd u x) = r_lo u := rfl
theorem r_lo_mk (u : RS) (x : Nat) : r_lo (rs_mk u x) = r_lo u := rfl
theorem r_lo_ou (u : RS) (x : Nat → Int32) : r_lo (rs_ou u x) = r_lo u := rfl
theorem r_lo_lw (u : RS) (x : Int64) : r_lo (rs_lw u x) = r_lo u := rfl
theorem r_lo_hg (u : RS) (x : Int64) : r_lo (rs_hg u x) = r_lo u := rfl
theorem r_sz_th (u : RS) (x : Int32) : r_sz (rs_th u x) = r_sz u := rfl
theorem r_sz_n (u : RS) (x : Nat) : r_sz (rs_n u x) = r_sz u := rfl
theorem r_sz_od (u : RS) (x : Nat → Int32) : r_sz (rs_od u x) = r_sz u := rfl
theorem r_sz_ra (u : RS) (x : Nat → Int32) : r_sz (rs_ra u x) = r_sz u := rfl
theorem r_sz_lo (u : RS) (x : Nat → Int32) : r_sz (rs_lo u x) = r_sz u := rfl
theorem r_sz_sz (u : RS) (x : Nat) : r_sz (rs_sz u x) = x := rfl
theorem r_sz_tx (u : RS) (x : Nat → Int32) : r_sz (rs_tx u x) = r_sz u := rfl
theorem r_sz_co (u : RS) (x : Nat → Int32) : r_sz (rs_co u x) = r_sz u := rfl
theorem r_sz_lc (u : RS) (x : Nat → Int32) : r_sz (rs_lc u x) = r_sz u := rfl
theorem r_sz_ln (u : RS) (x : Nat → Int32) : r_sz (rs_ln u x) = r_sz u := rfl
theorem r_sz_we (u : RS) (x : Nat → Int32) : r_sz (rs_we u x) = r_sz u := rfl
theorem r_sz_cl (u : RS) (x : Nat → Int32) : r_sz (rs_cl u x) = r_sz u := rfl
theorem r_sz_hi (u : RS) (x : Nat → Int32) : r_sz (rs_hi u x) = r_sz u := rfl
theorem r_sz_nd (u : RS) (x : Nat) : r_sz (rs_nd u x) = r_sz u := rfl
theorem r_sz_ob (u : RS) (x : Int32) : r_sz (rs_ob u x) = r_sz u := rfl
theorem r_sz_er (u : RS) (x : Int64) : r_sz (rs_er u x) = r_sz u := rfl
theorem r_sz_cs (u : RS) (x : Nat) : r_sz (rs_cs u x) = r_sz u := rfl
theorem r_sz_cd (u : RS) (x : Nat → Int32) : r_sz (rs_cd u x) = r_sz u := rfl
theorem r_sz_mk (u : RS) (x : Nat) : r_sz (rs_mk u x) = r_sz u := rfl
theorem r_sz_ou (u : RS) (x : Nat → Int32) : r_sz (rs_ou u x) = r_sz u := rfl
theorem r_sz_lw (u : RS) (x : Int64) : r_sz (rs_lw u x) = r_sz u := rfl
theorem r_sz_hg (u : RS) (x : Int64) : r_sz (rs_hg u x) = r_sz u := rfl
theorem r_tx_th (u : RS) (x : Int32) : r_tx (rs_th u x) = r_tx u := rfl
theorem r_tx_n (u : RS) (x : Nat) : r_tx (rs_n u x) = r_tx u := rfl
theorem r_tx_od (u : RS) (x : Nat → Int32) : r_tx (rs_od u x) = r_tx u := rfl
theorem r_tx_ra (u : RS) (x : Nat → Int32) : r_tx (rs_ra u x) = r_tx u := rfl
theorem r_tx_lo (u : RS) (x : Nat → Int32) : r_tx (rs_lo u x) = r_tx u := rfl
theorem r_tx_sz (u : RS) (x : Nat) : r_tx (rs_sz u x) = r_tx u := rfl
theorem r_tx_tx (u : RS) (x : Nat → Int32) : r_tx (rs_tx u x) = x := rfl
theorem r_tx_co (u : RS) (x : Nat → Int32) : r_tx (rs_co u x) = r_tx u := rfl
theorem r_tx_lc (u : RS) (x : Nat → Int32) : r_tx (rs_lc u x) = r_tx u := rfl
theorem r_tx_ln (u : RS) (x : Nat → Int32) : r_tx (rs_ln u x) = r_tx u := rfl
theorem r_tx_we (u : RS) (x : Nat → Int32) : r_tx (rs_we u x) = r_tx u := rfl
theorem r_tx_cl (u : RS) (x : Nat → Int32) : r_tx (rs_cl u x) = r_tx u := rfl
theorem r_tx_hi (u : RS) (x : Nat → Int32) : r_tx (rs_hi u x) = r_tx u := rfl
theorem r_tx_nd (u : RS) (x : Nat) : r_tx (rs_nd u x) = r_tx u := rfl
theorem r_tx_ob (u : RS) (x : Int32) : r_tx (rs_ob u x) = r_tx u := rfl
theorem r_tx_er (u : RS) (x : Int64) : r_tx (rs_er u x) = r_tx u := rfl
theorem r_tx_cs (u : RS) (x : Nat) : r_tx (rs_cs u x) = r_tx u := rfl
theorem r_tx_cd (u : RS) (x : Nat → Int32) : r_tx (rs_cd u x) = r_tx u := rfl
theorem r_tx_mk (u : RS) (x : Nat) : r_tx (rs_mk u x) = r_tx u := rfl
theorem r_tx_ou (u : RS) (x : Nat → Int32) : r_tx (rs_ou u x) = r_tx u := rfl
theorem r_tx_lw (u : RS) (x : Int64) : r_tx (rs_lw u x) = r_tx u := rfl
theorem r_tx_hg (u : RS) (x : Int64) : r_tx (rs_hg u x) = r_tx u := rfl
theorem r_co_th (u : RS) (x : Int32) : r_co (rs_th u x) = r_co u := rfl
theorem r_co_n (u : RS) (x : Nat) : r_co (rs_n u x) = r_co u := rfl
theorem r_co_od (u : RS) (x : Nat → Int32) : r_co (rs_od u x) = r_co u := rfl
theorem r_co_ra (u : RS) (x : Nat → Int32) : r_co (rs_ra u x) = r_co u := rfl
theorem r_co_lo (u : RS) (x : Nat → Int32) : r_co (rs_lo u x) = r_co u := rfl
theorem r_co_sz (u : RS) (x : Nat) : r_co (rs_sz u x) = r_co u := rfl
theorem r_co_tx (u : RS) (x : Nat → Int32) : r_co (rs_tx u x) = r_co u := rfl
theorem r_co_co (u : RS) (x : Nat → Int32) : r_co (rs_co u x) = x := rfl
theorem r_co_lc (u : RS) (x : Nat → Int32) : r_co (rs_lc u x) = r_co u := rfl
theorem r_co_ln (u : RS) (x : Nat → Int32) : r_co (rs_ln u x) = r_co u := rfl
theorem r_co_we (u : RS) (x : Nat → Int32) : r_co (rs_we u x) = r_co u := rfl
theorem r_co_cl (u : RS) (x : Nat → Int32) : r_co (rs_cl u x) = r_co u := rfl
theorem r_co_hi (u : RS) (x : Nat → Int32) : r_co (rs_hi u x) = r_co u := rfl
theorem r_co_nd (u : RS) (x : Nat) : r_co (rs_nd u x) = r_co u := rfl
theorem r_co_ob (u : RS) (x : Int32) : r_co (rs_ob u x) = r_co u := rfl
theorem r_co_er (u : RS) (x : Int64) : r_co (rs_er u x) = r_co u := rfl
theorem r_co_cs (u : RS) (x : Nat) : r_co (rs_cs u x) = r_co u := rfl
theorem r_co_cd (u : RS) (x : Nat → Int32) : r_co (rs_cd u x) = r_co u := rfl
theorem r_co_mk (u : RS) (x : Nat) : r_co (rs_mk u x) = r_co u := rfl
theorem r_co_ou (u : RS) (x : Nat → Int32) : r_co (rs_ou u x) = r_co u := rfl
theorem r_co_lw (u : RS) (x : Int64) : r_co (rs_lw u x) = r_co u := rfl
theorem r_co_hg (u : RS) (x : Int64) : r_co (rs_hg u x) = r_co u := rfl
theorem r_lc_th (u : RS) (x : Int32) : r_lc (rs_th u x) = r_lc u := rfl
theorem r_lc_n (u : RS) (x : Nat) : r_lc (rs_n u x) = r_lc u := rfl
theorem r_lc_od (u : RS) (x : Nat → Int32) : r_lc (rs_od u x) = r_lc u := rfl
theorem r_lc_ra (u : RS) (x : Nat → Int32) : r_lc (rs_ra u x) = r_lc u := rfl
theorem r_lc_lo (u : RS) (x : Nat → Int32) : r_lc (rs_lo u x) = r_lc u := rfl
theorem r_lc_sz (u : RS) (x : Nat) : r_lc (rs_sz u x) = r_lc u := rfl
theorem r_lc_tx (u : RS) (x : Nat → Int32) : r_lc (rs_tx u x) = r_lc u := rfl
theorem r_lc_co (u : RS) (x : Nat → Int32) : r_lc (rs_co u x) = r_lc u := rfl
theorem r_lc_lc (u : RS) (x : Nat → Int32) : r_lc (rs_lc u x) = x := rfl
theorem r_lc_ln (u : RS) (x : Nat → Int32) : r_lc (rs_ln u x) = r_lc u := rfl
theorem r_lc_we (u : RS) (x : Nat → Int32) : r_lc (rs_we u x) = r_lc u := rfl
theorem r_lc_cl (u : RS) (x : Nat → Int32) : r_lc (rs_cl u x) = r_lc u := rfl
theorem r_lc_hi (u : RS) (x : Nat → Int32) : r_lc (rs_hi u x) = r_lc u := rfl
theorem r_lc_nd (u : RS) (x : Nat) : r_lc (rs_nd u x) = r_lc u := rfl
theorem r_lc_ob (u : RS) (x : Int32) : r_lc (rs_ob u x) = r_lc u := rfl
theorem r_lc_er (u : RS) (x : Int64) : r_lc (rs_er u x) = r_lc u := rfl
theorem r_lc_cs (u : RS) (x : Nat) : r_lc (rs_cs u x) = r_lc u := rfl
theorem r_lc_cd (u : RS) (x : Nat → Int32) : r_lc (rs_cd u x) = r_lc u := rfl
theorem r_lc_mk (u : RS) (x : Nat) : r_lc (rs_mk u x) = r_lc u := rfl
theorem r_lc_ou (u : RS) (x : Nat → Int32) : r_lc (rs_ou u x) = r_lc u := rfl
theorem r_lc_lw (u : RS) (x : Int64) : r_lc (rs_lw u x) = r_lc u := rfl
theorem r_lc_hg (u : RS) (x : Int64) : r_lc (rs_hg u x) = r_lc u := rfl
theorem r_ln_th (u : RS) (x : Int32) : r_ln (rs_th u x) = r_ln u := rfl
theorem r_ln_n (u : RS) (x : Nat) : r_ln (rs_n u x) = r_ln u := rfl
theorem r_ln_od (u : RS) (x : Nat → Int32) : r_ln (rs_od u x) = r_ln u := rfl
theorem r_ln_ra (u : RS) (x : Nat → Int32) : r_ln (rs_ra u x) = r_ln u := rfl
theorem r_ln_lo (u : RS) (x : Nat → Int32) : r_ln (rs_lo u x) = r_ln u := rfl
theorem r_ln_sz (u : RS) (x : Nat) : r_ln (rs_sz u x) = r_ln u := rfl
theorem r_ln_tx (u : RS) (x : Nat → Int32) : r_ln (rs_tx u x) = r_ln u := rfl
theorem r_ln_co (u : RS) (x : Nat → Int32) : r_ln (rs_co u x) = r_ln u := rfl
theorem r_ln_lc (u : RS) (x : Nat → Int32) : r_ln (rs_lc u x) = r_ln u := rfl
theorem r_ln_ln (u : RS) (x : Nat → Int32) : r_ln (rs_ln u x) = x := rfl
theorem r_ln_we (u : RS) (x : Nat → Int32) : r_ln (rs_we u x) = r_ln u := rfl
theorem r_ln_cl (u : RS) (x : Nat → Int32) : r_ln (rs_cl u x) = r_ln u := rfl
theorem r_ln_hi (u : RS) (x : Nat → Int32) : r_ln (rs_hi u x) = r_ln u := rfl
theorem r_ln_nd (u : RS) (x : Nat) : r_ln (rs_nd u x) = r_ln u := rfl
theorem r_ln_ob (u : RS) (x : Int32) : r_ln (rs_ob u x) = r_ln u := rfl
theorem r_ln_er (u : RS) (x : Int64) : r_ln (rs_er u x) = r_ln u := rfl
theorem r_ln_cs (u : RS) (x : Nat) : r_ln (rs_cs u x) = r_ln u := rfl
theorem r_ln_cd (u : RS) (x : Nat → Int32) : r_ln (rs_cd u x) = r_ln u := rfl
theorem r_ln_mk (u : RS) (x : Nat) : r_ln (rs_mk u x) = r_ln u := rfl
theorem r_ln_ou (u : RS) (x : Nat → Int32) : r_ln (rs_ou u x) = r_ln u := rfl
theorem r_ln_lw (u : RS) (x : Int64) : r_ln (rs_lw u x) = r_ln u := rfl
theorem r_ln_hg (u : RS) (x : Int64) : r_ln (rs_hg u x) = r_ln u := rfl
theorem r_we_th (u : RS) (x : Int32) : r_we (rs_th u x) = r_we u := rfl
theorem r_we_n (u : RS) (x : Nat) : r_we (rs_n u x) = r_we u := rfl
theorem r_we_od (u : RS) (x : Nat → Int32) : r_we (rs_od u x) = r_we u := rfl
theorem r_we_ra (u : RS) (x : Nat → Int32) : r_we (rs_ra u x) = r_we u := rfl
theorem r_we_lo (u : RS) (x : Nat → Int32) : r_we (rs_lo u x) = r_we u := rfl
theorem r_we_sz (u : RS) (x : Nat) : r_we (rs_sz u x) = r_we u := rfl
theorem r_we_tx (u : RS) (x : Nat → Int32) : r_we (rs_tx u x) = r_we u := rfl
theorem r_we_co (u : RS) (x : Nat → Int32) : r_we (rs_co u x) = r_we u := rfl
theorem r_we_lc (u : RS) (x : Nat → Int32) : r_we (rs_lc u x) = r_we u := rfl
theorem r_we_ln (u : RS) (x : Nat → Int32) : r_we (rs_ln u x) = r_we u := rfl
theorem r_we_we (u : RS) (x : Nat → Int32) : r_we (rs_we u x) = x := rfl
theorem r_we_cl (u : RS) (x : Nat → Int32) : r_we (rs_cl u x) = r_we u := rfl
theorem r_we_hi (u : RS) (x : Nat → Int32) : r_we (rs_hi u x) = r_we u := rfl
theorem r_we_nd (u : RS) (x : Nat) : r_we (rs_nd u x) = r_we u := rfl
theorem r_we_ob (u : RS) (x : Int32) : r_we (rs_ob u x) = r_we u := rfl
theorem r_we_er (u : RS) (x : Int64) : r_we (rs_er u x) = r_we u := rfl
theorem r_we_cs (u : RS) (x : Nat) : r_we (rs_cs u x) = r_we u := rfl
theorem r_we_cd (u : RS) (x : Nat → Int32) : r_we (rs_cd u x) = r_we u := rfl
theorem r_we_mk (u : RS) (x : Nat) : r_we (rs_mk u x) = r_we u := rfl
theorem r_we_ou (u : RS) (x : Nat → Int32) : r_we (rs_ou u x) = r_we u := rfl
theorem r_we_lw (u : RS) (x : Int64) : r_we (rs_lw u x) = r_we u := rfl
theorem r_we_hg (u : RS) (x : Int64) : r_we (rs_hg u x) = r_we u := rfl
theorem r_cl_th (u : RS) (x : Int32) : r_cl (rs_th u x) = r_cl u := rfl
theorem r_cl_n (u : RS) (x : Nat) : r_cl (rs_n u x) = r_cl u := rfl
theorem r_cl_od (u : RS) (x : Nat → Int32) : r_cl (rs_od u x) = r_cl u := rfl
theorem r_cl_ra (u : RS) (x : Nat → Int32) : r_cl (rs_ra u x) = r_cl u := rfl
theorem r_cl_lo (u : RS) (x : Nat → Int32) : r_cl (rs_lo u x) = r_cl u := rfl
theorem r_cl_sz (u : RS) (x : Nat) : r_cl (rs_sz u x) = r_cl u := rfl
theorem r_cl_tx (u : RS) (x : Nat → Int32) : r_cl (rs_tx u x) = r_cl u := rfl
theorem r_cl_co (u : RS) (x : Nat → Int32) : r_cl (rs_co u x) = r_cl u := rfl
theorem r_cl_lc (u : RS) (x : Nat → Int32) : r_cl (rs_lc u x) = r_cl u := rfl
theorem r_cl_ln (u : RS) (x : Nat → Int32) : r_cl (rs_ln u x) = r_cl u := rfl
theorem r_cl_we (u : RS) (x : Nat → Int32) : r_cl (rs_we u x) = r_cl u := rfl
theorem r_cl_cl (u : RS) (x : Nat → Int32) : r_cl (rs_cl u x) = x := rfl
theorem r_cl_hi (u : RS) (x : Nat → Int32) : r_cl (rs_hi u x) = r_cl u := rfl
theorem r_cl_nd (u : RS) (x : Nat) : r_cl (rs_nd u x) = r_cl u := rfl
theorem r_cl_ob (u : RS) (x : Int32) : r_cl (rs_ob u x) = r_cl u := rfl
theorem r_cl_er (u : RS) (x : Int64) : r_cl (rs_er u x) = r_cl u := rfl
theorem r_cl_cs (u : RS) (x : Nat) : r_cl (rs_cs u x) = r_cl u := rfl
theorem r_cl_cd (u : RS) (x : Nat → Int32) : r_cl (rs_cd u x) = r_cl u := rfl
theorem r_cl_mk (u : RS) (x : Nat) : r_cl (rs_mk u x) = r_cl u := rfl
theorem r_cl_ou (u : RS) (x : Nat → Int32) : r_cl (rs_ou u x) = r_cl u := rfl
theorem r_cl_lw (u : RS) (x : Int64) : r_cl (rs_lw u x) = r_cl u := rfl
theorem r_cl_hg (u : RS) (x : Int64) : r_cl (rs_hg u x) = r_cl u := rfl
theorem r_hi_th (u : RS) (x : Int32) : r_hi (rs_th u x) = r_hi u := rfl
theorem r_hi_n (u : RS) (x : Nat) : r_hi (rs_n u x) = r_hi u := rfl
theorem r_hi_od (u : RS) (x : Nat → Int32) : r_hi (rs_od u x) = r_hi u := rfl
theorem r_hi_ra (u : RS) (x : Nat → Int32) : r_hi (rs_ra u x) = r_hi u := rfl
theorem r_hi_lo (u : RS) (x : Nat → Int32) : r_hi (rs_lo u x) = r_hi u := rfl
theorem r_hi_sz (u : RS) (x : Nat) : r_hi (rs_sz u x) = r_hi u := rfl
theorem r_hi_tx (u : RS) (x : Nat → Int32) : r_hi (rs_tx u x) = r_hi u := rfl
theorem r_hi_co (u : RS) (x : Nat → Int32) : r_hi (rs_co u x) = r_hi u := rfl
theorem r_hi_lc (u : RS) (x : Nat → Int32) : r_hi (rs_lc u x) = r_hi u := rfl
theorem r_hi_ln (u : RS) (x : Nat → Int32) : r_hi (rs_ln u x) = r_hi u := rfl
theorem r_hi_we (u : RS) (x : Nat → Int32) : r_hi (rs_we u x) = r_hi u := rfl
theorem r_hi_cl (u : RS) (x : Nat → Int32) : r_hi (rs_cl u x) = r_hi u := rfl
theorem r_hi_hi (u : RS) (x : Nat → Int32) : r_hi (rs_hi u x) = x := rfl
theorem r_hi_nd (u : RS) (x : Nat) : r_hi (rs_nd u x) = r_hi u := rfl
theorem r_hi_ob (u : RS) (x : Int32) : r_hi (rs_ob u x) = r_hi u := rfl
theorem r_hi_er (u : RS) (x : Int64) : r_hi (rs_er u x) = r_hi u := rfl
theorem r_hi_cs (u : RS) (x : Nat) : r_hi (rs_cs u x) = r_hi u := rfl
theorem r_hi_cd (u : RS) (x : Nat → Int32) : r_hi (rs_cd u x) = r_hi u := rfl
theorem r_hi_mk (u : RS) (x : Nat) : r_hi (rs_mk u x) = r_hi u := rfl
theorem r_hi_ou (u : RS) (x : Nat → Int32) : r_hi (rs_ou u x) = r_hi u := rfl
theorem r_hi_lw (u : RS) (x : Int64) : r_hi (rs_lw u x) = r_hi u := rfl
theorem r_hi_hg (u : RS) (x : Int64) : r_hi (rs_hg u x) = r_hi u := rfl
theorem r_nd_th (u : RS) (x : Int32) : r_nd (rs_th u x) = r_nd u := rfl
theorem r_nd_n (u : RS) (x : Nat) : r_nd (rs_n u x) = r_nd u := rfl
theorem r_nd_od (u : RS) (x : Nat → Int32) : r_nd (rs_od u x) = r_nd u := rfl
theorem r_nd_ra (u : RS) (x : Nat → Int32) : r_nd (rs_ra u x) = r_nd u := rfl
theorem r_nd_lo (u : RS) (x : Nat → Int32) : r_nd (rs_lo u x) = r_nd u := rfl
theorem r_nd_sz (u : RS) (x : Nat) : r_nd (rs_sz u x) = r_nd u := rfl
theorem r_nd_tx (u : RS) (x : Nat → Int32) : r_nd (rs_tx u x) = r_nd u := rfl
theorem r_nd_co (u : RS) (x : Nat → Int32) : r_nd (rs_co u x) = r_nd u := rfl
theorem r_nd_lc (u : RS) (x : Nat → Int32) : r_nd (rs_lc u x) = r_nd u := rfl
theorem r_nd_ln (u : RS) (x : Nat → Int32) : r_nd (rs_ln u x) = r_nd u := rfl
theorem r_nd_we (u : RS) (x : Nat → Int32) : r_nd (rs_we u x) = r_nd u := rfl
theorem r_nd_cl (u : RS) (x : Nat → Int32) : r_nd (rs_cl u x) = r_nd u := rfl
theorem r_nd_hi (u : RS) (x : Nat → Int32) : r_nd (rs_hi u x) = r_nd u := rfl
theorem r_nd_nd (u : RS) (x : Nat) : r_nd (rs_nd u x) = x := rfl
theorem r_nd_ob (u : RS) (x : Int32) : r_nd (rs_ob u x) = r_nd u := rfl
theorem r_nd_er (u : RS) (x : Int64) : r_nd (rs_er u x) = r_nd u := rfl
theorem r_nd_cs (u : RS) (x : Nat) : r_nd (rs_cs u x) = r_nd u := rfl
theorem r_nd_cd (u : RS) (x : Nat → Int32) : r_nd (rs_cd u x) = r_nd u := rfl
theorem r_nd_mk (u : RS) (x : Nat) : r_nd (rs_mk u x) = r_nd u := rfl
theorem r_nd_ou (u : RS) (x : Nat → Int32) : r_nd (rs_ou u x) = r_nd u := rfl
theorem r_nd_lw (u : RS) (x : Int64) : r_nd (rs_lw u x) = r_nd u := rfl
theorem r_nd_hg (u : RS) (x : Int64) : r_nd (rs_hg u x) = r_nd u := rfl
theorem r_ob_th (u : RS) (x : Int32) : r_ob (rs_th u x) = r_ob u := rfl
theorem r_ob_n (u : RS) (x : Nat) : r_ob (rs_n u x) = r_ob u := rfl
theorem r_ob_od (u : RS) (x : Nat → Int32) : r_ob (rs_od u x) = r_ob u := rfl
theorem r_ob_ra (u : RS) (x : Nat → Int32) : r_ob (rs_ra u x) = r_ob u := rfl
theorem r_ob_lo (u : RS) (x : Nat → Int32) : r_ob (rs_lo u x) = r_ob u := rfl
theorem r_ob_sz (u : RS) (x : Nat) : r_ob (rs_sz u x) = r_ob u := rfl
theorem r_ob_tx (u : RS) (x : Nat → Int32) : r_ob (rs_tx u x) = r_ob u := rfl
theorem r_ob_co (u : RS) (x : Nat → Int32) : r_ob (rs_co u x) = r_ob u := rfl
theorem r_ob_lc (u : RS) (x : Nat → Int32) : r_ob (rs_lc u x) = r_ob u := rfl
theorem r_ob_ln (u : RS) (x : Nat → Int32) : r_ob (rs_ln u x) = r_ob u := rfl
theorem r_ob_we (u : RS) (x : Nat → Int32) : r_ob (rs_we u x) = r_ob u := rfl
theorem r_ob_cl (u : RS) (x : Nat → Int32) : r_ob (rs_cl u x) = r_ob u := rfl
theorem r_ob_hi (u : RS) (x : Nat → Int32) : r_ob (rs_hi u x) = r_ob u := rfl
theorem r_ob_nd (u : RS) (x : Nat) : r_ob (rs_nd u x) = r_ob u := rfl
theorem r_ob_ob (u : RS) (x : Int32) : r_ob (rs_ob u x) = x := rfl
theorem r_ob_er (u : RS) (x : Int64) : r_ob (rs_er u x) = r_ob u := rfl
theorem r_ob_cs (u : RS) (x : Nat) : r_ob (rs_cs u x) = r_ob u := rfl
theorem r_ob_cd (u : RS) (x : Nat → Int32) : r_ob (rs_cd u x) = r_ob u := rfl
theorem r_ob_mk (u : RS) (x : Nat) : r_ob (rs_mk u x) = r_ob u := rfl
theorem r_ob_ou (u : RS) (x : Nat → Int32) : r_ob (rs_ou u x) = r_ob u := rfl
theorem r_ob_lw (u : RS) (x : Int64) : r_ob (rs_lw u x) = r_ob u := rfl
theorem r_ob_hg (u : RS) (x : Int64) : r_ob (rs_hg u x) = r_ob u := rfl
theorem r_er_th (u : RS) (x : Int32) : r_er (rs_th u x) = r_er u := rfl
theorem r_er_n (u : RS) (x : Nat) : r_er (rs_n u x) = r_er u := rfl
theorem r_er_od (u : RS) (x : Nat → Int32) : r_er (rs_od u x) = r_er u := rfl
theorem r_er_ra (u : RS) (x : Nat → Int32) : r_er (rs_ra u x) = r_er u := rfl
theorem r_er_lo (u : RS) (x : Nat → Int32) : r_er (rs_lo u x) = r_er u := rfl
theorem r_er_sz (u : RS) (x : Nat) : r_er (rs_sz u x) = r_er u := rfl
theorem r_er_tx (u : RS) (x : Nat → Int32) : r_er (rs_tx u x) = r_er u := rfl
theorem r_er_co (u : RS) (x : Nat → Int32) : r_er (rs_co u x) = r_er u := rfl
theorem r_er_lc (u : RS) (x : Nat → Int32) : r_er (rs_lc u x) = r_er u := rfl
theorem r_er_ln (u : RS) (x : Nat → Int32) : r_er (rs_ln u x) = r_er u := rfl
theorem r_er_we (u : RS) (x : Nat → Int32) : r_er (rs_we u x) = r_er u := rfl
theorem r_er_cl (u : RS) (x : Nat → Int32) : r_er (rs_cl u x) = r_er u := rfl
theorem r_er_hi (u : RS) (x : Nat → Int32) : r_er (rs_hi u x) = r_er u := rfl
theorem r_er_nd (u : RS) (x : Nat) : r_er (rs_nd u x) = r_er u := rfl
theorem r_er_ob (u : RS) (x : Int32) : r_er (rs_ob u x) = r_er u := rfl
theorem r_er_er (u : RS) (x : Int64) : r_er (rs_er u x) = x := rfl
theorem r_er_cs (u : RS) (x : Nat) : r_er (rs_cs u x) = r_er u := rfl
theorem r_er_cd (u : RS) (x : Nat → Int32) : r_er (rs_cd u x) = r_er u := rfl
theorem r_er_mk (u : RS) (x : Nat) : r_er (rs_mk u x) = r_er u := rfl
theorem r_er_ou (u : RS) (x : Nat → Int32) : r_er (rs_ou u x) = r_er u := rfl
theorem r_er_lw (u : RS) (x : Int64) : r_er (rs_lw u x) = r_er u := rfl
theorem r_er_hg (u : RS) (x : Int64) : r_er (rs_hg u x) = r_er u := rfl
theorem r_cs_th (u : RS) (x : Int32) : r_cs (rs_th u x) = r_cs u := rfl
theorem r_cs_n (u : RS) (x : Nat) : r_cs (rs_n u x) = r_cs u := rfl
theorem r_cs_od (u : RS) (x : Nat → Int32) : r_cs (rs_od u x) = r_cs u := rfl
theorem r_cs_ra (u : RS) (x : Nat → Int32) : r_cs (rs_ra u x) = r_cs u := rfl
theorem r_cs_lo (u : RS) (x : Nat → Int32) : r_cs (rs_lo u x) = r_cs u := rfl
theorem r_cs_sz (u : RS) (x : Nat) : r_cs (rs_sz u x) = r_cs u := rfl
theorem r_cs_tx (u : RS) (x : Nat → Int32) : r_cs (rs_tx u x) = r_cs u := rfl
theorem r_cs_co (u : RS) (x : Nat → Int32) : r_cs (rs_co u x) = r_cs u := rfl
theorem r_cs_lc (u : RS) (x : Nat → Int32) : r_cs (rs_lc u x) = r_cs u := rfl
theorem r_cs_ln (u : RS) (x : Nat → Int32) : r_cs (rs_ln u x) = r_cs u := rfl
theorem r_cs_we (u : RS) (x : Nat → Int32) : r_cs (rs_we u x) = r_cs u := rfl
theorem r_cs_cl (u : RS) (x : Nat → Int32) : r_cs (rs_cl u x) = r_cs u := rfl
theorem r_cs_hi (u : RS) (x : Nat → Int32) : r_cs (rs_hi u x) = r_cs u := rfl
theorem r_cs_nd (u : RS) (x : Nat) : r_cs (rs_nd u x) = r_cs u := rfl
theorem r_cs_ob (u : RS) (x : Int32) : r_cs (rs_ob u x) = r_cs u := rfl
theorem r_cs_er (u : RS) (x : Int64) : r_cs (rs_er u x) = r_cs u := rfl
theorem r_cs_cs (u : RS) (x : Nat) : r_cs (rs_cs u x) = x := rfl
theorem r_cs_cd (u : RS) (x : Nat → Int32) : r_cs (rs_cd u x) = r_cs u := rfl
theorem r_cs_mk (u : RS) (x : Nat) : r_cs (rs_mk u x) = r_cs u := rfl
theorem r_cs_ou (u : RS) (x : Nat → Int32) : r_cs (rs_ou u x) = r_cs u := rfl
theorem r_cs_lw (u : RS) (x : Int64) : r_cs (rs_lw u x) = r_cs u := rfl
theorem r_cs_hg (u : RS) (x : Int64) : r_cs (rs_hg u x) = r_cs u := rfl
theorem r_cd_th (u : RS) (x : Int32) : r_cd (rs_th u x) = r_cd u := rfl
theorem r_cd_n (u : RS) (x : Nat) : r_cd (rs_n u x) = r_cd u := rfl
theorem r_cd_od (u : RS) (x : Nat → Int32) : r_cd (rs_od u x) = r_cd u := rfl
theorem r_cd_ra (u : RS) (x : Nat → Int32) : r_cd (rs_ra u x) = r_cd u := rfl
theorem r_cd_lo (u : RS) (x : Nat → Int32) : r_cd (rs_lo u x) = r_cd u := rfl
theorem r_cd_sz (u : RS) (x : Nat) : r_cd (rs_sz u x) = r_cd u := rfl
theorem r_cd_tx (u : RS) (x : Nat → Int32) : r_cd (rs_tx u x) = r_cd u := rfl
theorem r_cd_co (u : RS) (x : Nat → Int32) : r_cd (rs_co u x) = r_cd u := rfl
theorem r_cd_lc (u : RS) (x : Nat → Int32) : r_cd (rs_lc u x) = r_cd u := rfl
theorem r_cd_ln (u : RS) (x : Nat → Int32) : r_cd (rs_ln u x) = r_cd u := rfl
theorem r_cd_we (u : RS) (x : Nat → Int32) : r_cd (rs_we u x) = r_cd u := rfl
theorem r_cd_cl (u : RS) (x : Nat → Int32) : r_cd (rs_cl u x) = r_cd u := rfl
theorem r_cd_hi (u : RS) (x : Nat → Int32) : r_cd (rs_hi u x) = r_cd u := rfl
theorem r_cd_nd (u : RS) (x : Nat) : r_cd (rs_nd u x) = r_cd u := rfl
theorem r_cd_ob (u : RS) (x : Int32) : r_cd (rs_ob u x) = r_cd u := rfl
theorem r_cd_er (u : RS) (x : Int64) : r_cd (rs_er u x) = r_cd u := rfl
theorem r_cd_cs (u : RS) (x : Nat) : r_cd (rs_cs u x) = r_cd u := rfl
theorem r_cd_cd (u : RS) (x : Nat → Int32) : r_cd (rs_cd u x) = x := rfl
theorem r_cd_mk (u : RS) (x : Nat) : r_cd (rs_mk u x) = r_cd u := rfl
theorem r_cd_ou (u : RS) (x : Nat → Int32) : r_cd (rs_ou u x) = r_cd u := rfl
theorem r_cd_lw (u : RS) (x : Int64) : r_cd (rs_lw u x) = r_cd u := rfl
theorem r_cd_hg (u : RS) (x : Int64) : r_cd (rs_hg u x) = r_cd u := rfl
theorem r_mk_th (u : RS) (x : Int32) : r_mk (rs_th u x) = r_mk u := rfl
theorem r_mk_n (u : RS) (x : Nat) : r_mk (rs_n u x) = r_mk u := rfl
theorem r_mk_od (u : RS) (x : Nat → Int32) : r_mk (rs_od u x) = r_mk u := rfl
theorem r_mk_ra (u : RS) (x : Nat → Int32) : r_mk (rs_ra u x) = r_mk u := rfl
theorem r_mk_lo (u : RS) (x : Nat → Int32) : r_mk (rs_lo u x) = r_mk u := rfl
theorem r_mk_sz (u : RS) (x : Nat) : r_mk (rs_sz u x) = r_mk u := rfl
theorem r_mk_tx (u : RS) (x : Nat → Int32) : r_mk (rs_tx u x) = r_mk u := rfl
theorem r_mk_co (u : RS) (x : Nat → Int32) : r_mk (rs_co u x) = r_mk u := rfl
theorem r_mk_lc (u : RS) (x : Nat → Int32) : r_mk (rs_lc u x) = r_mk u := rfl
theorem r_mk_ln (u : RS) (x : Nat → Int32) : r_mk (rs_ln u x) = r_mk u := rfl
theorem r_mk_we (u : RS) (x : Nat → Int32) : r_mk (rs_we u x) = r_mk u := rfl
theorem r_mk_cl (u : RS) (x : Nat → Int32) : r_mk (rs_cl u x) = r_mk u := rfl
theorem r_mk_hi (u : RS) (x : Nat → Int32) : r_mk (rs_hi u x) = r_mk u := rfl
theorem r_mk_nd (u : RS) (x : Nat) : r_mk (rs_nd u x) = r_mk u := rfl
theorem r_mk_ob (u : RS) (x : Int32) : r_mk (rs_ob u x) = r_mk u := rfl
theorem r_mk_er (u : RS) (x : Int64) : r_mk (rs_er u x) = r_mk u := rfl
theorem r_mk_cs (u : RS) (x : Nat) : r_mk (rs_cs u x) = r_mk u := rfl
theorem r_mk_cd (u : RS) (x : Nat → Int32) : r_mk (rs_cd u x) = r_mk u := rfl
theorem r_mk_mk (u : RS) (x : Nat) : r_mk (rs_mk u x) = x := rfl
theorem r_mk_ou (u : RS) (x : Nat → Int32) : r_mk (rs_ou u x) = r_mk u := rfl
theorem r_mk_lw (u : RS) (x : Int64) : r_mk (rs_lw u x) = r_mk u := rfl
theorem r_mk_hg (u : RS) (x : Int64) : r_mk (rs_hg u x) = r_mk u := rfl
theorem r_ou_th (u : RS) (x : Int32) : r_ou (rs_th u x) = r_ou u := rfl
theorem r_ou_n (u : RS) (x : Nat) : r_ou (rs_n u x) = r_ou u := rfl
theorem r_ou_od (u : RS) (x : Nat → Int32) : r_ou (rs_od u x) = r_ou u := rfl
theorem r_ou_ra (u : RS) (x : Nat → Int32) : r_ou (rs_ra u x) = r_ou u := rfl
theorem r_ou_lo (u : RS) (x : Nat → Int32) : r_ou (rs_lo u x) = r_ou u := rfl
theorem r_ou_sz (u : RS) (x : Nat) : r_ou (rs_sz u x) = r_ou u := rfl
theorem r_ou_tx (u : RS) (x : Nat → Int32) : r_ou (rs_tx u x) = r_ou u := rfl
theorem r_ou_co (u : RS) (x : Nat → Int32) : r_ou (rs_co u x) = r_ou u := rfl
theorem r_ou_lc (u : RS) (x : Nat → Int32) : r_ou (rs_lc u x) = r_ou u := rfl
theorem r_ou_ln (u : RS) (x : Nat → Int32) : r_ou (rs_ln u x) = r_ou u := rfl
theorem r_ou_we (u : RS) (x : Nat → Int32) : r_ou (rs_we u x) = r_ou u := rfl
theorem r_ou_cl (u : RS) (x : Nat → Int32) : r_ou (rs_cl u x) = r_ou u := rfl
theorem r_ou_hi (u : RS) (x : Nat → Int32) : r_ou (rs_hi u x) = r_ou u := rfl
theorem r_ou_nd (u : RS) (x : Nat) : r_ou (rs_nd u x) = r_ou u := rfl
theorem r_ou_ob (u : RS) (x : Int32) : r_ou (rs_ob u x) = r_ou u := rfl
theorem r_ou_er (u : RS) (x : Int64) : r_ou (rs_er u x) = r_ou u := rfl
theorem r_ou_cs (u : RS) (x : Nat) : r_ou (rs_cs u x) = r_ou u := rfl
theorem r_ou_cd (u : RS) (x : Nat → Int32) : r_ou (rs_cd u x) = r_ou u := rfl
theorem r_ou_mk (u : RS) (x : Nat) : r_ou (rs_mk u x) = r_ou u := rfl
theorem r_ou_ou (u : RS) (x : Nat → Int32) : r_ou (rs_ou u x) = x := rfl
theorem r_ou_lw (u : RS) (x : Int64) : r_ou (rs_lw u x) = r_ou u := rfl
theorem r_ou_hg (u : RS) (x : Int64) : r_ou (rs_hg u x) = r_ou u := rfl
theorem r_lw_th (u : RS) (x : Int32) : r_lw (rs_th u x) = r_lw u := rfl
theorem r_lw_n (u : RS) (x : Nat) : r_lw (rs_n u x) = r_lw u := rfl
theorem r_lw_od (u : RS) (x : Nat → Int32) : r_lw (rs_od u x) = r_lw u := rfl
theorem r_lw_ra (u : RS) (x : Nat → Int32) : r_lw (rs_ra u x) = r_lw u := rfl
theorem r_lw_lo (u : RS) (x : Nat → Int32) : r_lw (rs_lo u x) = r_lw u := rfl
theorem r_lw_sz (u : RS) (x : Nat) : r_lw (rs_sz u x) = r_lw u := rfl
theorem r_lw_tx (u : RS) (x : Nat → Int32) : r_lw (rs_tx u x) = r_lw u := rfl
theorem r_lw_co (u : RS) (x : Nat → Int32) : r_lw (rs_co u x) = r_lw u := rfl
theorem r_lw_lc (u : RS) (x : Nat → Int32) : r_lw (rs_lc u x) = r_lw u := rfl
theorem r_lw_ln (u : RS) (x : Nat → Int32) : r_lw (rs_ln u x) = r_lw u := rfl
theorem r_lw_we (u : RS) (x : Nat → Int32) : r_lw (rs_we u x) = r_lw u := rfl
theorem r_lw_cl (u : RS) (x : Nat → Int32) : r_lw (rs_cl u x) = r_lw u := rfl
theorem r_lw_hi (u : RS) (x : Nat → Int32) : r_lw (rs_hi u x) = r_lw u := rfl
theorem r_lw_nd (u : RS) (x : Nat) : r_lw (rs_nd u x) = r_lw u := rfl
theorem r_lw_ob (u : RS) (x : Int32) : r_lw (rs_ob u x) = r_lw u := rfl
theorem r_lw_er (u : RS) (x : Int64) : r_lw (rs_er u x) = r_lw u := rfl
theorem r_lw_cs (u : RS) (x : Nat) : r_lw (rs_cs u x) = r_lw u := rfl
theorem r_lw_cd (u : RS) (x : Nat → Int32) : r_lw (rs_cd u x) = r_lw u := rfl
theorem r_lw_mk (u : RS) (x : Nat) : r_lw (rs_mk u x) = r_lw u := rfl
theorem r_lw_ou (u : RS) (x : Nat → Int32) : r_lw (rs_ou u x) = r_lw u := rfl
theorem r_lw_lw (u : RS) (x : Int64) : r_lw (rs_lw u x) = x := rfl
theorem r_lw_hg (u : RS) (x : Int64) : r_lw (rs_hg u x) = r_lw u := rfl
theorem r_hg_th (u : RS) (x : Int32) : r_hg (rs_th u x) = r_hg u := rfl
theorem r_hg_n (u : RS) (x : Nat) : r_hg (rs_n u x) = r_hg u := rfl
theorem r_hg_od (u : RS) (x : Nat → Int32) : r_hg (rs_od u x) = r_hg u := rfl
theorem r_hg_ra (u : RS) (x : Nat → Int32) : r_hg (rs_ra u x) = r_hg u := rfl
theorem r_hg_lo (u : RS) (x : Nat → Int32) : r_hg (rs_lo u x) = r_hg u := rfl
theorem r_hg_sz (u : RS) (x : Nat) : r_hg (rs_sz u x) = r_hg u := rfl
theorem r_hg_tx (u : RS) (x : Nat → Int32) : r_hg (rs_tx u x) = r_hg u := rfl
theorem r_hg_co (u : RS) (x : Nat → Int32) : r_hg (rs_co u x) = r_hg u := rfl
theorem r_hg_lc (u : RS) (x : Nat → Int32) : r_hg (rs_lc u x) = r_hg u := rfl
theorem r_hg_ln (u : RS) (x : Nat → Int32) : r_hg (rs_ln u x) = r_hg u := rfl
theorem r_hg_we (u : RS) (x : Nat → Int32) : r_hg (rs_we u x) = r_hg u := rfl
theorem r_hg_cl (u : RS) (x : Nat → Int32) : r_hg (rs_cl u x) = r_hg u := rfl
theorem r_hg_hi (u : RS) (x : Nat → Int32) : r_hg (rs_hi u x) = r_hg u := rfl
theorem r_hg_nd (u : RS) (x : Nat) : r_hg (rs_nd u x) = r_hg u := rfl
theorem r_hg_ob (u : RS) (x : Int32) : r_hg (rs_ob u x) = r_hg u := rfl
theorem r_hg_er (u : RS) (x : Int64) : r_hg (rs_er u x) = r_hg u := rfl
theorem r_hg_cs (u : RS) (x : Nat) : r_hg (rs_cs u x) = r_hg u := rfl
theorem r_hg_cd (u : RS) (x : Nat → Int32) : r_hg (rs_cd u x) = r_hg u := rfl
theorem r_hg_mk (u : RS) (x : Nat) : r_hg (rs_mk u x) = r_hg u := rfl
theorem r_hg_ou (u : RS) (x : Nat → Int32) : r_hg (rs_ou u x) = r_hg u := rfl
theorem r_hg_lw (u : RS) (x : Int64) : r_hg (rs_lw u x) = r_hg u := rfl
theorem r_hg_hg (u : RS) (x : Int64) : r_hg (rs_hg u x) = x := rfl
def rowW (cI : ClassId) (h0 h1 lim : Nat) (r : Row) : va_W := [(h0, .inr (0, [.ref h1, .int (nI (q_c r))])), (h1, .inl (cI, lim, .inl (q_f r)))]
def ivW (h0 : Nat) (v : Iv) : va_W := [(h0, .inr (1, [.long (v_lo v), .long (v_hi v), .long (v_x v), .int (v_nx v)]))]
def moW (cI cL : ClassId) (h0 h1 h2 h3 : Nat) (o : Mo) : va_W := [(h0, .inr (2, [.int (o_od o), .int (o_rt o), .int (o_t o), .ref h1, .ref h2, .ref h3, .int (o_cn o), .int (o_cx o), .long (o_si o), .int (o_pl o)])), (h1, .inl (cI, 512, .inl (o_co o))), (h2, .inl (cL, 512, .inr (.inl (o_se o)))), (h3, .inl (cI, 8, .inl (o_we o)))]
/-- where model j lies -/
abbrev adM (a : Nat → Nat) (j : Nat) : Nat := a (11 + 4 * j)
def prW (cI cL cM : ClassId) (a : Nat → Nat) (k : Pr) : va_W := [(a 7, .inr (3, [.ref (a 8), .int (nI (k_n k)), .ref (a 9), .int (nI (k_nd k)), .int (k_ph k), .int (k_bt k), .long (k_er k)])), (a 8, .inl (cM, 6, .inr (.inr (.inr (.inr (fun j => some (a (11 + 4 * j)))))))), (a 9, .inl (cI, 3, .inl (k_la k)))] ++ (moW cI cL (a 11) (a 12) (a 13) (a 14) (k_mo k 0) ++ (moW cI cL (a 15) (a 16) (a 17) (a 18) (k_mo k 1) ++ (moW cI cL (a 19) (a 20) (a 21) (a 22) (k_mo k 2) ++ (moW cI cL (a 23) (a 24) (a 25) (a 26) (k_mo k 3) ++ (moW cI cL (a 27) (a 28) (a 29) (a 30) (k_mo k 4) ++ moW cI cL (a 31) (a 32) (a 33) (a 34) (k_mo k 5))))))
def mxW (cI cL cM : ClassId) (a : Nat → Nat) (x : Mx) : va_W := [(a 0, .inr (4, [.ref (a 1), .ref (a 3), .ref (a 5), .ref (a 7), .ref (a 10)]))] ++ (rowW cI (a 1) (a 2) 80 (x_tx x) ++ (rowW cI (a 3) (a 4) 2564 (x_en x) ++ (rowW cI (a 5) (a 6) 80 (x_de x) ++ (prW cI cL cM a (x_pr x) ++ ivW (a 10) (x_iv x)))))
def rfW (cI : ClassId) (b : Nat → Nat) (u : RS) : va_W := [(b 0, .inr (5, [.int (r_th u), .int (nI (r_n u)), .ref (b 1), .ref (b 2), .ref (b 3), .int (nI (r_sz u)), .ref (b 4), .ref (b 5), .ref (b 6), .ref (b 7), .ref (b 8), .ref (b 9), .ref (b 10), .int (nI (r_nd u)), .int (r_ob u), .long (r_er u), .int (nI (r_cs u)), .ref (b 11), .int (nI (r_mk u)), .ref (b 12), .long (r_lw u), .long (r_hg u)])), (b 1, .inl (cI, 6, .inl (r_od u))), (b 2, .inl (cI, 6, .inl (r_ra u))), (b 3, .inl (cI, 6, .inl (r_lo u))), (b 4, .inl (cI, 80, .inl (r_tx u))), (b 5, .inl (cI, 3072, .inl (r_co u))), (b 6, .inl (cI, 3072, .inl (r_lc u))), (b 7, .inl (cI, 3072, .inl (r_ln u))), (b 8, .inl (cI, 48, .inl (r_we u))), (b 9, .inl (cI, 6, .inl (r_cl u))), (b 10, .inl (cI, 3, .inl (r_hi u))), (b 11, .inl (cI, 3000, .inl (r_cd u))), (b 12, .inl (cI, 80, .inl (r_ou u)))]
theorem tI0 : (0 : Int32).toInt = 0 := by decide
theorem tI1 : (1 : Int32).toInt = 1 := by decide
theorem tI2 : (2 : Int32).toInt = 2 := by decide
theorem tI3 : (3 : Int32).toInt = 3 := by decide
theorem tI4 : (4 : Int32).toInt = 4 := by decide
theorem tI6 : (6 : Int32).toInt = 6 := by decide
theorem tI7 : (7 : Int32).toInt = 7 := by decide
theorem tI8 : (8 : Int32).toInt = 8 := by decide
theorem tI16 : (16 : Int32).toInt = 16 := by decide
theorem tI24 : (24 : Int32).toInt = 24 := by decide
theorem tI31 : (31 : Int32).toInt = 31 := by decide
theorem tI80 : (80 : Int32).toInt = 80 := by decide
theorem tI255 : (255 : Int32).toInt = 255 := by decide
theorem tI256 : (256 : Int32).toInt = 256 := by decide
theorem tI257 : (257 : Int32).toInt = 257 := by decide
theorem tI512 : (512 : Int32).toInt = 512 := by decide
theorem tI2048 : (2048 : Int32).toInt = 2048 := by decide
theorem tI2564 : (2564 : Int32).toInt = 2564 := by decide
theorem tI3000 : (3000 : Int32).toInt = 3000 := by decide
theorem tI4095 : (4095 : Int32).toInt = 4095 := by decide
theorem tI4096 : (4096 : Int32).toInt = 4096 := by decide
theorem tI60000 : (60000 : Int32).toInt = 60000 := by decide
theorem tIm1 : (-1 : Int32).toInt = -1 := by decide
theorem vin {k : Int32} {n : Nat} (h0 : 0 ≤ k.toInt) (h1 : k.toInt < n) : vp_in k n := vp_in_iff.mpr ⟨h0, h1⟩
theorem nIT {n N : Nat} (h : n ≤ N) (hN : N < 2147483648) : (nI n).toInt = (n : Int) := nI_toInt (Nat.lt_of_le_of_lt h hN)
end
section
/-! ===== ByteRow ===== -/
theorem putW_nil (ws w : va_W) : putW ws [] w = ws := by cases w <;> rfl
theorem rowW_all (cI : ClassId) (h0 h1 lim : Nat) (r r' : Row) : putW (rowW cI h0 h1 lim r) [0, 1] (rowW cI h0 h1 lim r') = rowW cI h0 h1 lim r' := rfl
theorem ivW_all (h0 : Nat) (v v' : Iv) : putW (ivW h0 v) [0] (ivW h0 v') = ivW h0 v' := rfl
def q_has (r : Row) (k : Int32) : Int32 := if 0 ≤ k.toInt ∧ k.toInt < (q_c r : Int) then 1 else 0
def q_at (r : Row) (k : Int32) : Int32 := if 0 ≤ k.toInt ∧ k.toInt < (q_c r : Int) then q_f r k.toNatClampNeg else 0
def q_put (r : Row) (k v : Int32) : Row := if 0 ≤ k.toInt ∧ k.toInt < (q_c r : Int) then qs_f r (upd (q_f r) k.toNatClampNeg v) else r
def q_app (lim : Nat) (r : Row) (v : Int32) : Row := if q_c r < lim then qs_f (qs_c r (q_c r + 1)) (upd (q_f r) (q_c r) v) else r
theorem q_has_in {r : Row} {k : Int32} (h : ¬ q_has r k = 0) : 0 ≤ k.toInt ∧ k.toInt < (q_c r : Int) := by
  unfold q_has at h
  split at h
  · assumption
  · exact absurd rfl h
theorem q_has_out {r : Row} {k : Int32} (h : q_has r k = 0) : ¬ (0 ≤ k.toInt ∧ k.toInt < (q_c r : Int)) := by
  unfold q_has at h
  split at h
  · exact absurd h (by decide)
  · assumption

set_option maxHeartbeats 4000000 in
set_option maxRecDepth 100000 in
/-- whether there is a byte at k -/
theorem c_X0_has (l : Launch) (D : va_G) (cI cL cM : ClassId) (A : Nat → Prop) (h0 h1 lim : Nat) (r : Row) (k : Int32) (hc : q_c r ≤ lim) (hm : lim < 2147483648) : mI l yX0_has wsX0_has ({ frames := 0, cells := 0, slots := 0, locals := 0 }) D (tB cI cL cM) A [.ref h0, .int k] (rowW cI h0 h1 lim r) (q_has r k) (rowW cI h0 h1 lim r) := by
  refine Met.ofW (cc := cX0_has) (maxL := 2) (ret := (some .boolean)) (by decide) rfl ?_
  intro p e s m args below meth c s₁ B hml hv
  obtain ⟨rfl, hP, hE, hD, hA⟩ := hv
  have hK := hE.1
  have hx := B.exec
  have hb := B.bytes
  have hr := B.returns
  have hts := atoms_spec (ws := wsX0_has) B.pre
  have hown : s.vm.findClass RX0 = some m.cls := findClass_of_methodNamed B.named
  have hlocks := B.notSynchronized
  have hS : va_S A s.heap s.heap [] := va_S.rf
  have hl := lv_entry ([.ref h0, .int k]) (n := 2) (Nat.le_of_ble_eq_true rfl)
  rw [lg_entry_eq]
  generalize (lg_sl ([.ref h0, .int k]) ++ List.replicate (2 - (lg_sl ([.ref h0, .int k])).length) Slot.unset).toArray = ls at hl ⊢
  have hl : lv_has ls 2 [(0, .ref h0), (1, .int k)] := hl
  have hcT := nIT hc hm
  have hmT := nIT (Nat.le_refl lim) hm
  refine lv_iload_n hx hb dX0_has_0 rfl (lv_at hl 1 rfl) ?_
  refine lv_if_lt (tgt := 25) hx hb dX0_has_1 (by decide) (fun c_1 => ?_) (fun c_1 => ?_)
  · have c_1 : k < (0 : Int32) := c_1
    try simp only [Int32.lt_iff_toInt_lt, Int32.le_iff_toInt_le, tI0, hcT, hmT, tI0] at c_1
    refine lv_iconst (v := 0) hx hb dX0_has_25 (by decide) ?_
    exact W.zret (v := 0) hx hb hr rfl (fun t ht hW => ⟨⟨0, (), rfl, by unfold q_has; split <;> first | rfl | omega, by rw [ht]; exact hP, hD⟩, hS.F ht⟩) hS.2.2 dX0_has_26
  · have c_1 : ¬ k < (0 : Int32) := c_1
    try simp only [Int32.lt_iff_toInt_lt, Int32.le_iff_toInt_le, tI0, hcT, hmT, tI0] at c_1
    refine lv_iload_n hx hb dX0_has_4 rfl (lv_at hl 1 rfl) ?_
    refine lv_aload_n hx hb dX0_has_5 rfl (lv_at hl 0 rfl) ?_
    refine va_get (D := D) (ci := 0) (v := .int (nI (q_c r))) (C := RX0) (T := TX0) (N := 2) hx hb hts (fun _ h => List.mem_cons_of_mem _ (List.mem_append_right _ h)) hown hK hP 0 rfl rfl 1 (by decide) (hts _ (List.mem_of_getElem? (i := 1) rfl)) (fun _ h9 => h9) rfl dX0_has_6 ?_
    refine lv_icmp_ge (tgt := 25) hx hb dX0_has_9 (by decide) (fun c_2 => ?_) (fun c_2 => ?_)
    · have c_2 : (nI (q_c r)) ≤ k := c_2
      try simp only [Int32.lt_iff_toInt_lt, Int32.le_iff_toInt_le, tI0, hcT, hmT] at c_2
      refine lv_iconst (v := 0) hx hb dX0_has_25 (by decide) ?_
      exact W.zret (v := 0) hx hb hr rfl (fun t ht hW => ⟨⟨0, (), rfl, by unfold q_has; split <;> first | rfl | omega, by rw [ht]; exact hP, hD⟩, hS.F ht⟩) hS.2.2 dX0_has_26
    · have c_2 : ¬ (nI (q_c r)) ≤ k := c_2
      try simp only [Int32.lt_iff_toInt_lt, Int32.le_iff_toInt_le, tI0, hcT, hmT] at c_2
      refine lv_iload_n hx hb dX0_has_12 rfl (lv_at hl 1 rfl) ?_
      refine lv_aload_n hx hb dX0_has_13 rfl (lv_at hl 0 rfl) ?_
      refine va_get (D := D) (ci := 0) (v := .ref h1) (C := RX0) (T := TX0) (N := 2) hx hb hts (fun _ h => List.mem_cons_of_mem _ (List.mem_append_right _ h)) hown hK hP 0 rfl rfl 0 (by decide) (hts _ (List.mem_of_getElem? (i := 2) rfl)) (fun _ h9 => h9) rfl dX0_has_14 ?_
      refine va_alen (v := nI lim) hx hb hK hP 1 0 rfl rfl rfl dX0_has_17 ?_
      refine lv_icmp_ge (tgt := 25) hx hb dX0_has_18 (by decide) (fun c_3 => ?_) (fun c_3 => ?_)
      · have c_3 : (nI lim) ≤ k := c_3
        try simp only [Int32.lt_iff_toInt_lt, Int32.le_iff_toInt_le, tI0, hcT, hmT] at c_3
        refine lv_iconst (v := 0) hx hb dX0_has_25 (by decide) ?_
        exact W.zret (v := 0) hx hb hr rfl (fun t ht hW => ⟨⟨0, (), rfl, by unfold q_has; split <;> first | rfl | omega, by rw [ht]; exact hP, hD⟩, hS.F ht⟩) hS.2.2 dX0_has_26
      · have c_3 : ¬ (nI lim) ≤ k := c_3
        try simp only [Int32.lt_iff_toInt_lt, Int32.le_iff_toInt_le, tI0, hcT, hmT] at c_3
        refine lv_iconst (v := 1) hx hb dX0_has_21 (by decide) ?_
        refine lv_goto (tgt := 26) hx hb dX0_has_22 (by decide) ?_
        exact W.zret (v := 1) hx hb hr rfl (fun t ht hW => ⟨⟨1, (), rfl, by unfold q_has; split <;> first | rfl | omega, by rw [ht]; exact hP, hD⟩, hS.F ht⟩) hS.2.2 dX0_has_26

set_option maxHeartbeats 4000000 in
set_option maxRecDepth 100000 in
/-- the byte at k, 0 where there is none -/
theorem c_X0_at (l : Launch) (D : va_G) (cI cL cM : ClassId) (A : Nat → Prop) (h0 h1 lim : Nat) (r : Row) (k : Int32) (hc : q_c r ≤ lim) (hm : lim < 2147483648) : mI l yX0_at wsX0_at ({ frames := 1, cells := 0, slots := 0, locals := 21 }) D (tB cI cL cM) A [.ref h0, .int k] (rowW cI h0 h1 lim r) (q_at r k) (rowW cI h0 h1 lim r) := by
  refine Met.ofW (cc := cX0_at) (maxL := 2) (ret := (some .int)) (by decide) rfl ?_
  intro p e s m args below meth c s₁ B hml hv
  obtain ⟨rfl, hP, hE, hD, hA⟩ := hv
  have hK := hE.1
  have hx := B.exec
  have hb := B.bytes
  have hr := B.returns
  have hts := atoms_spec (ws := wsX0_at) B.pre
  have hown : s.vm.findClass RX0 = some m.cls := findClass_of_methodNamed B.named
  have hlocks := B.notSynchronized
  have hS : va_S A s.heap s.heap [] := va_S.rf
  have hl := lv_entry ([.ref h0, .int k]) (n := 2) (Nat.le_of_ble_eq_true rfl)
  rw [lg_entry_eq]
  generalize (lg_sl ([.ref h0, .int k]) ++ List.replicate (2 - (lg_sl ([.ref h0, .int k])).length) Slot.unset).toArray = ls at hl ⊢
  have hl : lv_has ls 2 [(0, .ref h0), (1, .int k)] := hl
  have hcT := nIT hc hm
  have hmT := nIT (Nat.le_refl lim) hm
  refine lv_aload_n hx hb dX0_at_0 rfl (lv_at hl 0 rfl) ?_
  refine lv_iload_n hx hb dX0_at_1 rfl (lv_at hl 1 rfl) ?_
  refine kI (rV (As := [.int k]) (rest := []) ⟨hx, hb, hml, hown, hts⟩ (c_X0_has l D cI cL cM _ h0 h1 lim r k hc hm) (cwV 1 hts gX0_at_X0_has rfl rfl rfl (by decide +kernel) ⟨(Nat.le_of_ble_eq_true rfl), (Nat.le_of_ble_eq_true rfl)⟩) hE hP hD [0, 1] rfl rfl rfl rfl rfl hl.1 rfl (Nat.le_of_ble_eq_true rfl) dX0_at_2 ⟨(Nat.le_of_ble_eq_true rfl), (Nat.le_of_ble_eq_true rfl)⟩) hP hD hS hA (is := [0, 1]) rfl rfl (fun H locs hP hD hS => ?_)
  rw [rowW_all] at hP hD
  have hP : va_P D vwCl (rowW cI h0 h1 lim r) H := hP
  have hD : va_D A (rowW cI h0 h1 lim r) := hD
  refine lv_if_eq (tgt := 17) hx hb dX0_at_5 (by decide) (fun c_1 => ?_) (fun c_1 => ?_)
  · have c_1 : (q_has r k) = (0 : Int32) := c_1
    have c9 := q_has_out c_1
    refine lv_iconst (v := 0) hx hb dX0_at_17 (by decide) ?_
    exact W.iret (v := 0) hx hb hr (fun t ht hW => ⟨⟨0, (), rfl, by unfold q_at; split <;> first | rfl | (exfalso; omega), by rw [ht]; exact hP, hD⟩, hS.F ht⟩) hS.2.2 dX0_at_18
  · have c_1 : ¬ (q_has r k) = (0 : Int32) := c_1
    have c9 := q_has_in c_1
    refine lv_aload_n hx hb dX0_at_8 rfl (lv_at hl 0 rfl) ?_
    refine va_get (D := D) (ci := 0) (v := .ref h1) (C := RX0) (T := TX0) (N := 2) hx hb hts (fun _ h => List.mem_cons_of_mem _ (List.mem_append_right _ h)) hown hK hP 0 rfl rfl 0 (by decide) (hts _ (List.mem_of_getElem? (i := 1) rfl)) (fun _ h9 => h9) rfl dX0_at_9 ?_
    refine lv_iload_n hx hb dX0_at_12 rfl (lv_at hl 1 rfl) ?_
    refine va_iald hx hb hK hP 1 0 rfl rfl (vin c9.1 (by omega)) dX0_at_13 ?_
    refine lv_goto (tgt := 18) hx hb dX0_at_14 (by decide) ?_
    exact W.iret (v := (q_f r) k.toNatClampNeg) hx hb hr (fun t ht hW => ⟨⟨((q_f r) k.toNatClampNeg), (), rfl, by unfold q_at; split <;> first | rfl | (exfalso; omega), by rw [ht]; exact hP, hD⟩, hS.F ht⟩) hS.2.2 dX0_at_18

set_option maxHeartbeats 4000000 in
set_option maxRecDepth 100000 in
theorem c_X0_put (l : Launch) (D : va_G) (cI cL cM : ClassId) (A : Nat → Prop) (h0 h1 lim : Nat) (r : Row) (k v : Int32) (hc : q_c r ≤ lim) (hm : lim < 2147483648) : mV l yX0_put wsX0_put ({ frames := 1, cells := 0, slots := 0, locals := 21 }) D (tB cI cL cM) A [.ref h0, .int k, .int v] (rowW cI h0 h1 lim r) (rowW cI h0 h1 lim (q_put r k v)) := by
  refine Met.ofW (cc := cX0_put) (maxL := 3) (ret := none) (by decide) rfl ?_
  intro p e s m args below meth c s₁ B hml hv
  obtain ⟨rfl, hP, hE, hD, hA⟩ := hv
  have hK := hE.1
  have hx := B.exec
  have hb := B.bytes
  have hr := B.returns
  have hts := atoms_spec (ws := wsX0_put) B.pre
  have hown : s.vm.findClass RX0 = some m.cls := findClass_of_methodNamed B.named
  have hlocks := B.notSynchronized
  have hS : va_S A s.heap s.heap [] := va_S.rf
  have hl := lv_entry ([.ref h0, .int k, .int v]) (n := 3) (Nat.le_of_ble_eq_true rfl)
  rw [lg_entry_eq]
  generalize (lg_sl ([.ref h0, .int k, .int v]) ++ List.replicate (3 - (lg_sl ([.ref h0, .int k, .int v])).length) Slot.unset).toArray = ls at hl ⊢
  have hl : lv_has ls 3 [(0, .ref h0), (1, .int k), (2, .int v)] := hl
  have hcT := nIT hc hm
  have hmT := nIT (Nat.le_refl lim) hm
  refine lv_aload_n hx hb dX0_put_0 rfl (lv_at hl 0 rfl) ?_
  refine lv_iload_n hx hb dX0_put_1 rfl (lv_at hl 1 rfl) ?_
  refine kI (rV (As := [.int k]) (rest := []) ⟨hx, hb, hml, hown, hts⟩ (c_X0_has l D cI cL cM _ h0 h1 lim r k hc hm) (cwV 1 hts gX0_put_X0_has rfl rfl rfl (by decide +kernel) ⟨(Nat.le_of_ble_eq_true rfl), (Nat.le_of_ble_eq_true rfl)⟩) hE hP hD [0, 1] rfl rfl rfl rfl rfl hl.1 rfl (Nat.le_of_ble_eq_true rfl) dX0_put_2 ⟨(Nat.le_of_ble_eq_true rfl), (Nat.le_of_ble_eq_true rfl)⟩) hP hD hS hA (is := [0, 1]) rfl rfl (fun H locs hP hD hS => ?_)
  rw [rowW_all] at hP hD
  have hP : va_P D vwCl (rowW cI h0 h1 lim r) H := hP
  have hD : va_D A (rowW cI h0 h1 lim r) := hD
  refine lv_if_eq (tgt := 15) hx hb dX0_put_5 (by decide) (fun c_1 => ?_) (fun c_1 => ?_)
  · have c_1 : (q_has r k) = (0 : Int32) := c_1
    have c9 := q_has_out c_1
    have hw9 : (rowW cI h0 h1 lim r) = (rowW cI h0 h1 lim (q_put r k v)) := by unfold q_put; split <;> first | rfl | (exfalso; omega)
    rw [hw9] at hP hD
    exact W.vret hx hb hr (fun t ht hW => ⟨⟨(), rfl, trivial, by rw [ht]; exact hP, hD⟩, hS.F ht⟩) hS.2.2 dX0_put_15
  · have c_1 : ¬ (q_has r k) = (0 : Int32) := c_1
    have c9 := q_has_in c_1
    refine lv_aload_n hx hb dX0_put_8 rfl (lv_at hl 0 rfl) ?_
    refine va_get (D := D) (ci := 0) (v := .ref h1) (C := RX0) (T := TX0) (N := 2) hx hb hts (fun _ h => List.mem_cons_of_mem _ (List.mem_append_right _ h)) hown hK hP 0 rfl rfl 0 (by decide) (hts _ (List.mem_of_getElem? (i := 1) rfl)) (fun _ h9 => h9) rfl dX0_put_9 ?_
    refine lv_iload_n hx hb dX0_put_12 rfl (lv_at hl 1 rfl) ?_
    refine lv_iload_n hx hb dX0_put_13 rfl (lv_at hl 2 rfl) ?_
    refine va_iast hx hb hK hP hD hS 1 0 rfl rfl (vin c9.1 (by omega)) dX0_put_14 (fun H locs hP hD hS => ?_)
    have hP : va_P D vwCl (rowW cI h0 h1 lim (qs_f r (upd (q_f r) k.toNatClampNeg v))) H := hP
    have hD : va_D A (rowW cI h0 h1 lim (qs_f r (upd (q_f r) k.toNatClampNeg v))) := hD
    have hw9 : (rowW cI h0 h1 lim (qs_f r (upd (q_f r) k.toNatClampNeg v))) = (rowW cI h0 h1 lim (q_put r k v)) := by unfold q_put; split <;> first | rfl | (exfalso; omega)
    rw [hw9] at hP hD
    exact W.vret hx hb hr (fun t ht hW => ⟨⟨(), rfl, trivial, by rw [ht]; exact hP, hD⟩, hS.F ht⟩) hS.2.2 dX0_put_15

set_option maxHeartbeats 4000000 in
set_option maxRecDepth 100000 in
theorem c_X0_append (l : Launch) (D : va_G) (cI cL cM : ClassId) (A : Nat → Prop) (h0 h1 lim : Nat) (r : Row) (v : Int32) (hc : q_c r ≤ lim) (hm : lim < 2147483648) : mV l yX0_append wsX0_append ({ frames := 0, cells := 0, slots := 0, locals := 0 }) D (tB cI cL cM) A [.ref h0, .int v] (rowW cI h0 h1 lim r) (rowW cI h0 h1 lim (q_app lim r v)) := by
  refine Met.ofW (cc := cX0_append) (maxL := 2) (ret := none) (by decide) rfl ?_
  intro p e s m args below meth c s₁ B hml hv
  obtain ⟨rfl, hP, hE, hD, hA⟩ := hv
  have hK := hE.1
  have hx := B.exec
  have hb := B.bytes
  have hr := B.returns
  have hts := atoms_spec (ws := wsX0_append) B.pre
  have hown : s.vm.findClass RX0 = some m.cls := findClass_of_methodNamed B.named
  have hlocks := B.notSynchronized
  have hS : va_S A s.heap s.heap [] := va_S.rf
  have hl := lv_entry ([.ref h0, .int v]) (n := 2) (Nat.le_of_ble_eq_true rfl)
  rw [lg_entry_eq]
  generalize (lg_sl ([.ref h0, .int v]) ++ List.replicate (2 - (lg_sl ([.ref h0, .int v])).length) Slot.unset).toArray = ls at hl ⊢
  have hl : lv_has ls 2 [(0, .ref h0), (1, .int v)] := hl
  have hcT := nIT hc hm
  have hmT := nIT (Nat.le_refl lim) hm
  refine lv_aload_n hx hb dX0_append_0 rfl (lv_at hl 0 rfl) ?_
  refine va_get (D := D) (ci := 0) (v := .int (nI (q_c r))) (C := RX0) (T := TX0) (N := 2) hx hb hts (fun _ h => List.mem_cons_of_mem _ (List.mem_append_right _ h)) hown hK hP 0 rfl rfl 1 (by decide) (hts _ (List.mem_of_getElem? (i := 1) rfl)) (fun _ h9 => h9) rfl dX0_append_1 ?_
  refine lv_if_lt (tgt := 39) hx hb dX0_append_4 (by decide) (fun c_1 => absurd c_1 (nI_pos (Nat.lt_of_le_of_lt hc hm))) (fun c_1 => ?_)
  refine lv_aload_n hx hb dX0_append_7 rfl (lv_at hl 0 rfl) ?_
  refine va_get (D := D) (ci := 0) (v := .int (nI (q_c r))) (C := RX0) (T := TX0) (N := 2) hx hb hts (fun _ h => List.mem_cons_of_mem _ (List.mem_append_right _ h)) hown hK hP 0 rfl rfl 1 (by decide) (hts _ (List.mem_of_getElem? (i := 1) rfl)) (fun _ h9 => h9) rfl dX0_append_8 ?_
  refine lv_aload_n hx hb dX0_append_11 rfl (lv_at hl 0 rfl) ?_
  refine va_get (D := D) (ci := 0) (v := .ref h1) (C := RX0) (T := TX0) (N := 2) hx hb hts (fun _ h => List.mem_cons_of_mem _ (List.mem_append_right _ h)) hown hK hP 0 rfl rfl 0 (by decide) (hts _ (List.mem_of_getElem? (i := 2) rfl)) (fun _ h9 => h9) rfl dX0_append_12 ?_
  refine va_alen (v := nI lim) hx hb hK hP 1 0 rfl rfl rfl dX0_append_15 ?_
  refine lv_icmp_ge (tgt := 39) hx hb dX0_append_16 (by decide) (fun c_2 => ?_) (fun c_2 => ?_)
  · have c_2 : (nI lim) ≤ (nI (q_c r)) := c_2
    try simp only [Int32.lt_iff_toInt_lt, Int32.le_iff_toInt_le, tI0, hcT, hmT] at c_2
    have hw9 : (rowW cI h0 h1 lim r) = (rowW cI h0 h1 lim (q_app lim r v)) := by unfold q_app; split <;> first | rfl | (exfalso; omega)
    rw [hw9] at hP hD
    exact W.vret hx hb hr (fun t ht hW => ⟨⟨(), rfl, trivial, by rw [ht]; exact hP, hD⟩, hS.F ht⟩) hS.2.2 dX0_append_39
  · have c_2 : ¬ (nI lim) ≤ (nI (q_c r)) := c_2
    try simp only [Int32.lt_iff_toInt_lt, Int32.le_iff_toInt_le, tI0, hcT, hmT] at c_2
    refine lv_aload_n hx hb dX0_append_19 rfl (lv_at hl 0 rfl) ?_
    refine va_get (D := D) (ci := 0) (v := .ref h1) (C := RX0) (T := TX0) (N := 2) hx hb hts (fun _ h => List.mem_cons_of_mem _ (List.mem_append_right _ h)) hown hK hP 0 rfl rfl 0 (by decide) (hts _ (List.mem_of_getElem? (i := 2) rfl)) (fun _ h9 => h9) rfl dX0_append_20 ?_
    refine lv_aload_n hx hb dX0_append_23 rfl (lv_at hl 0 rfl) ?_
    refine va_get (D := D) (ci := 0) (v := .int (nI (q_c r))) (C := RX0) (T := TX0) (N := 2) hx hb hts (fun _ h => List.mem_cons_of_mem _ (List.mem_append_right _ h)) hown hK hP 0 rfl rfl 1 (by decide) (hts _ (List.mem_of_getElem? (i := 1) rfl)) (fun _ h9 => h9) rfl dX0_append_24 ?_
    refine lv_iload_n hx hb dX0_append_27 rfl (lv_at hl 1 rfl) ?_
    refine istN hx hb hK hP hD hS 1 0 rfl rfl (q_c r) (by omega) (hm) dX0_append_28 (fun H locs hP hD hS => ?_)
    have hP : va_P D vwCl (rowW cI h0 h1 lim (qs_f r (upd (q_f r) (q_c r) v))) H := hP
    have hD : va_D A (rowW cI h0 h1 lim (qs_f r (upd (q_f r) (q_c r) v))) := hD
    refine lv_aload_n hx hb dX0_append_29 rfl (lv_at hl 0 rfl) ?_
    refine lv_dup hx hb dX0_append_30 rfl ?_
    refine va_get (D := D) (ci := 0) (v := .int (nI (q_c r))) (C := RX0) (T := TX0) (N := 2) hx hb hts (fun _ h => List.mem_cons_of_mem _ (List.mem_append_right _ h)) hown hK hP 0 rfl rfl 1 (by decide) (hts _ (List.mem_of_getElem? (i := 1) rfl)) (fun _ h9 => h9) rfl dX0_append_31 ?_
    refine lv_iconst (v := 1) hx hb dX0_append_34 (by decide) ?_
    refine lv_iadd hx hb dX0_append_35 ?_
    refine topI (y := nI ((q_c r) + 1)) (nI_1 _) ?_
    refine va_put (D := D) (ci := 0) (v := .int (nI ((q_c r) + 1))) (ty := .int) (C := RX0) (T := TX0) (N := 2) hx hb hts (fun _ h => List.mem_cons_of_mem _ (List.mem_append_right _ h)) tyX0 tyX0_ok nmX0 hown hK hP hD hS 0 rfl rfl 1 (by decide) (hts _ (List.mem_of_getElem? (i := 1) rfl)) (fun _ h9 => h9) rfl (by decide +kernel) rfl rfl (Nat.le_of_ble_eq_true rfl) dX0_append_36 (fun H locs hP hD hS => ?_)
    have hP : va_P D vwCl (rowW cI h0 h1 lim (qs_f (qs_c r ((q_c r) + 1)) (upd (q_f r) (q_c r) v))) H := hP
    have hD : va_D A (rowW cI h0 h1 lim (qs_f (qs_c r ((q_c r) + 1)) (upd (q_f r) (q_c r) v))) := hD
    have hw9 : (rowW cI h0 h1 lim (qs_f (qs_c r ((q_c r) + 1)) (upd (q_f r) (q_c r) v))) = (rowW cI h0 h1 lim (q_app lim r v)) := by unfold q_app; split <;> first | rfl | (exfalso; omega)
    rw [hw9] at hP hD
    exact W.vret hx hb hr (fun t ht hW => ⟨⟨(), rfl, trivial, by rw [ht]; exact hP, hD⟩, hS.F ht⟩) hS.2.2 dX0_append_39

set_option maxHeartbeats 4000000 in
set_option maxRecDepth 100000 in
theorem c_X0_clear (l : Launch) (D : va_G) (cI cL cM : ClassId) (A : Nat → Prop) (h0 h1 lim : Nat) (r : Row) : mV l yX0_clear wsX0_clear ({ frames := 0, cells := 0, slots := 0, locals := 0 }) D (tB cI cL cM) A [.ref h0] (rowW cI h0 h1 lim r) (rowW cI h0 h1 lim (qs_c r 0)) := by
  refine Met.ofW (cc := cX0_clear) (maxL := 1) (ret := none) (by decide) rfl ?_
  intro p e s m args below meth c s₁ B hml hv
  obtain ⟨rfl, hP, hE, hD, hA⟩ := hv
  have hK := hE.1
  have hx := B.exec
  have hb := B.bytes
  have hr := B.returns
  have hts := atoms_spec (ws := wsX0_clear) B.pre
  have hown : s.vm.findClass RX0 = some m.cls := findClass_of_methodNamed B.named
  have hlocks := B.notSynchronized
  have hS : va_S A s.heap s.heap [] := va_S.rf
  have hl := lv_entry ([.ref h0]) (n := 1) (Nat.le_of_ble_eq_true rfl)
  rw [lg_entry_eq]
  generalize (lg_sl ([.ref h0]) ++ List.replicate (1 - (lg_sl ([.ref h0])).length) Slot.unset).toArray = ls at hl ⊢
  have hl : lv_has ls 1 [(0, .ref h0)] := hl
  refine lv_aload_n hx hb dX0_clear_0 rfl (lv_at hl 0 rfl) ?_
  refine lv_iconst (v := 0) hx hb dX0_clear_1 (by decide) ?_
  refine va_put (D := D) (ci := 0) (v := .int 0) (ty := .int) (C := RX0) (T := TX0) (N := 2) hx hb hts (fun _ h => List.mem_cons_of_mem _ (List.mem_append_right _ h)) tyX0 tyX0_ok nmX0 hown hK hP hD hS 0 rfl rfl 1 (by decide) (hts _ (List.mem_of_getElem? (i := 1) rfl)) (fun _ h9 => h9) rfl (by decide +kernel) rfl rfl (Nat.le_of_ble_eq_true rfl) dX0_clear_2 (fun H locs hP hD hS => ?_)
  have hP : va_P D vwCl (rowW cI h0 h1 lim (qs_c r 0)) H := hP
  have hD : va_D A (rowW cI h0 h1 lim (qs_c r 0)) := hD
  exact W.vret hx hb hr (fun t ht hW => ⟨⟨(), rfl, trivial, by rw [ht]; exact hP, hD⟩, hS.F ht⟩) hS.2.2 dX0_clear_5

/-! ===== Interval ===== -/
def tpb (x : Int64) : Int32 := ((x.toUInt64 >>> ((24 : Int32).toInt64.toUInt64 &&& Int64.toUInt64 63)).toInt64).toInt32
def sh8 (x : Int64) : Int64 := (x <<< ((8 : Int32).toInt64 &&& 63)) &&& 4294967295
def v_mid (v : Iv) (q : Int32) : Int64 := v_lo v + (v_hi v - v_lo v) / 4096 * q.toInt64
def v_nar (v : Iv) (z : Int32) (x : Int64) : Iv := if z = 0 then vs_lo v (x + 1) else vs_hi v x
def v_set (v : Iv) : Int32 := if tpb (v_lo v) = tpb (v_hi v) then 1 else 0
def v_shf (v : Iv) : Iv := vs_hi (vs_lo v (sh8 (v_lo v))) (sh8 (v_hi v) + 255)
def v_opn (v : Iv) : Iv := vs_nx (vs_x (vs_hi (vs_lo v 0) 4294967295) 0) 0
def v_pul (v : Iv) (r : Row) : Iv := vs_nx (vs_x v (sh8 (v_x v) + (q_at r (v_nx v)).toInt64)) (v_nx v + 1)

set_option maxHeartbeats 4000000 in
set_option maxRecDepth 100000 in
theorem c_X1_topByte (l : Launch) (D : va_G) (cI cL cM : ClassId) (A : Nat → Prop) (x : Int64) : mI l yX1_topByte wsX1_topByte ({ frames := 0, cells := 0, slots := 0, locals := 0 }) D (tB cI cL cM) A [.long x] [] (tpb x) [] := by
  refine Met.ofW (cc := cX1_topByte) (maxL := 2) (ret := (some .int)) (by decide) rfl ?_
  intro p e s m args below meth c s₁ B hml hv
  obtain ⟨rfl, hP, hE, hD, hA⟩ := hv
  have hK := hE.1
  have hx := B.exec
  have hb := B.bytes
  have hr := B.returns
  have hts := atoms_spec (ws := wsX1_topByte) B.pre
  have hown : s.vm.findClass RX1 = some m.cls := findClass_of_methodNamed B.named
  have hlocks := B.notSynchronized
  have hS : va_S A s.heap s.heap [] := va_S.rf
  have hl := lv_entry ([.long x]) (n := 2) (Nat.le_of_ble_eq_true rfl)
  rw [lg_entry_eq]
  generalize (lg_sl ([.long x]) ++ List.replicate (2 - (lg_sl ([.long x])).length) Slot.unset).toArray = ls at hl ⊢
  have hl : lv_has ls 2 [(0, .long x)] := hl
  refine lv_lload_n hx hb dX1_topByte_0 rfl (lv_at hl 0 rfl) ?_
  refine lv_bipush (v := 24) hx hb dX1_topByte_1 (by decide) ?_
  refine lv_lushr hx hb dX1_topByte_3 rfl ?_
  refine lv_l2i hx hb dX1_topByte_4 rfl ?_
  exact W.iret (v := ((x.toUInt64 >>> ((24 : Int32).toInt64.toUInt64 &&& Int64.toUInt64 63)).toInt64).toInt32) hx hb hr (fun t ht hW => ⟨⟨(((x.toUInt64 >>> ((24 : Int32).toInt64.toUInt64 &&& Int64.toUInt64 63)).toInt64).toInt32), (), rfl, by rfl, by rw [ht]; exact hP, hD⟩, hS.F ht⟩) hS.2.2 dX1_topByte_5

set_option maxHeartbeats 4000000 in
set_option maxRecDepth 100000 in
theorem c_X1_open (l : Launch) (D : va_G) (cI cL cM : ClassId) (A : Nat → Prop) (h0 : Nat) (v : Iv) : mV l yX1_open wsX1_open ({ frames := 0, cells := 0, slots := 0, locals := 0 }) D (tB cI cL cM) A [.ref h0] (ivW h0 v) (ivW h0 (v_opn v)) := by
  refine Met.ofW (cc := cX1_open) (maxL := 1) (ret := none) (by decide) rfl ?_
  intro p e s m args below meth c s₁ B hml hv
  obtain ⟨rfl, hP, hE, hD, hA⟩ := hv
  have hK := hE.1
  have hx := B.exec
  have hb := B.bytes
  have hr := B.returns
  have hts := atoms_spec (ws := wsX1_open) B.pre
  have hown : s.vm.findClass RX1 = some m.cls := findClass_of_methodNamed B.named
  have hlocks := B.notSynchronized
  have hS : va_S A s.heap s.heap [] := va_S.rf
  have hl := lv_entry ([.ref h0]) (n := 1) (Nat.le_of_ble_eq_true rfl)
  rw [lg_entry_eq]
  generalize (lg_sl ([.ref h0]) ++ List.replicate (1 - (lg_sl ([.ref h0])).length) Slot.unset).toArray = ls at hl ⊢
  have hl : lv_has ls 1 [(0, .ref h0)] := hl
  refine lv_aload_n hx hb dX1_open_0 rfl (lv_at hl 0 rfl) ?_
  refine lv_lconst (v := 0) hx hb dX1_open_1 (by decide) ?_
  refine va_put (D := D) (ci := 1) (v := .long 0) (ty := .long) (C := RX1) (T := TX1) (N := 4) hx hb hts (fun _ h => List.mem_cons_of_mem _ (List.mem_append_right _ h)) tyX1 tyX1_ok nmX1 hown hK hP hD hS 0 rfl rfl 0 (by decide) (hts _ (List.mem_of_getElem? (i := 1) rfl)) (fun _ h9 => h9) rfl (by decide +kernel) rfl rfl (Nat.le_of_ble_eq_true rfl) dX1_open_2 (fun H locs hP hD hS => ?_)
  have hP : va_P D vwCl (ivW h0 (vs_lo v 0)) H := hP
  have hD : va_D A (ivW h0 (vs_lo v 0)) := hD
  refine lv_aload_n hx hb dX1_open_5 rfl (lv_at hl 0 rfl) ?_
  refine lv_ldc2 hx hb hown (hts _ (List.mem_of_getElem? (i := 2) rfl)) dX1_open_6 ?_
  refine va_put (D := D) (ci := 1) (v := .long 4294967295) (ty := .long) (C := RX1) (T := TX1) (N := 4) hx hb hts (fun _ h => List.mem_cons_of_mem _ (List.mem_append_right _ h)) tyX1 tyX1_ok nmX1 hown hK hP hD hS 0 rfl rfl 1 (by decide) (hts _ (List.mem_of_getElem? (i := 3) rfl)) (fun _ h9 => h9) rfl (by decide +kernel) rfl rfl (Nat.le_of_ble_eq_true rfl) dX1_open_9 (fun H locs hP hD hS => ?_)
  have hP : va_P D vwCl (ivW h0 (vs_hi (vs_lo v 0) 4294967295)) H := hP
  have hD : va_D A (ivW h0 (vs_hi (vs_lo v 0) 4294967295)) := hD
  refine lv_aload_n hx hb dX1_open_12 rfl (lv_at hl 0 rfl) ?_
  refine lv_lconst (v := 0) hx hb dX1_open_13 (by decide) ?_
  refine va_put (D := D) (ci := 1) (v := .long 0) (ty := .long) (C := RX1) (T := TX1) (N := 4) hx hb hts (fun _ h => List.mem_cons_of_mem _ (List.mem_append_right _ h)) tyX1 tyX1_ok nmX1 hown hK hP hD hS 0 rfl rfl 2 (by decide) (hts _ (List.mem_of_getElem? (i := 4) rfl)) (fun _ h9 => h9) rfl (by decide +kernel) rfl rfl (Nat.le_of_ble_eq_true rfl) dX1_open_14 (fun H locs hP hD hS => ?_)
  have hP : va_P D vwCl (ivW h0 (vs_x (vs_hi (vs_lo v 0) 4294967295) 0)) H := hP
  have hD : va_D A (ivW h0 (vs_x (vs_hi (vs_lo v 0) 4294967295) 0)) := hD
  refine lv_aload_n hx hb dX1_open_17 rfl (lv_at hl 0 rfl) ?_
  refine lv_iconst (v := 0) hx hb dX1_open_18 (by decide) ?_
  refine va_put (D := D) (ci := 1) (v := .int 0) (ty := .int) (C := RX1) (T := TX1) (N := 4) hx hb hts (fun _ h => List.mem_cons_of_mem _ (List.mem_append_right _ h)) tyX1 tyX1_ok nmX1 hown hK hP hD hS 0 rfl rfl 3 (by decide) (hts _ (List.mem_of_getElem? (i := 5) rfl)) (fun _ h9 => h9) rfl (by decide +kernel) rfl rfl (Nat.le_of_ble_eq_true rfl) dX1_open_19 (fun H locs hP hD hS => ?_)
  have hP : va_P D vwCl (ivW h0 (vs_nx (vs_x (vs_hi (vs_lo v 0) 4294967295) 0) 0)) H := hP
  have hD : va_D A (ivW h0 (vs_nx (vs_x (vs_hi (vs_lo v 0) 4294967295) 0) 0)) := hD
  have hw9 : (ivW h0 (vs_nx (vs_x (vs_hi (vs_lo v 0) 4294967295) 0) 0)) = (ivW h0 (v_opn v)) := by rfl
  rw [hw9] at hP hD
  exact W.vret hx hb hr (fun t ht hW => ⟨⟨(), rfl, trivial, by rw [ht]; exact hP, hD⟩, hS.F ht⟩) hS.2.2 dX1_open_22

set_option maxHeartbeats 4000000 in
set_option maxRecDepth 100000 in
theorem c_X1_middle (l : Launch) (D : va_G) (cI cL cM : ClassId) (A : Nat → Prop) (h0 : Nat) (v : Iv) (q : Int32) : mL l yX1_middle wsX1_middle ({ frames := 0, cells := 0, slots := 0, locals := 0 }) D (tB cI cL cM) A [.ref h0, .int q] (ivW h0 v) (v_mid v q) (ivW h0 v) := by
  refine Met.ofW (cc := cX1_middle) (maxL := 2) (ret := (some .long)) (by decide) rfl ?_
  intro p e s m args below meth c s₁ B hml hv
  obtain ⟨rfl, hP, hE, hD, hA⟩ := hv
  have hK := hE.1
  have hx := B.exec
  have hb := B.bytes
  have hr := B.returns
  have hts := atoms_spec (ws := wsX1_middle) B.pre
  have hown : s.vm.findClass RX1 = some m.cls := findClass_of_methodNamed B.named
  have hlocks := B.notSynchronized
  have hS : va_S A s.heap s.heap [] := va_S.rf
  have hl := lv_entry ([.ref h0, .int q]) (n := 2) (Nat.le_of_ble_eq_true rfl)
  rw [lg_entry_eq]
  generalize (lg_sl ([.ref h0, .int q]) ++ List.replicate (2 - (lg_sl ([.ref h0, .int q])).length) Slot.unset).toArray = ls at hl ⊢
  have hl : lv_has ls 2 [(0, .ref h0), (1, .int q)] := hl
  refine lv_aload_n hx hb dX1_middle_0 rfl (lv_at hl 0 rfl) ?_
  refine va_get (D := D) (ci := 1) (v := .long (v_lo v)) (C := RX1) (T := TX1) (N := 4) hx hb hts (fun _ h => List.mem_cons_of_mem _ (List.mem_append_right _ h)) hown hK hP 0 rfl rfl 0 (by decide) (hts _ (List.mem_of_getElem? (i := 1) rfl)) (fun _ h9 => h9) rfl dX1_middle_1 ?_
  refine lv_aload_n hx hb dX1_middle_4 rfl (lv_at hl 0 rfl) ?_
  refine va_get (D := D) (ci := 1) (v := .long (v_hi v)) (C := RX1) (T := TX1) (N := 4) hx hb hts (fun _ h => List.mem_cons_of_mem _ (List.mem_append_right _ h)) hown hK hP 0 rfl rfl 1 (by decide) (hts _ (List.mem_of_getElem? (i := 2) rfl)) (fun _ h9 => h9) rfl dX1_middle_5 ?_
  refine lv_aload_n hx hb dX1_middle_8 rfl (lv_at hl 0 rfl) ?_
  refine va_get (D := D) (ci := 1) (v := .long (v_lo v)) (C := RX1) (T := TX1) (N := 4) hx hb hts (fun _ h => List.mem_cons_of_mem _ (List.mem_append_right _ h)) hown hK hP 0 rfl rfl 0 (by decide) (hts _ (List.mem_of_getElem? (i := 1) rfl)) (fun _ h9 => h9) rfl dX1_middle_9 ?_
  refine lv_lsub hx hb dX1_middle_12 ?_
  refine lv_ldc2 hx hb hown (hts _ (List.mem_of_getElem? (i := 3) rfl)) dX1_middle_13 ?_
  refine lv_ldiv hx hb dX1_middle_16 (by decide) ?_
  refine lv_iload_n hx hb dX1_middle_17 rfl (lv_at hl 1 rfl) ?_
  refine lv_i2l hx hb dX1_middle_18 rfl ?_
  refine lv_lmul hx hb dX1_middle_19 ?_
  refine lv_ladd hx hb dX1_middle_20 ?_
  exact W.lret (v := (v_lo v) + ((((v_hi v) - (v_lo v)) / 4096) * q.toInt64)) hx hb hr (fun t ht hW => ⟨⟨((v_lo v) + ((((v_hi v) - (v_lo v)) / 4096) * q.toInt64)), (), rfl, by rfl, by rw [ht]; exact hP, hD⟩, hS.F ht⟩) hS.2.2 dX1_middle_21

set_option maxHeartbeats 4000000 in
set_option maxRecDepth 100000 in
theorem c_X1_narrow (l : Launch) (D : va_G) (cI cL cM : ClassId) (A : Nat → Prop) (h0 : Nat) (v : Iv) (z : Int32) (x : Int64) : mV l yX1_narrow wsX1_narrow ({ frames := 0, cells := 0, slots := 0, locals := 0 }) D (tB cI cL cM) A [.ref h0, .int z, .long x] (ivW h0 v) (ivW h0 (v_nar v z x)) := by
  refine Met.ofW (cc := cX1_narrow) (maxL := 4) (ret := none) (by decide) rfl ?_
  intro p e s m args below meth c s₁ B hml hv
  obtain ⟨rfl, hP, hE, hD, hA⟩ := hv
  have hK := hE.1
  have hx := B.exec
  have hb := B.bytes
  have hr := B.returns
  have hts := atoms_spec (ws := wsX1_narrow) B.pre
  have hown : s.vm.findClass RX1 = some m.cls := findClass_of_methodNamed B.named
  have hlocks := B.notSynchronized
  have hS : va_S A s.heap s.heap [] := va_S.rf
  have hl := lv_entry ([.ref h0, .int z, .long x]) (n := 4) (Nat.le_of_ble_eq_true rfl)
  rw [lg_entry_eq]
  generalize (lg_sl ([.ref h0, .int z, .long x]) ++ List.replicate (4 - (lg_sl ([.ref h0, .int z, .long x])).length) Slot.unset).toArray = ls at hl ⊢
  have hl : lv_has ls 4 [(0, .ref h0), (1, .int z), (2, .long x)] := hl
  refine lv_iload_n hx hb dX1_narrow_0 rfl (lv_at hl 1 rfl) ?_
  refine lv_if_eq (tgt := 12) hx hb dX1_narrow_1 (by decide) (fun c_1 => ?_) (fun c_1 => ?_)
  · have c_1 : z = (0 : Int32) := c_1
    refine lv_aload_n hx hb dX1_narrow_12 rfl (lv_at hl 0 rfl) ?_
    refine lv_lload_n hx hb dX1_narrow_13 rfl (lv_at hl 2 rfl) ?_
    refine lv_lconst (v := 1) hx hb dX1_narrow_14 (by decide) ?_
    refine lv_ladd hx hb dX1_narrow_15 ?_
    refine va_put (D := D) (ci := 1) (v := .long (x + 1)) (ty := .long) (C := RX1) (T := TX1) (N := 4) hx hb hts (fun _ h => List.mem_cons_of_mem _ (List.mem_append_right _ h)) tyX1 tyX1_ok nmX1 hown hK hP hD hS 0 rfl rfl 0 (by decide) (hts _ (List.mem_of_getElem? (i := 2) rfl)) (fun _ h9 => h9) rfl (by decide +kernel) rfl rfl (Nat.le_of_ble_eq_true rfl) dX1_narrow_16 (fun H locs hP hD hS => ?_)
    have hP : va_P D vwCl (ivW h0 (vs_lo v (x + 1))) H := hP
    have hD : va_D A (ivW h0 (vs_lo v (x + 1))) := hD
    have hw9 : (ivW h0 (vs_lo v (x + 1))) = (ivW h0 (v_nar v z x)) := by (try unfold v_nar); (try rw [if_pos c_1]); try rfl
    rw [hw9] at hP hD
    exact W.vret hx hb hr (fun t ht hW => ⟨⟨(), rfl, trivial, by rw [ht]; exact hP, hD⟩, hS.F ht⟩) hS.2.2 dX1_narrow_19
  · have c_1 : ¬ z = (0 : Int32) := c_1
    refine lv_aload_n hx hb dX1_narrow_4 rfl (lv_at hl 0 rfl) ?_
    refine lv_lload_n hx hb dX1_narrow_5 rfl (lv_at hl 2 rfl) ?_
    refine va_put (D := D) (ci := 1) (v := .long x) (ty := .long) (C := RX1) (T := TX1) (N := 4) hx hb hts (fun _ h => List.mem_cons_of_mem _ (List.mem_append_right _ h)) tyX1 tyX1_ok nmX1 hown hK hP hD hS 0 rfl rfl 1 (by decide) (hts _ (List.mem_of_getElem? (i := 1) rfl)) (fun _ h9 => h9) rfl (by decide +kernel) rfl rfl (Nat.le_of_ble_eq_true rfl) dX1_narrow_6 (fun H locs hP hD hS => ?_)
    have hP : va_P D vwCl (ivW h0 (vs_hi v x)) H := hP
    have hD : va_D A (ivW h0 (vs_hi v x)) := hD
    refine lv_goto (tgt := 19) hx hb dX1_narrow_9 (by decide) ?_
    have hw9 : (ivW h0 (vs_hi v x)) = (ivW h0 (v_nar v z x)) := by (try unfold v_nar); (try rw [if_neg c_1]); try rfl
    rw [hw9] at hP hD
    exact W.vret hx hb hr (fun t ht hW => ⟨⟨(), rfl, trivial, by rw [ht]; exact hP, hD⟩, hS.F ht⟩) hS.2.2 dX1_narrow_19

set_option maxHeartbeats 4000000 in
set_option maxRecDepth 100000 in
theorem c_X1_isSettled (l : Launch) (D : va_G) (cI cL cM : ClassId) (A : Nat → Prop) (h0 : Nat) (v : Iv) : mI l yX1_isSettled wsX1_isSettled ({ frames := 1, cells := 0, slots := 0, locals := 21 }) D (tB cI cL cM) A [.ref h0] (ivW h0 v) (v_set v) (ivW h0 v) := by
  refine Met.ofW (cc := cX1_isSettled) (maxL := 1) (ret := (some .boolean)) (by decide) rfl ?_
  intro p e s m args below meth c s₁ B hml hv
  obtain ⟨rfl, hP, hE, hD, hA⟩ := hv
  have hK := hE.1
  have hx := B.exec
  have hb := B.bytes
  have hr := B.returns
  have hts := atoms_spec (ws := wsX1_isSettled) B.pre
  have hown : s.vm.findClass RX1 = some m.cls := findClass_of_methodNamed B.named
  have hlocks := B.notSynchronized
  have hS : va_S A s.heap s.heap [] := va_S.rf
  have hl := lv_entry ([.ref h0]) (n := 1) (Nat.le_of_ble_eq_true rfl)
  rw [lg_entry_eq]
  generalize (lg_sl ([.ref h0]) ++ List.replicate (1 - (lg_sl ([.ref h0])).length) Slot.unset).toArray = ls at hl ⊢
  have hl : lv_has ls 1 [(0, .ref h0)] := hl
  refine lv_aload_n hx hb dX1_isSettled_0 rfl (lv_at hl 0 rfl) ?_
  refine va_get (D := D) (ci := 1) (v := .long (v_lo v)) (C := RX1) (T := TX1) (N := 4) hx hb hts (fun _ h => List.mem_cons_of_mem _ (List.mem_append_right _ h)) hown hK hP 0 rfl rfl 0 (by decide) (hts _ (List.mem_of_getElem? (i := 1) rfl)) (fun _ h9 => h9) rfl dX1_isSettled_1 ?_
  refine kI (rS (As := [.long (v_lo v)]) (rest := []) ⟨hx, hb, hml, hown, hts⟩ (c_X1_topByte l D cI cL cM _ (v_lo v) ) (va_cwS 1 hts gX1_isSettled_X1_topByte rfl rfl rfl (by decide +kernel) ⟨(Nat.le_of_ble_eq_true rfl), (Nat.le_of_ble_eq_true rfl)⟩) hE hP hD [] rfl rfl rfl hl.1 rfl (Nat.le_of_ble_eq_true rfl) dX1_isSettled_4 ⟨(Nat.le_of_ble_eq_true rfl), (Nat.le_of_ble_eq_true rfl)⟩) hP hD hS hA (is := []) rfl rfl (fun H locs hP hD hS => ?_)
  rw [putW_nil] at hP hD
  have hP : va_P D vwCl (ivW h0 v) H := hP
  have hD : va_D A (ivW h0 v) := hD
  refine lv_aload_n hx hb dX1_isSettled_7 rfl (lv_at hl 0 rfl) ?_
  refine va_get (D := D) (ci := 1) (v := .long (v_hi v)) (C := RX1) (T := TX1) (N := 4) hx hb hts (fun _ h => List.mem_cons_of_mem _ (List.mem_append_right _ h)) hown hK hP 0 rfl rfl 1 (by decide) (hts _ (List.mem_of_getElem? (i := 2) rfl)) (fun _ h9 => h9) rfl dX1_isSettled_8 ?_
  refine kI (rS (As := [.long (v_hi v)]) (rest := [.int (tpb (v_lo v))]) ⟨hx, hb, hml, hown, hts⟩ (c_X1_topByte l D cI cL cM _ (v_hi v) ) (va_cwS 1 hts gX1_isSettled_X1_topByte rfl rfl rfl (by decide +kernel) ⟨(Nat.le_of_ble_eq_true rfl), (Nat.le_of_ble_eq_true rfl)⟩) hE hP hD [] rfl rfl rfl hl.1 rfl (Nat.le_of_ble_eq_true rfl) dX1_isSettled_11 ⟨(Nat.le_of_ble_eq_true rfl), (Nat.le_of_ble_eq_true rfl)⟩) hP hD hS hA (is := []) rfl rfl (fun H locs hP hD hS => ?_)
  rw [putW_nil] at hP hD
  have hP : va_P D vwCl (ivW h0 v) H := hP
  have hD : va_D A (ivW h0 v) := hD
  refine lv_icmp_ne (tgt := 21) hx hb dX1_isSettled_14 (by decide) (fun c_1 => ?_) (fun c_1 => ?_)
  · have c_1 : ¬ (tpb (v_lo v)) = (tpb (v_hi v)) := c_1
    refine lv_iconst (v := 0) hx hb dX1_isSettled_21 (by decide) ?_
    exact W.zret (v := 0) hx hb hr rfl (fun t ht hW => ⟨⟨0, (), rfl, by (try unfold v_set); (try rw [if_neg c_1]); try rfl, by rw [ht]; exact hP, hD⟩, hS.F ht⟩) hS.2.2 dX1_isSettled_22
  · have c_1 : (tpb (v_lo v)) = (tpb (v_hi v)) := c_1
    refine lv_iconst (v := 1) hx hb dX1_isSettled_17 (by decide) ?_
    refine lv_goto (tgt := 22) hx hb dX1_isSettled_18 (by decide) ?_
    exact W.zret (v := 1) hx hb hr rfl (fun t ht hW => ⟨⟨1, (), rfl, by (try unfold v_set); (try rw [if_pos c_1]); try rfl, by rw [ht]; exact hP, hD⟩, hS.F ht⟩) hS.2.2 dX1_isSettled_22

set_option maxHeartbeats 4000000 in
set_option maxRecDepth 100000 in
theorem c_X1_shift (l : Launch) (D : va_G) (cI cL cM : ClassId) (A : Nat → Prop) (h0 : Nat) (v : Iv) : mI l yX1_shift wsX1_shift ({ frames := 1, cells := 0, slots := 0, locals := 21 }) D (tB cI cL cM) A [.ref h0] (ivW h0 v) (tpb (v_lo v)) (ivW h0 (v_shf v)) := by
  refine Met.ofW (cc := cX1_shift) (maxL := 2) (ret := (some .int)) (by decide) rfl ?_
  intro p e s m args below meth c s₁ B hml hv
  obtain ⟨rfl, hP, hE, hD, hA⟩ := hv
  have hK := hE.1
  have hx := B.exec
  have hb := B.bytes
  have hr := B.returns
  have hts := atoms_spec (ws := wsX1_shift) B.pre
  have hown : s.vm.findClass RX1 = some m.cls := findClass_of_methodNamed B.named
  have hlocks := B.notSynchronized
  have hS : va_S A s.heap s.heap [] := va_S.rf
  have hl := lv_entry ([.ref h0]) (n := 2) (Nat.le_of_ble_eq_true rfl)
  rw [lg_entry_eq]
  generalize (lg_sl ([.ref h0]) ++ List.replicate (2 - (lg_sl ([.ref h0])).length) Slot.unset).toArray = ls at hl ⊢
  have hl : lv_has ls 2 [(0, .ref h0)] := hl
  refine lv_aload_n hx hb dX1_shift_0 rfl (lv_at hl 0 rfl) ?_
  refine va_get (D := D) (ci := 1) (v := .long (v_lo v)) (C := RX1) (T := TX1) (N := 4) hx hb hts (fun _ h => List.mem_cons_of_mem _ (List.mem_append_right _ h)) hown hK hP 0 rfl rfl 0 (by decide) (hts _ (List.mem_of_getElem? (i := 1) rfl)) (fun _ h9 => h9) rfl dX1_shift_1 ?_
  refine kI (rS (As := [.long (v_lo v)]) (rest := []) ⟨hx, hb, hml, hown, hts⟩ (c_X1_topByte l D cI cL cM _ (v_lo v) ) (va_cwS 1 hts gX1_shift_X1_topByte rfl rfl rfl (by decide +kernel) ⟨(Nat.le_of_ble_eq_true rfl), (Nat.le_of_ble_eq_true rfl)⟩) hE hP hD [] rfl rfl rfl hl.1 rfl (Nat.le_of_ble_eq_true rfl) dX1_shift_4 ⟨(Nat.le_of_ble_eq_true rfl), (Nat.le_of_ble_eq_true rfl)⟩) hP hD hS hA (is := []) rfl rfl (fun H locs hP hD hS => ?_)
  rw [putW_nil] at hP hD
  have hP : va_P D vwCl (ivW h0 v) H := hP
  have hD : va_D A (ivW h0 v) := hD
  refine lv_istore_n (lv' := [(1, .int (tpb (v_lo v))), (0, .ref h0)]) hx hb dX1_shift_7 rfl hl (by decide) rfl (fun ls hl => ?_)
  refine lv_aload_n hx hb dX1_shift_8 rfl (lv_at hl 1 rfl) ?_
  refine lv_aload_n hx hb dX1_shift_9 rfl (lv_at hl 1 rfl) ?_
  refine va_get (D := D) (ci := 1) (v := .long (v_lo v)) (C := RX1) (T := TX1) (N := 4) hx hb hts (fun _ h => List.mem_cons_of_mem _ (List.mem_append_right _ h)) hown hK hP 0 rfl rfl 0 (by decide) (hts _ (List.mem_of_getElem? (i := 1) rfl)) (fun _ h9 => h9) rfl dX1_shift_10 ?_
  refine lv_bipush (v := 8) hx hb dX1_shift_13 (by decide) ?_
  refine lv_lshl hx hb dX1_shift_15 rfl ?_
  refine lv_ldc2 hx hb hown (hts _ (List.mem_of_getElem? (i := 2) rfl)) dX1_shift_16 ?_
  refine lv_land hx hb dX1_shift_19 ?_
  refine va_put (D := D) (ci := 1) (v := .long (((v_lo v) <<< ((8 : Int32).toInt64 &&& 63)) &&& 4294967295)) (ty := .long) (C := RX1) (T := TX1) (N := 4) hx hb hts (fun _ h => List.mem_cons_of_mem _ (List.mem_append_right _ h)) tyX1 tyX1_ok nmX1 hown hK hP hD hS 0 rfl rfl 0 (by decide) (hts _ (List.mem_of_getElem? (i := 1) rfl)) (fun _ h9 => h9) rfl (by decide +kernel) rfl rfl (Nat.le_of_ble_eq_true rfl) dX1_shift_20 (fun H locs hP hD hS => ?_)
  have hP : va_P D vwCl (ivW h0 (vs_lo v (((v_lo v) <<< ((8 : Int32).toInt64 &&& 63)) &&& 4294967295))) H := hP
  have hD : va_D A (ivW h0 (vs_lo v (((v_lo v) <<< ((8 : Int32).toInt64 &&& 63)) &&& 4294967295))) := hD
  refine lv_aload_n hx hb dX1_shift_23 rfl (lv_at hl 1 rfl) ?_
  refine lv_aload_n hx hb dX1_shift_24 rfl (lv_at hl 1 rfl) ?_
  refine va_get (D := D) (ci := 1) (v := .long (v_hi v)) (C := RX1) (T := TX1) (N := 4) hx hb hts (fun _ h => List.mem_cons_of_mem _ (List.mem_append_right _ h)) hown hK hP 0 rfl rfl 1 (by decide) (hts _ (List.mem_of_getElem? (i := 3) rfl)) (fun _ h9 => h9) rfl dX1_shift_25 ?_
  refine lv_bipush (v := 8) hx hb dX1_shift_28 (by decide) ?_
  refine lv_lshl hx hb dX1_shift_30 rfl ?_
  refine lv_ldc2 hx hb hown (hts _ (List.mem_of_getElem? (i := 2) rfl)) dX1_shift_31 ?_
  refine lv_land hx hb dX1_shift_34 ?_
  refine lv_ldc2 hx hb hown (hts _ (List.mem_of_getElem? (i := 4) rfl)) dX1_shift_35 ?_
  refine lv_ladd hx hb dX1_shift_38 ?_
  refine va_put (D := D) (ci := 1) (v := .long ((((v_hi v) <<< ((8 : Int32).toInt64 &&& 63)) &&& 4294967295) + 255)) (ty := .long) (C := RX1) (T := TX1) (N := 4) hx hb hts (fun _ h => List.mem_cons_of_mem _ (List.mem_append_right _ h)) tyX1 tyX1_ok nmX1 hown hK hP hD hS 0 rfl rfl 1 (by decide) (hts _ (List.mem_of_getElem? (i := 3) rfl)) (fun _ h9 => h9) rfl (by decide +kernel) rfl rfl (Nat.le_of_ble_eq_true rfl) dX1_shift_39 (fun H locs hP hD hS => ?_)
  have hP : va_P D vwCl (ivW h0 (vs_hi (vs_lo v (((v_lo v) <<< ((8 : Int32).toInt64 &&& 63)) &&& 4294967295)) ((((v_hi v) <<< ((8 : Int32).toInt64 &&& 63)) &&& 4294967295) + 255))) H := hP
  have hD : va_D A (ivW h0 (vs_hi (vs_lo v (((v_lo v) <<< ((8 : Int32).toInt64 &&& 63)) &&& 4294967295)) ((((v_hi v) <<< ((8 : Int32).toInt64 &&& 63)) &&& 4294967295) + 255))) := hD
  refine lv_iload_n hx hb dX1_shift_42 rfl (lv_at hl 0 rfl) ?_
  have hw9 : (ivW h0 (vs_hi (vs_lo v (((v_lo v) <<< ((8 : Int32).toInt64 &&& 63)) &&& 4294967295)) ((((v_hi v) <<< ((8 : Int32).toInt64 &&& 63)) &&& 4294967295) + 255))) = (ivW h0 (v_shf v)) := by rfl
  rw [hw9] at hP hD
  exact W.iret (v := tpb (v_lo v)) hx hb hr (fun t ht hW => ⟨⟨(tpb (v_lo v)), (), rfl, by rfl, by rw [ht]; exact hP, hD⟩, hS.F ht⟩) hS.2.2 dX1_shift_43
end
section
/-! ===== Arrays.fill, the interval with a row, models ===== -/
abbrev Ar : Type := (Nat → Int32)
def y_f (u : Ar) : Nat → Int32 := u
def ys_f (u : Ar) (x : Nat → Int32) : Ar := (x)
theorem y_f_f (u : Ar) (x : Nat → Int32) : y_f (ys_f u x) = x := rfl
abbrev Al : Type := (Nat → Int64)
def z_f (u : Al) : Nat → Int64 := u
def zs_f (u : Al) (x : Nat → Int64) : Al := (x)
theorem z_f_f (u : Al) (x : Nat → Int64) : z_f (zs_f u x) = x := rfl
abbrev IR : Type := Iv × Row
def i_v (u : IR) : Iv := u.1
def is_v (u : IR) (x : Iv) : IR := (x, u.2)
def i_r (u : IR) : Row := u.2
def is_r (u : IR) (x : Row) : IR := (u.1, x)
theorem i_v_v (u : IR) (x : Iv) : i_v (is_v u x) = x := rfl
theorem i_v_r (u : IR) (x : Row) : i_v (is_r u x) = i_v u := rfl
theorem i_r_v (u : IR) (x : Iv) : i_r (is_v u x) = i_r u := rfl
theorem i_r_r (u : IR) (x : Row) : i_r (is_r u x) = x := rfl
def aiW (cI : ClassId) (h n : Nat) (u : Ar) : va_W := [(h, .inl (cI, n, .inl (y_f u)))]
def alW (cL : ClassId) (h n : Nat) (u : Al) : va_W := [(h, .inl (cL, n, .inr (.inl (z_f u))))]
def irW (cI : ClassId) (h0 g0 g1 lim : Nat) (u : IR) : va_W := ivW h0 (i_v u) ++ rowW cI g0 g1 lim (i_r u)
theorem irW_all (cI : ClassId) (h0 g0 g1 lim : Nat) (u u' : IR) : putW (irW cI h0 g0 g1 lim u) [0, 1, 2] (irW cI h0 g0 g1 lim u') = irW cI h0 g0 g1 lim u' := rfl
theorem irW_row (cI : ClassId) (h0 g0 g1 lim : Nat) (u : IR) (r : Row) : putW (irW cI h0 g0 g1 lim u) [1, 2] (rowW cI g0 g1 lim r) = irW cI h0 g0 g1 lim (is_r u r) := rfl
theorem is_r_self (u : IR) : is_r u (i_r u) = u := rfl
theorem moW_all (cI cL : ClassId) (h0 h1 h2 h3 : Nat) (o o' : Mo) : putW (moW cI cL h0 h1 h2 h3 o) [0, 1, 2, 3] (moW cI cL h0 h1 h2 h3 o') = moW cI cL h0 h1 h2 h3 o' := rfl
theorem moW_co (cI cL : ClassId) (h0 h1 h2 h3 : Nat) (o : Mo) (f : Ar) : putW (moW cI cL h0 h1 h2 h3 o) [1] (aiW cI h1 512 f) = moW cI cL h0 h1 h2 h3 (os_co o f) := rfl
theorem moW_se (cI cL : ClassId) (h0 h1 h2 h3 : Nat) (o : Mo) (f : Al) : putW (moW cI cL h0 h1 h2 h3 o) [2] (alW cL h2 512 f) = moW cI cL h0 h1 h2 h3 (os_se o f) := rfl
theorem moW_we (cI cL : ClassId) (h0 h1 h2 h3 : Nat) (o : Mo) (f : Ar) : putW (moW cI cL h0 h1 h2 h3 o) [3] (aiW cI h3 8 f) = moW cI cL h0 h1 h2 h3 (os_we o f) := rfl
/-- the first n places v -/
def fiI (n : Nat) (v : Int32) (f : Nat → Int32) : Nat → Int32 := fun j => if j < n then v else f j
def fiL (n : Nat) (v : Int64) (f : Nat → Int64) : Nat → Int64 := fun j => if j < n then v else f j
theorem fiI_0 (v : Int32) (f : Nat → Int32) : fiI 0 v f = f := by funext j; simp [fiI]
theorem fiL_0 (v : Int64) (f : Nat → Int64) : fiL 0 v f = f := by funext j; simp [fiL]
theorem fiI_s (n : Nat) (v : Int32) (f : Nat → Int32) : upd (fiI n v f) n v = fiI (n + 1) v f := by
  funext j
  unfold upd fiI
  by_cases h1 : j = n
  · rw [if_pos h1, if_pos (by omega)]
  · rw [if_neg h1]
    by_cases h2 : j < n
    · rw [if_pos h2, if_pos (by omega)]
    · rw [if_neg h2, if_neg (by omega)]
theorem fiL_s (n : Nat) (v : Int64) (f : Nat → Int64) : vp_updL (fiL n v f) n v = fiL (n + 1) v f := by
  funext j
  unfold vp_updL fiL
  by_cases h1 : j = n
  · rw [if_pos h1, if_pos (by omega)]
  · rw [if_neg h1]
    by_cases h2 : j < n
    · rw [if_pos h2, if_pos (by omega)]
    · rw [if_neg h2, if_neg (by omega)]

set_option maxHeartbeats 4000000 in
set_option maxRecDepth 100000 in
theorem c_J7_fill_53178 (l : Launch) (D : va_G) (cI cL cM : ClassId) (A : Nat → Prop) (h n : Nat) (u : Ar) (v : Int32) (hn : n < 2147483648) : mV l yJ7_fill_53178 wsJ7_fill_53178 ({ frames := 0, cells := 0, slots := 0, locals := 0 }) D (tB cI cL cM) A [.ref h, .int v] (aiW cI h n u) (aiW cI h n (fiI n v u)) := by
  refine Met.ofW (cc := cJ7_fill_53178) (maxL := 4) (ret := none) (by decide) rfl ?_
  intro p e s m args below meth c s₁ B hml hv
  obtain ⟨rfl, hP, hE, hD, hA⟩ := hv
  have hK := hE.1
  have hx := B.exec
  have hb := B.bytes
  have hr := B.returns
  have hts := atoms_spec (ws := wsJ7_fill_53178) B.pre
  have hown : s.vm.findClass RJ7 = some m.cls := findClass_of_methodNamed B.named
  have hlocks := B.notSynchronized
  have hS : va_S A s.heap s.heap [] := va_S.rf
  have hl := lv_entry ([.ref h, .int v]) (n := 4) (Nat.le_of_ble_eq_true rfl)
  rw [lg_entry_eq]
  generalize (lg_sl ([.ref h, .int v]) ++ List.replicate (4 - (lg_sl ([.ref h, .int v])).length) Slot.unset).toArray = ls at hl ⊢
  have hl : lv_has ls 4 [(0, .ref h), (1, .int v)] := hl
  refine lv_iconst (v := 0) hx hb dJ7_fill_53178_0 (by decide) ?_
  refine lv_istore_n (lv' := [(2, .int 0), (0, .ref h), (1, .int v)]) hx hb dJ7_fill_53178_1 rfl hl (by decide) rfl (fun ls hl => ?_)
  refine lv_aload_n hx hb dJ7_fill_53178_2 rfl (lv_at hl 1 rfl) ?_
  refine va_alen (v := nI n) hx hb hK hP 0 0 rfl rfl rfl dJ7_fill_53178_3 ?_
  refine lv_istore_n (lv' := [(3, .int (nI n)), (2, .int 0), (0, .ref h), (1, .int v)]) hx hb dJ7_fill_53178_4 rfl hl (by decide) rfl (fun ls hl => ?_)
  have lp : ∀ (n9 : Nat) (i : Nat) (hi : i ≤ n), n - i < n9 → ∀ (H : Heap) (locs : List Loc), va_P D vwCl (aiW cI h n (ys_f u (fiI i v (y_f u)))) H → va_D A (aiW cI h n (ys_f u (fiI i v (y_f u)))) → va_S A s.heap H locs → ∀ (ls : Array Slot), lv_has ls 4 [(2, .int (nI i)), (3, .int (nI n)), (0, .ref h), (1, .int v)] → W p l e (headSpec wsJ7_fill_53178 ({ frames := 0, cells := 0, slots := 0, locals := 0 })).room s m (([.ref h, .int v] : List Value).toArray) below meth c H locs 0 0 (MQ below (va_Qv (fun (_ : Unit) => True) (fun _ t => hq D A (aiW cI h n (fiI n v u)) t) A) (([.ref h, .int v] : List Value).toArray) s 0 0 A) (F0 m 5 ls []) := by
    intro n9
    induction n9 with
    | zero => intro i hi hm9; exact absurd hm9 (Nat.not_lt_zero _)
    | succ n9 ih_lp =>
      intro i hi hm9 H locs hP hD hS ls hl
      refine lv_iload_n hx hb dJ7_fill_53178_5 rfl (lv_at hl 0 rfl) ?_
      refine lv_iload_n hx hb dJ7_fill_53178_6 rfl (lv_at hl 1 rfl) ?_
      refine lv_icmp_ge (tgt := 20) hx hb dJ7_fill_53178_7 (by decide) (fun c_1 => ?_) (fun c_1 => ?_)
      · have c_1 : (nI n) ≤ (nI i) := c_1
        try simp only [Int32.lt_iff_toInt_lt, Int32.le_iff_toInt_le, tI0] at c_1
        have hin : i = n := by have h8 := nIT hi hn; have h9 := nIT (Nat.le_refl n) hn; rw [h8, h9] at c_1; omega
        have hw9 : (aiW cI h n (ys_f u (fiI i v (y_f u)))) = (aiW cI h n (fiI n v u)) := by rw [hin]; rfl
        rw [hw9] at hP hD
        exact W.vret hx hb hr (fun t ht hW => ⟨⟨(), rfl, trivial, by rw [ht]; exact hP, hD⟩, hS.F ht⟩) hS.2.2 dJ7_fill_53178_20
      · have c_1 : ¬ (nI n) ≤ (nI i) := c_1
        try simp only [Int32.lt_iff_toInt_lt, Int32.le_iff_toInt_le, tI0] at c_1
        have hin : i < n := by have h8 := nIT hi hn; have h9 := nIT (Nat.le_refl n) hn; rw [h8, h9] at c_1; omega
        refine lv_aload_n hx hb dJ7_fill_53178_10 rfl (lv_at hl 2 rfl) ?_
        refine lv_iload_n hx hb dJ7_fill_53178_11 rfl (lv_at hl 0 rfl) ?_
        refine lv_iload_n hx hb dJ7_fill_53178_12 rfl (lv_at hl 3 rfl) ?_
        refine istN hx hb hK hP hD hS 0 0 rfl rfl i (hin) (hn) dJ7_fill_53178_13 (fun H locs hP hD hS => ?_)
        have hP : va_P D vwCl (aiW cI h n (ys_f u (upd (fiI i v (y_f u)) i v))) H := hP
        have hD : va_D A (aiW cI h n (ys_f u (upd (fiI i v (y_f u)) i v))) := hD
        refine lv_iinc (v := nI (i + 1)) (lv' := [(2, .int (nI (i + 1))), (3, .int (nI n)), (0, .ref h), (1, .int v)]) hx hb dJ7_fill_53178_14 hl (k := 0) rfl (nI_1 _) (by decide) rfl (fun ls hl => ?_)
        refine lv_goto (tgt := 5) hx hb dJ7_fill_53178_17 (by decide) ?_
        rw [fiI_s] at hP hD
        exact ih_lp (i + 1) (by omega) (by omega) _ _ hP hD hS ls (lv_sub hl [0, 1, 2, 3] rfl)
  have e0 : (aiW cI h n u) = (aiW cI h n (ys_f u (fiI 0 v (y_f u)))) := by rw [fiI_0]; rfl
  rw [e0] at hP hD
  exact lp _ 0 (Nat.zero_le n) (Nat.lt_succ_self _) _ _ hP hD hS ls (lv_sub hl [1, 0, 2, 3] rfl)

set_option maxHeartbeats 4000000 in
set_option maxRecDepth 100000 in
theorem c_J7_fill_d0a16 (l : Launch) (D : va_G) (cI cL cM : ClassId) (A : Nat → Prop) (h n : Nat) (u : Al) (v : Int64) (hn : n < 2147483648) : mV l yJ7_fill_d0a16 wsJ7_fill_d0a16 ({ frames := 0, cells := 0, slots := 0, locals := 0 }) D (tB cI cL cM) A [.ref h, .long v] (alW cL h n u) (alW cL h n (fiL n v u)) := by
  refine Met.ofW (cc := cJ7_fill_d0a16) (maxL := 5) (ret := none) (by decide) rfl ?_
  intro p e s m args below meth c s₁ B hml hv
  obtain ⟨rfl, hP, hE, hD, hA⟩ := hv
  have hK := hE.1
  have hx := B.exec
  have hb := B.bytes
  have hr := B.returns
  have hts := atoms_spec (ws := wsJ7_fill_d0a16) B.pre
  have hown : s.vm.findClass RJ7 = some m.cls := findClass_of_methodNamed B.named
  have hlocks := B.notSynchronized
  have hS : va_S A s.heap s.heap [] := va_S.rf
  have hl := lv_entry ([.ref h, .long v]) (n := 5) (Nat.le_of_ble_eq_true rfl)
  rw [lg_entry_eq]
  generalize (lg_sl ([.ref h, .long v]) ++ List.replicate (5 - (lg_sl ([.ref h, .long v])).length) Slot.unset).toArray = ls at hl ⊢
  have hl : lv_has ls 5 [(0, .ref h), (1, .long v)] := hl
  refine lv_iconst (v := 0) hx hb dJ7_fill_d0a16_0 (by decide) ?_
  refine lv_istore_n (lv' := [(3, .int 0), (0, .ref h), (1, .long v)]) hx hb dJ7_fill_d0a16_1 rfl hl (by decide) rfl (fun ls hl => ?_)
  refine lv_aload_n hx hb dJ7_fill_d0a16_2 rfl (lv_at hl 1 rfl) ?_
  refine va_alen (v := nI n) hx hb hK hP 0 1 rfl rfl rfl dJ7_fill_d0a16_3 ?_
  refine lv_istore (lv' := [(4, .int (nI n)), (3, .int 0), (0, .ref h), (1, .long v)]) hx hb dJ7_fill_d0a16_4 hl (by decide) rfl (fun ls hl => ?_)
  have lp : ∀ (n9 : Nat) (i : Nat) (hi : i ≤ n), n - i < n9 → ∀ (H : Heap) (locs : List Loc), va_P D vwCl (alW cL h n (zs_f u (fiL i v (z_f u)))) H → va_D A (alW cL h n (zs_f u (fiL i v (z_f u)))) → va_S A s.heap H locs → ∀ (ls : Array Slot), lv_has ls 5 [(3, .int (nI i)), (4, .int (nI n)), (0, .ref h), (1, .long v)] → W p l e (headSpec wsJ7_fill_d0a16 ({ frames := 0, cells := 0, slots := 0, locals := 0 })).room s m (([.ref h, .long v] : List Value).toArray) below meth c H locs 0 0 (MQ below (va_Qv (fun (_ : Unit) => True) (fun _ t => hq D A (alW cL h n (fiL n v u)) t) A) (([.ref h, .long v] : List Value).toArray) s 0 0 A) (F0 m 6 ls []) := by
    intro n9
    induction n9 with
    | zero => intro i hi hm9; exact absurd hm9 (Nat.not_lt_zero _)
    | succ n9 ih_lp =>
      intro i hi hm9 H locs hP hD hS ls hl
      refine lv_iload_n hx hb dJ7_fill_d0a16_6 rfl (lv_at hl 0 rfl) ?_
      refine lv_iload hx hb dJ7_fill_d0a16_7 (lv_at hl 1 rfl) ?_
      refine lv_icmp_ge (tgt := 22) hx hb dJ7_fill_d0a16_9 (by decide) (fun c_1 => ?_) (fun c_1 => ?_)
      · have c_1 : (nI n) ≤ (nI i) := c_1
        try simp only [Int32.lt_iff_toInt_lt, Int32.le_iff_toInt_le, tI0] at c_1
        have hin : i = n := by have h8 := nIT hi hn; have h9 := nIT (Nat.le_refl n) hn; rw [h8, h9] at c_1; omega
        have hw9 : (alW cL h n (zs_f u (fiL i v (z_f u)))) = (alW cL h n (fiL n v u)) := by rw [hin]; rfl
        rw [hw9] at hP hD
        exact W.vret hx hb hr (fun t ht hW => ⟨⟨(), rfl, trivial, by rw [ht]; exact hP, hD⟩, hS.F ht⟩) hS.2.2 dJ7_fill_d0a16_22
      · have c_1 : ¬ (nI n) ≤ (nI i) := c_1
        try simp only [Int32.lt_iff_toInt_lt, Int32.le_iff_toInt_le, tI0] at c_1
        have hin : i < n := by have h8 := nIT hi hn; have h9 := nIT (Nat.le_refl n) hn; rw [h8, h9] at c_1; omega
        refine lv_aload_n hx hb dJ7_fill_d0a16_12 rfl (lv_at hl 2 rfl) ?_
        refine lv_iload_n hx hb dJ7_fill_d0a16_13 rfl (lv_at hl 0 rfl) ?_
        refine lv_lload_n hx hb dJ7_fill_d0a16_14 rfl (lv_at hl 3 rfl) ?_
        refine lstN hx hb hK hP hD hS 0 1 rfl rfl i (hin) (hn) dJ7_fill_d0a16_15 (fun H locs hP hD hS => ?_)
        have hP : va_P D vwCl (alW cL h n (zs_f u (vp_updL (fiL i v (z_f u)) i v))) H := hP
        have hD : va_D A (alW cL h n (zs_f u (vp_updL (fiL i v (z_f u)) i v))) := hD
        refine lv_iinc (v := nI (i + 1)) (lv' := [(3, .int (nI (i + 1))), (4, .int (nI n)), (0, .ref h), (1, .long v)]) hx hb dJ7_fill_d0a16_16 hl (k := 0) rfl (nI_1 _) (by decide) rfl (fun ls hl => ?_)
        refine lv_goto (tgt := 6) hx hb dJ7_fill_d0a16_19 (by decide) ?_
        rw [fiL_s] at hP hD
        exact ih_lp (i + 1) (by omega) (by omega) _ _ hP hD hS ls (lv_sub hl [0, 1, 2, 3] rfl)
  have e0 : (alW cL h n u) = (alW cL h n (zs_f u (fiL 0 v (z_f u)))) := by rw [fiL_0]; rfl
  rw [e0] at hP hD
  exact lp _ 0 (Nat.zero_le n) (Nat.lt_succ_self _) _ _ hP hD hS ls (lv_sub hl [1, 0, 2, 3] rfl)
end
section
def i_pul (u : IR) : IR := is_v u (v_pul (i_v u) (i_r u))
theorem i_pul_r (u : IR) : i_r (i_pul u) = i_r u := i_r_v u _
def i_lod (u : IR) : IR := i_pul (i_pul (i_pul (i_pul u)))
set_option maxHeartbeats 4000000 in
set_option maxRecDepth 100000 in
theorem c_X1_pull (l : Launch) (D : va_G) (cI cL cM : ClassId) (A : Nat → Prop) (h0 g0 g1 lim : Nat) (u : IR) (hc : q_c (i_r u) ≤ lim) (hm : lim < 2147483648) : mV l yX1_pull wsX1_pull ({ frames := 2, cells := 0, slots := 0, locals := 42 }) D (tB cI cL cM) A [.ref h0, .ref g0] (irW cI h0 g0 g1 lim u) (irW cI h0 g0 g1 lim (i_pul u)) := by
  refine Met.ofW (cc := cX1_pull) (maxL := 2) (ret := none) (by decide) rfl ?_
  intro p e s m args below meth c s₁ B hml hv
  obtain ⟨rfl, hP, hE, hD, hA⟩ := hv
  have hK := hE.1
  have hx := B.exec
  have hb := B.bytes
  have hr := B.returns
  have hts := atoms_spec (ws := wsX1_pull) B.pre
  have hown : s.vm.findClass RX1 = some m.cls := findClass_of_methodNamed B.named
  have hlocks := B.notSynchronized
  have hS : va_S A s.heap s.heap [] := va_S.rf
  have hl := lv_entry ([.ref h0, .ref g0]) (n := 2) (Nat.le_of_ble_eq_true rfl)
  rw [lg_entry_eq]
  generalize (lg_sl ([.ref h0, .ref g0]) ++ List.replicate (2 - (lg_sl ([.ref h0, .ref g0])).length) Slot.unset).toArray = ls at hl ⊢
  have hl : lv_has ls 2 [(0, .ref h0), (1, .ref g0)] := hl
  refine lv_aload_n hx hb dX1_pull_0 rfl (lv_at hl 0 rfl) ?_
  refine lv_aload_n hx hb dX1_pull_1 rfl (lv_at hl 0 rfl) ?_
  refine va_get (D := D) (ci := 1) (v := .long (v_x (i_v u))) (C := RX1) (T := TX1) (N := 4) hx hb hts (fun _ h => List.mem_cons_of_mem _ (List.mem_append_left _ (List.mem_append_right _ h))) hown hK hP 0 rfl rfl 2 (by decide) (hts _ (List.mem_of_getElem? (i := 1) rfl)) (fun _ h9 => h9) rfl dX1_pull_2 ?_
  refine lv_bipush (v := 8) hx hb dX1_pull_5 (by decide) ?_
  refine lv_lshl hx hb dX1_pull_7 rfl ?_
  refine lv_ldc2 hx hb hown (hts _ (List.mem_of_getElem? (i := 2) rfl)) dX1_pull_8 ?_
  refine lv_land hx hb dX1_pull_11 ?_
  refine lv_aload_n hx hb dX1_pull_12 rfl (lv_at hl 1 rfl) ?_
  refine lv_aload_n hx hb dX1_pull_13 rfl (lv_at hl 0 rfl) ?_
  refine va_get (D := D) (ci := 1) (v := .int (v_nx (i_v u))) (C := RX1) (T := TX1) (N := 4) hx hb hts (fun _ h => List.mem_cons_of_mem _ (List.mem_append_left _ (List.mem_append_right _ h))) hown hK hP 0 rfl rfl 3 (by decide) (hts _ (List.mem_of_getElem? (i := 3) rfl)) (fun _ h9 => h9) rfl dX1_pull_14 ?_
  refine kI (rV (As := [.int (v_nx (i_v u))]) (rest := [.long (((v_x (i_v u)) <<< ((8 : Int32).toInt64 &&& 63)) &&& 4294967295), .ref h0]) ⟨hx, hb, hml, hown, hts⟩ (c_X0_at l D cI cL cM _ g0 g1 lim (i_r u) (v_nx (i_v u)) hc hm) (cwV 1 hts gX1_pull_X0_at rfl rfl rfl (by decide +kernel) ⟨(Nat.le_of_ble_eq_true rfl), (Nat.le_of_ble_eq_true rfl)⟩) hE hP hD [1, 2] rfl rfl rfl rfl rfl hl.1 rfl (Nat.le_of_ble_eq_true rfl) dX1_pull_17 ⟨(Nat.le_of_ble_eq_true rfl), (Nat.le_of_ble_eq_true rfl)⟩) hP hD hS hA (is := [1, 2]) rfl rfl (fun H locs hP hD hS => ?_)
  rw [irW_row, is_r_self] at hP hD
  have hP : va_P D vwCl (irW cI h0 g0 g1 lim u) H := hP
  have hD : va_D A (irW cI h0 g0 g1 lim u) := hD
  refine lv_i2l hx hb dX1_pull_20 rfl ?_
  refine lv_ladd hx hb dX1_pull_21 ?_
  refine va_put (D := D) (ci := 1) (v := .long ((((v_x (i_v u)) <<< ((8 : Int32).toInt64 &&& 63)) &&& 4294967295) + ((q_at (i_r u) (v_nx (i_v u))).toInt64))) (ty := .long) (C := RX1) (T := TX1) (N := 4) hx hb hts (fun _ h => List.mem_cons_of_mem _ (List.mem_append_left _ (List.mem_append_right _ h))) tyX1 tyX1_ok nmX1 hown hK hP hD hS 0 rfl rfl 2 (by decide) (hts _ (List.mem_of_getElem? (i := 1) rfl)) (fun _ h9 => h9) rfl (by decide +kernel) rfl rfl (Nat.le_of_ble_eq_true rfl) dX1_pull_22 (fun H locs hP hD hS => ?_)
  have hP : va_P D vwCl (irW cI h0 g0 g1 lim (is_v u (vs_x (i_v u) ((((v_x (i_v u)) <<< ((8 : Int32).toInt64 &&& 63)) &&& 4294967295) + ((q_at (i_r u) (v_nx (i_v u))).toInt64))))) H := hP
  have hD : va_D A (irW cI h0 g0 g1 lim (is_v u (vs_x (i_v u) ((((v_x (i_v u)) <<< ((8 : Int32).toInt64 &&& 63)) &&& 4294967295) + ((q_at (i_r u) (v_nx (i_v u))).toInt64))))) := hD
  refine lv_aload_n hx hb dX1_pull_25 rfl (lv_at hl 0 rfl) ?_
  refine lv_dup hx hb dX1_pull_26 rfl ?_
  refine va_get (D := D) (ci := 1) (v := .int (v_nx (i_v u))) (C := RX1) (T := TX1) (N := 4) hx hb hts (fun _ h => List.mem_cons_of_mem _ (List.mem_append_left _ (List.mem_append_right _ h))) hown hK hP 0 rfl rfl 3 (by decide) (hts _ (List.mem_of_getElem? (i := 3) rfl)) (fun _ h9 => h9) rfl dX1_pull_27 ?_
  refine lv_iconst (v := 1) hx hb dX1_pull_30 (by decide) ?_
  refine lv_iadd hx hb dX1_pull_31 ?_
  refine va_put (D := D) (ci := 1) (v := .int ((v_nx (i_v u)) + 1)) (ty := .int) (C := RX1) (T := TX1) (N := 4) hx hb hts (fun _ h => List.mem_cons_of_mem _ (List.mem_append_left _ (List.mem_append_right _ h))) tyX1 tyX1_ok nmX1 hown hK hP hD hS 0 rfl rfl 3 (by decide) (hts _ (List.mem_of_getElem? (i := 3) rfl)) (fun _ h9 => h9) rfl (by decide +kernel) rfl rfl (Nat.le_of_ble_eq_true rfl) dX1_pull_32 (fun H locs hP hD hS => ?_)
  have hP : va_P D vwCl (irW cI h0 g0 g1 lim (is_v u (vs_nx (vs_x (i_v u) ((((v_x (i_v u)) <<< ((8 : Int32).toInt64 &&& 63)) &&& 4294967295) + ((q_at (i_r u) (v_nx (i_v u))).toInt64))) ((v_nx (i_v u)) + 1)))) H := hP
  have hD : va_D A (irW cI h0 g0 g1 lim (is_v u (vs_nx (vs_x (i_v u) ((((v_x (i_v u)) <<< ((8 : Int32).toInt64 &&& 63)) &&& 4294967295) + ((q_at (i_r u) (v_nx (i_v u))).toInt64))) ((v_nx (i_v u)) + 1)))) := hD
  have hw9 : (irW cI h0 g0 g1 lim (is_v u (vs_nx (vs_x (i_v u) ((((v_x (i_v u)) <<< ((8 : Int32).toInt64 &&& 63)) &&& 4294967295) + ((q_at (i_r u) (v_nx (i_v u))).toInt64))) ((v_nx (i_v u)) + 1)))) = (irW cI h0 g0 g1 lim (i_pul u)) := by rfl
  rw [hw9] at hP hD
  exact W.vret hx hb hr (fun t ht hW => ⟨⟨(), rfl, trivial, by rw [ht]; exact hP, hD⟩, hS.F ht⟩) hS.2.2 dX1_pull_35

set_option maxHeartbeats 4000000 in
set_option maxRecDepth 100000 in
theorem c_X1_load (l : Launch) (D : va_G) (cI cL cM : ClassId) (A : Nat → Prop) (h0 g0 g1 lim : Nat) (u : IR) (hc : q_c (i_r u) ≤ lim) (hm : lim < 2147483648) : mV l yX1_load wsX1_load ({ frames := 3, cells := 0, slots := 0, locals := 63 }) D (tB cI cL cM) A [.ref h0, .ref g0] (irW cI h0 g0 g1 lim u) (irW cI h0 g0 g1 lim (i_lod u)) := by
  refine Met.ofW (cc := cX1_load) (maxL := 3) (ret := none) (by decide) rfl ?_
  intro p e s m args below meth c s₁ B hml hv
  obtain ⟨rfl, hP, hE, hD, hA⟩ := hv
  have hK := hE.1
  have hx := B.exec
  have hb := B.bytes
  have hr := B.returns
  have hts := atoms_spec (ws := wsX1_load) B.pre
  have hown : s.vm.findClass RX1 = some m.cls := findClass_of_methodNamed B.named
  have hlocks := B.notSynchronized
  have hS : va_S A s.heap s.heap [] := va_S.rf
  have hl := lv_entry ([.ref h0, .ref g0]) (n := 3) (Nat.le_of_ble_eq_true rfl)
  rw [lg_entry_eq]
  generalize (lg_sl ([.ref h0, .ref g0]) ++ List.replicate (3 - (lg_sl ([.ref h0, .ref g0])).length) Slot.unset).toArray = ls at hl ⊢
  have hl : lv_has ls 3 [(0, .ref h0), (1, .ref g0)] := hl
  refine lv_iconst (v := 0) hx hb dX1_load_0 (by decide) ?_
  refine lv_istore_n (lv' := [(2, .int 0), (0, .ref h0), (1, .ref g0)]) hx hb dX1_load_1 rfl hl (by decide) rfl (fun ls hl => ?_)
  refine lv_iload_n hx hb dX1_load_2 rfl (lv_at hl 0 rfl) ?_
  refine lv_iconst (v := 4) hx hb dX1_load_3 (by decide) ?_
  refine lv_icmp_ge (tgt := 18) hx hb dX1_load_4 (by decide) (fun c_1 => absurd c_1 (by decide)) (fun c_1 => ?_)
  refine lv_aload_n hx hb dX1_load_7 rfl (lv_at hl 1 rfl) ?_
  refine lv_aload_n hx hb dX1_load_8 rfl (lv_at hl 2 rfl) ?_
  refine kV (rV (As := [.ref g0]) (rest := []) ⟨hx, hb, hml, hown, hts⟩ (c_X1_pull l D cI cL cM _ h0 g0 g1 lim u hc hm) (cwV 1 hts gX1_load_X1_pull rfl rfl rfl (by decide +kernel) ⟨(Nat.le_of_ble_eq_true rfl), (Nat.le_of_ble_eq_true rfl)⟩) hE hP hD [0, 1, 2] rfl rfl rfl rfl rfl hl.1 rfl (Nat.le_of_ble_eq_true rfl) dX1_load_9 ⟨(Nat.le_of_ble_eq_true rfl), (Nat.le_of_ble_eq_true rfl)⟩) hP hD hS hA (is := [0, 1, 2]) rfl rfl (fun H locs hP hD hS => ?_)
  rw [irW_all] at hP hD
  have hP : va_P D vwCl (irW cI h0 g0 g1 lim (i_pul u)) H := hP
  have hD : va_D A (irW cI h0 g0 g1 lim (i_pul u)) := hD
  obtain ⟨u_2, hu_2⟩ : ∃ z : IR, z = (i_pul u) := ⟨_, rfl⟩
  rw [← hu_2] at hP hD
  have hc : q_c (i_r u_2) ≤ lim := by rw [hu_2, i_pul_r]; exact hc
  refine lv_iinc (v := 1) (lv' := [(2, .int 1), (0, .ref h0), (1, .ref g0)]) hx hb dX1_load_12 hl (k := 0) rfl (by decide) (by decide) rfl (fun ls hl => ?_)
  refine lv_goto (tgt := 2) hx hb dX1_load_15 (by decide) ?_
  refine lv_iload_n hx hb dX1_load_2 rfl (lv_at hl 0 rfl) ?_
  refine lv_iconst (v := 4) hx hb dX1_load_3 (by decide) ?_
  refine lv_icmp_ge (tgt := 18) hx hb dX1_load_4 (by decide) (fun c_3 => absurd c_3 (by decide)) (fun c_3 => ?_)
  refine lv_aload_n hx hb dX1_load_7 rfl (lv_at hl 1 rfl) ?_
  refine lv_aload_n hx hb dX1_load_8 rfl (lv_at hl 2 rfl) ?_
  refine kV (rV (As := [.ref g0]) (rest := []) ⟨hx, hb, hml, hown, hts⟩ (c_X1_pull l D cI cL cM _ h0 g0 g1 lim u_2 hc hm) (cwV 1 hts gX1_load_X1_pull rfl rfl rfl (by decide +kernel) ⟨(Nat.le_of_ble_eq_true rfl), (Nat.le_of_ble_eq_true rfl)⟩) hE hP hD [0, 1, 2] rfl rfl rfl rfl rfl hl.1 rfl (Nat.le_of_ble_eq_true rfl) dX1_load_9 ⟨(Nat.le_of_ble_eq_true rfl), (Nat.le_of_ble_eq_true rfl)⟩) hP hD hS hA (is := [0, 1, 2]) rfl rfl (fun H locs hP hD hS => ?_)
  rw [irW_all] at hP hD
  have hP : va_P D vwCl (irW cI h0 g0 g1 lim (i_pul u_2)) H := hP
  have hD : va_D A (irW cI h0 g0 g1 lim (i_pul u_2)) := hD
  obtain ⟨u_4, hu_4⟩ : ∃ z : IR, z = (i_pul u_2) := ⟨_, rfl⟩
  rw [← hu_4] at hP hD
  have hc : q_c (i_r u_4) ≤ lim := by rw [hu_4, i_pul_r]; exact hc
  refine lv_iinc (v := 2) (lv' := [(2, .int 2), (0, .ref h0), (1, .ref g0)]) hx hb dX1_load_12 hl (k := 0) rfl (by decide) (by decide) rfl (fun ls hl => ?_)
  refine lv_goto (tgt := 2) hx hb dX1_load_15 (by decide) ?_
  refine lv_iload_n hx hb dX1_load_2 rfl (lv_at hl 0 rfl) ?_
  refine lv_iconst (v := 4) hx hb dX1_load_3 (by decide) ?_
  refine lv_icmp_ge (tgt := 18) hx hb dX1_load_4 (by decide) (fun c_5 => absurd c_5 (by decide)) (fun c_5 => ?_)
  refine lv_aload_n hx hb dX1_load_7 rfl (lv_at hl 1 rfl) ?_
  refine lv_aload_n hx hb dX1_load_8 rfl (lv_at hl 2 rfl) ?_
  refine kV (rV (As := [.ref g0]) (rest := []) ⟨hx, hb, hml, hown, hts⟩ (c_X1_pull l D cI cL cM _ h0 g0 g1 lim u_4 hc hm) (cwV 1 hts gX1_load_X1_pull rfl rfl rfl (by decide +kernel) ⟨(Nat.le_of_ble_eq_true rfl), (Nat.le_of_ble_eq_true rfl)⟩) hE hP hD [0, 1, 2] rfl rfl rfl rfl rfl hl.1 rfl (Nat.le_of_ble_eq_true rfl) dX1_load_9 ⟨(Nat.le_of_ble_eq_true rfl), (Nat.le_of_ble_eq_true rfl)⟩) hP hD hS hA (is := [0, 1, 2]) rfl rfl (fun H locs hP hD hS => ?_)
  rw [irW_all] at hP hD
  have hP : va_P D vwCl (irW cI h0 g0 g1 lim (i_pul u_4)) H := hP
  have hD : va_D A (irW cI h0 g0 g1 lim (i_pul u_4)) := hD
  obtain ⟨u_6, hu_6⟩ : ∃ z : IR, z = (i_pul u_4) := ⟨_, rfl⟩
  rw [← hu_6] at hP hD
  have hc : q_c (i_r u_6) ≤ lim := by rw [hu_6, i_pul_r]; exact hc
  refine lv_iinc (v := 3) (lv' := [(2, .int 3), (0, .ref h0), (1, .ref g0)]) hx hb dX1_load_12 hl (k := 0) rfl (by decide) (by decide) rfl (fun ls hl => ?_)
  refine lv_goto (tgt := 2) hx hb dX1_load_15 (by decide) ?_
  refine lv_iload_n hx hb dX1_load_2 rfl (lv_at hl 0 rfl) ?_
  refine lv_iconst (v := 4) hx hb dX1_load_3 (by decide) ?_
  refine lv_icmp_ge (tgt := 18) hx hb dX1_load_4 (by decide) (fun c_7 => absurd c_7 (by decide)) (fun c_7 => ?_)
  refine lv_aload_n hx hb dX1_load_7 rfl (lv_at hl 1 rfl) ?_
  refine lv_aload_n hx hb dX1_load_8 rfl (lv_at hl 2 rfl) ?_
  refine kV (rV (As := [.ref g0]) (rest := []) ⟨hx, hb, hml, hown, hts⟩ (c_X1_pull l D cI cL cM _ h0 g0 g1 lim u_6 hc hm) (cwV 1 hts gX1_load_X1_pull rfl rfl rfl (by decide +kernel) ⟨(Nat.le_of_ble_eq_true rfl), (Nat.le_of_ble_eq_true rfl)⟩) hE hP hD [0, 1, 2] rfl rfl rfl rfl rfl hl.1 rfl (Nat.le_of_ble_eq_true rfl) dX1_load_9 ⟨(Nat.le_of_ble_eq_true rfl), (Nat.le_of_ble_eq_true rfl)⟩) hP hD hS hA (is := [0, 1, 2]) rfl rfl (fun H locs hP hD hS => ?_)
  rw [irW_all] at hP hD
  have hP : va_P D vwCl (irW cI h0 g0 g1 lim (i_pul u_6)) H := hP
  have hD : va_D A (irW cI h0 g0 g1 lim (i_pul u_6)) := hD
  obtain ⟨u_8, hu_8⟩ : ∃ z : IR, z = (i_pul u_6) := ⟨_, rfl⟩
  rw [← hu_8] at hP hD
  have hc : q_c (i_r u_8) ≤ lim := by rw [hu_8, i_pul_r]; exact hc
  refine lv_iinc (v := 4) (lv' := [(2, .int 4), (0, .ref h0), (1, .ref g0)]) hx hb dX1_load_12 hl (k := 0) rfl (by decide) (by decide) rfl (fun ls hl => ?_)
  refine lv_goto (tgt := 2) hx hb dX1_load_15 (by decide) ?_
  refine lv_iload_n hx hb dX1_load_2 rfl (lv_at hl 0 rfl) ?_
  refine lv_iconst (v := 4) hx hb dX1_load_3 (by decide) ?_
  refine lv_icmp_ge (tgt := 18) hx hb dX1_load_4 (by decide) (fun c_9 => ?_) (fun c_9 => absurd (by decide) c_9)
  subst hu_8
  subst hu_6
  subst hu_4
  subst hu_2
  have hw9 : (irW cI h0 g0 g1 lim (i_pul (i_pul (i_pul (i_pul u))))) = (irW cI h0 g0 g1 lim (i_lod u)) := by rfl
  rw [hw9] at hP hD
  exact W.vret hx hb hr (fun t ht hW => ⟨⟨(), rfl, trivial, by rw [ht]; exact hP, hD⟩, hS.F ht⟩) hS.2.2 dX1_load_18
end
