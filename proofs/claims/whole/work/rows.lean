section
-- ===== PART A: goes FIRST, ahead of the names: the tables' words, and 'selects' of the private methods out of them =====
/-- a private method of a class that the tables say can be made, by its rows of tables_1 -/
def lw_okq (q : MethodName × Nat) : Prop := (q.1.cls ≠ "java/lang/invoke/MethodHandle" ∧ q.1.cls ≠ "java/lang/invoke/VarHandle") ∧ Cond.instantiable q.1.cls q.2 ∈ tables_1 ∧ Cond.privateMethod q.1 ∈ tables_1 ∧ Cond.instanceMethod q.1 ∈ tables_1
theorem lw_p0 : lw_okq (⟨"java/lang/Throwable", "fillInStackTrace", "(I)Ljava/lang/Throwable;"⟩, 6) := ⟨⟨by decide +kernel, by decide +kernel⟩, List.mem_of_getElem? (i := 263) (by decide +kernel), List.mem_of_getElem? (i := 261) (by decide +kernel), List.mem_of_getElem? (i := 262) (by decide +kernel)⟩
theorem lw_p1 : lw_okq (⟨"Payoutnet", "requireSeller", "(I)V"⟩, 11) := ⟨⟨by decide +kernel, by decide +kernel⟩, List.mem_of_getElem? (i := 20) (by decide +kernel), List.mem_of_getElem? (i := 321) (by decide +kernel), List.mem_of_getElem? (i := 322) (by decide +kernel)⟩
theorem lw_p2 : lw_okq (⟨"Payoutnet", "requireRoomForSales", "(I)V"⟩, 11) := ⟨⟨by decide +kernel, by decide +kernel⟩, List.mem_of_getElem? (i := 20) (by decide +kernel), List.mem_of_getElem? (i := 389) (by decide +kernel), List.mem_of_getElem? (i := 390) (by decide +kernel)⟩
theorem lw_p3 : lw_okq (⟨"Payoutnet", "settle", "(III)I"⟩, 11) := ⟨⟨by decide +kernel, by decide +kernel⟩, List.mem_of_getElem? (i := 20) (by decide +kernel), List.mem_of_getElem? (i := 394) (by decide +kernel), List.mem_of_getElem? (i := 395) (by decide +kernel)⟩
theorem lw_p4 : lw_okq (⟨"Payoutnet", "post", "(II)V"⟩, 11) := ⟨⟨by decide +kernel, by decide +kernel⟩, List.mem_of_getElem? (i := 20) (by decide +kernel), List.mem_of_getElem? (i := 411) (by decide +kernel), List.mem_of_getElem? (i := 412) (by decide +kernel)⟩
theorem lw_p5 : lw_okq (⟨"Payoutnet$Journal", "carryForward", "()V"⟩, 4) := ⟨⟨by decide +kernel, by decide +kernel⟩, List.mem_of_getElem? (i := 135) (by decide +kernel), List.mem_of_getElem? (i := 419) (by decide +kernel), List.mem_of_getElem? (i := 420) (by decide +kernel)⟩
theorem lw_p6 : lw_okq (⟨"Payoutnet", "settleParts", "(IIII)V"⟩, 11) := ⟨⟨by decide +kernel, by decide +kernel⟩, List.mem_of_getElem? (i := 20) (by decide +kernel), List.mem_of_getElem? (i := 438) (by decide +kernel), List.mem_of_getElem? (i := 439) (by decide +kernel)⟩
theorem lw_p7 : lw_okq (⟨"Payoutnet", "endDay", "()V"⟩, 11) := ⟨⟨by decide +kernel, by decide +kernel⟩, List.mem_of_getElem? (i := 20) (by decide +kernel), List.mem_of_getElem? (i := 459) (by decide +kernel), List.mem_of_getElem? (i := 460) (by decide +kernel)⟩
theorem lw_p8 : lw_okq (⟨"Payoutnet", "releaseReserves", "()V"⟩, 11) := ⟨⟨by decide +kernel, by decide +kernel⟩, List.mem_of_getElem? (i := 20) (by decide +kernel), List.mem_of_getElem? (i := 463) (by decide +kernel), List.mem_of_getElem? (i := 464) (by decide +kernel)⟩
theorem lw_p9 : lw_okq (⟨"Payoutnet", "release", "(II)V"⟩, 11) := ⟨⟨by decide +kernel, by decide +kernel⟩, List.mem_of_getElem? (i := 20) (by decide +kernel), List.mem_of_getElem? (i := 467) (by decide +kernel), List.mem_of_getElem? (i := 468) (by decide +kernel)⟩
theorem lw_p10 : lw_okq (⟨"Payoutnet", "coverFromReserves", "(I)V"⟩, 11) := ⟨⟨by decide +kernel, by decide +kernel⟩, List.mem_of_getElem? (i := 20) (by decide +kernel), List.mem_of_getElem? (i := 471) (by decide +kernel), List.mem_of_getElem? (i := 472) (by decide +kernel)⟩
theorem lw_p11 : lw_okq (⟨"Payoutnet", "coverFromOwner", "(I)V"⟩, 11) := ⟨⟨by decide +kernel, by decide +kernel⟩, List.mem_of_getElem? (i := 20) (by decide +kernel), List.mem_of_getElem? (i := 475) (by decide +kernel), List.mem_of_getElem? (i := 476) (by decide +kernel)⟩
theorem lw_p12 : lw_okq (⟨"Payoutnet", "payIfDue", "(I)V"⟩, 11) := ⟨⟨by decide +kernel, by decide +kernel⟩, List.mem_of_getElem? (i := 20) (by decide +kernel), List.mem_of_getElem? (i := 479) (by decide +kernel), List.mem_of_getElem? (i := 480) (by decide +kernel)⟩
theorem lw_p13 : lw_okq (⟨"Payoutnet", "dueTo", "(I)I"⟩, 11) := ⟨⟨by decide +kernel, by decide +kernel⟩, List.mem_of_getElem? (i := 20) (by decide +kernel), List.mem_of_getElem? (i := 483) (by decide +kernel), List.mem_of_getElem? (i := 484) (by decide +kernel)⟩
theorem lw_p14 : lw_okq (⟨"Payoutnet$Payouts", "grow", "()V"⟩, 4) := ⟨⟨by decide +kernel, by decide +kernel⟩, List.mem_of_getElem? (i := 112) (by decide +kernel), List.mem_of_getElem? (i := 492) (by decide +kernel), List.mem_of_getElem? (i := 493) (by decide +kernel)⟩
theorem lw_p15 : lw_okq (⟨"Payoutnet", "requirePayout", "(I)V"⟩, 11) := ⟨⟨by decide +kernel, by decide +kernel⟩, List.mem_of_getElem? (i := 20) (by decide +kernel), List.mem_of_getElem? (i := 517) (by decide +kernel), List.mem_of_getElem? (i := 518) (by decide +kernel)⟩
def lw_privs_1 : List (MethodName × Nat) := [(⟨"java/lang/Throwable", "fillInStackTrace", "(I)Ljava/lang/Throwable;"⟩, 6), (⟨"Payoutnet", "requireSeller", "(I)V"⟩, 11), (⟨"Payoutnet", "requireRoomForSales", "(I)V"⟩, 11), (⟨"Payoutnet", "settle", "(III)I"⟩, 11), (⟨"Payoutnet", "post", "(II)V"⟩, 11), (⟨"Payoutnet$Journal", "carryForward", "()V"⟩, 4), (⟨"Payoutnet", "settleParts", "(IIII)V"⟩, 11), (⟨"Payoutnet", "endDay", "()V"⟩, 11), (⟨"Payoutnet", "releaseReserves", "()V"⟩, 11), (⟨"Payoutnet", "release", "(II)V"⟩, 11), (⟨"Payoutnet", "coverFromReserves", "(I)V"⟩, 11), (⟨"Payoutnet", "coverFromOwner", "(I)V"⟩, 11), (⟨"Payoutnet", "payIfDue", "(I)V"⟩, 11), (⟨"Payoutnet", "dueTo", "(I)I"⟩, 11), (⟨"Payoutnet$Payouts", "grow", "()V"⟩, 4), (⟨"Payoutnet", "requirePayout", "(I)V"⟩, 11)]
theorem lw_r1 : ∀ q ∈ lw_privs_1, lw_okq q := List.forall_mem_cons.mpr ⟨lw_p0, List.forall_mem_cons.mpr ⟨lw_p1, List.forall_mem_cons.mpr ⟨lw_p2, List.forall_mem_cons.mpr ⟨lw_p3, List.forall_mem_cons.mpr ⟨lw_p4, List.forall_mem_cons.mpr ⟨lw_p5, List.forall_mem_cons.mpr ⟨lw_p6, List.forall_mem_cons.mpr ⟨lw_p7, List.forall_mem_cons.mpr ⟨lw_p8, List.forall_mem_cons.mpr ⟨lw_p9, List.forall_mem_cons.mpr ⟨lw_p10, List.forall_mem_cons.mpr ⟨lw_p11, List.forall_mem_cons.mpr ⟨lw_p12, List.forall_mem_cons.mpr ⟨lw_p13, List.forall_mem_cons.mpr ⟨lw_p14, List.forall_mem_cons.mpr ⟨lw_p15, fun _ h => absurd h List.not_mem_nil⟩⟩⟩⟩⟩⟩⟩⟩⟩⟩⟩⟩⟩⟩⟩⟩
theorem lw_p16 : lw_okq (⟨"PayoutnetModel", "holds", "(I)Z"⟩, 31) := ⟨⟨by decide +kernel, by decide +kernel⟩, List.mem_of_getElem? (i := 573) (by decide +kernel), List.mem_of_getElem? (i := 686) (by decide +kernel), List.mem_of_getElem? (i := 687) (by decide +kernel)⟩
theorem lw_p17 : lw_okq (⟨"PayoutnetModel", "isSeller", "(I)Z"⟩, 31) := ⟨⟨by decide +kernel, by decide +kernel⟩, List.mem_of_getElem? (i := 573) (by decide +kernel), List.mem_of_getElem? (i := 694) (by decide +kernel), List.mem_of_getElem? (i := 695) (by decide +kernel)⟩
theorem lw_p18 : lw_okq (⟨"PayoutnetModel", "settles", "(III)V"⟩, 31) := ⟨⟨by decide +kernel, by decide +kernel⟩, List.mem_of_getElem? (i := 573) (by decide +kernel), List.mem_of_getElem? (i := 733) (by decide +kernel), List.mem_of_getElem? (i := 734) (by decide +kernel)⟩
theorem lw_p19 : lw_okq (⟨"PayoutnetModel", "ends", "()V"⟩, 31) := ⟨⟨by decide +kernel, by decide +kernel⟩, List.mem_of_getElem? (i := 573) (by decide +kernel), List.mem_of_getElem? (i := 756) (by decide +kernel), List.mem_of_getElem? (i := 757) (by decide +kernel)⟩
theorem lw_p20 : lw_okq (⟨"PayoutnetModel", "releases", "()V"⟩, 31) := ⟨⟨by decide +kernel, by decide +kernel⟩, List.mem_of_getElem? (i := 573) (by decide +kernel), List.mem_of_getElem? (i := 760) (by decide +kernel), List.mem_of_getElem? (i := 761) (by decide +kernel)⟩
theorem lw_p21 : lw_okq (⟨"PayoutnetModel", "coversByReserves", "(I)V"⟩, 31) := ⟨⟨by decide +kernel, by decide +kernel⟩, List.mem_of_getElem? (i := 573) (by decide +kernel), List.mem_of_getElem? (i := 764) (by decide +kernel), List.mem_of_getElem? (i := 765) (by decide +kernel)⟩
theorem lw_p22 : lw_okq (⟨"PayoutnetModel", "coversByOthers", "(I)V"⟩, 31) := ⟨⟨by decide +kernel, by decide +kernel⟩, List.mem_of_getElem? (i := 573) (by decide +kernel), List.mem_of_getElem? (i := 771) (by decide +kernel), List.mem_of_getElem? (i := 772) (by decide +kernel)⟩
theorem lw_p23 : lw_okq (⟨"PayoutnetModel", "pays", "(I)V"⟩, 31) := ⟨⟨by decide +kernel, by decide +kernel⟩, List.mem_of_getElem? (i := 573) (by decide +kernel), List.mem_of_getElem? (i := 775) (by decide +kernel), List.mem_of_getElem? (i := 776) (by decide +kernel)⟩
theorem lw_p24 : lw_okq (⟨"PayoutnetModel", "isPayout", "(I)Z"⟩, 31) := ⟨⟨by decide +kernel, by decide +kernel⟩, List.mem_of_getElem? (i := 573) (by decide +kernel), List.mem_of_getElem? (i := 784) (by decide +kernel), List.mem_of_getElem? (i := 785) (by decide +kernel)⟩
def lw_privs_2 : List (MethodName × Nat) := [(⟨"PayoutnetModel", "holds", "(I)Z"⟩, 31), (⟨"PayoutnetModel", "isSeller", "(I)Z"⟩, 31), (⟨"PayoutnetModel", "settles", "(III)V"⟩, 31), (⟨"PayoutnetModel", "ends", "()V"⟩, 31), (⟨"PayoutnetModel", "releases", "()V"⟩, 31), (⟨"PayoutnetModel", "coversByReserves", "(I)V"⟩, 31), (⟨"PayoutnetModel", "coversByOthers", "(I)V"⟩, 31), (⟨"PayoutnetModel", "pays", "(I)V"⟩, 31), (⟨"PayoutnetModel", "isPayout", "(I)Z"⟩, 31)]
theorem lw_r2 : ∀ q ∈ lw_privs_2, lw_okq q := List.forall_mem_cons.mpr ⟨lw_p16, List.forall_mem_cons.mpr ⟨lw_p17, List.forall_mem_cons.mpr ⟨lw_p18, List.forall_mem_cons.mpr ⟨lw_p19, List.forall_mem_cons.mpr ⟨lw_p20, List.forall_mem_cons.mpr ⟨lw_p21, List.forall_mem_cons.mpr ⟨lw_p22, List.forall_mem_cons.mpr ⟨lw_p23, List.forall_mem_cons.mpr ⟨lw_p24, fun _ h => absurd h List.not_mem_nil⟩⟩⟩⟩⟩⟩⟩⟩⟩
def lw_privs : List (MethodName × Nat) := lw_privs_1 ++ (lw_privs_2)
def lw_tbl : List Cond := k2_sels lw_privs ++ tables_1
theorem lw_privs_ok : ∀ q ∈ lw_privs, lw_okq q := by
  show ∀ q ∈ lw_privs_1 ++ (lw_privs_2), lw_okq q
  exact List.forall_mem_append.mpr ⟨lw_r1, lw_r2⟩
/-- the streams that the claim lets the run draw from -/
abbrev lw_cs : List Choice := [Jvm.Choice.named "NaN.bits"]
theorem lw_bits : nanBits ∈ lw_cs := by first | decide | exact List.mem_cons_self | simp [lw_cs, nanBits]
-- ===== end of PART A; then your names; then what follows =====
/-! ===== BEGIN words of one list among another's, by their places ===== -/
theorem goodIn_r {big : List Cond} (ws : List Cond) (ps : List Nat) (hp : ws = ps.filterMap (fun i => big[i]?)) (h : ws.all goodWord = true) : GoodIn big ws := by
  intro w hw
  have h1 := List.all_eq_true.mp h w hw
  rw [hp] at hw
  obtain ⟨i, -, hi⟩ := List.mem_filterMap.mp hw
  have hm : w ∈ big := by first | exact List.mem_of_getElem? hi | exact List.getElem?_mem hi
  exact ⟨hm, good_of_word h1⟩
theorem goodIn_app {big a b : List Cond} (ha : GoodIn big a) (hb : GoodIn big b) : GoodIn big (a ++ b) := fun w h => (List.mem_append.mp h).elim (ha w) (hb w)
theorem goodIn_ca {big a b : List Cond} {c : Cond} (ha : GoodIn big (c :: a)) (hb : GoodIn big b) : GoodIn big (c :: (a ++ b)) := fun w h => (List.mem_cons.mp h).elim (fun e => ha w (List.mem_cons.mpr (Or.inl e))) (fun h => (List.mem_append.mp h).elim (fun h => ha w (List.mem_cons.mpr (Or.inr h))) (hb w))
theorem goodIn_sub {big ws : List Cond} (hm : ∀ w ∈ ws, w ∈ big) (h : ws.all goodWord = true) : GoodIn big ws := fun w hw => ⟨hm w hw, good_of_word (List.all_eq_true.mp h w hw)⟩
/-! ===== END ===== -/

/-! ===== BEGIN exceptions that leave a method, and their catching by the caller (launches without stack traces) ===== -/
section VXA
/-! The laws vx_back, vx_callV, vx_callS, vx_callSW, vx_throw0, vx_throwS follow proofs of the library, with one case more: JvmDerived/Free/Laws.lean (Back.of_free), Shelf42/LK1.lean (callV, callS), Shelf/KitTraced.lean (throwNew0V, throwNewS). -/
/-- where a method has thrown q: the class by its name, the cell, what was written, the world -/
def vx_T (XC : String → State → State → Prop) (st : State) (q : Addr) (t : State) (mc ms : Nat) (free : Addr → Prop) : Prop :=
  ∃ (E : String) (ce : Cell) (L : List Loc), XC E st t ∧ t.heap[q]? = some ce ∧ ce.vm = .none ∧ st.vm.findClass E = some ce.cls ∧ st.WarmedH t.vm ∧ st.sameButNew ({ t with vm := st.vm } : State) L mc ms ∧ ∀ z ∈ L, free z.base
def vx_Q (Qc : Array Value → State → Outcome → State → Prop) (XC : String → State → State → Prop) (mc ms : Nat) (free : Addr → Prop) : Array Value → State → Outcome → State → Prop := fun a st o t =>
  (Qc a st o t ∧ ∃ L, FrameEnd st o t L mc ms ∧ ∀ q ∈ L, free q.base) ∨ ∃ q, o = .threw q ∧ vx_T XC st q t mc ms free
/-- a callee that returns or throws -/
def vx_Met (l : Launch) (y : MethodName) (ws : List Cond) (rm : Room) (Pc : Array Value → State → Prop) (Qc : Array Value → State → Outcome → State → Prop) (XC : String → State → State → Prop) (mc ms : Nat) (free : Addr → Prop) : Prop :=
  MetFree l y (headSpec ws rm) Pc (fun _ _ _ _ _ => True) (vx_Q Qc XC mc ms free)
def vx_Post (XC : String → State → State → Prop) (mc ms : Nat) (free : Addr → Prop) : Pt → Array Value → Addr → Pt → Prop := fun A a q B =>
  ∃ (g : JFrame) (mk : MethodId) (t : State) (L : List Loc) (E : String) (ce : Cell), B.U.heap = t.heap ∧ B.U.vm = t.vm ∧ XC E (A.U.calling g mk a) t ∧ t.heap[q]? = some ce ∧ ce.vm = .none ∧ A.U.vm.findClass E = some ce.cls ∧ B.locs = A.locs ++ L ∧ (∀ z ∈ L, free z.base) ∧ B.cells = A.cells + mc ∧ B.slots = A.slots + ms
def vx_Back (l : Launch) (R : Room) (p : Program) (e : Env) (below : List Frame) (s : State) (sargs : Array Value) (y : MethodName) (len W9 : Nat)
    (Pre : Pt → Array Value → Prop) (Post : Pt → Array Value → Option Value → Pt → Prop) (PostX : Pt → Array Value → Addr → Pt → Prop) : Prop :=
  ∀ (m : MethodId) (meth : Method) (c : Code) (A : Pt) (g : JFrame) (ig : Instr) (mk : MethodId) (a : Array Value),
    Stand p l e R s m sargs below meth c A.U A.locs A.cells A.slots → g.method = m → g.locals.size = c.maxLocals → decode c.code g.pc = .ok (ig, len) →
    2 * g.monitorRoom + (g.stack.map fun v => v.category).sum ≤ W9 → A.U.methodNamed? y = some mk → Pre A a →
    (∃ (v : Option Value) (B : Pt), Stand p l e R s m sargs below meth c B.U B.locs B.cells B.slots ∧ Post A a v B ∧
      Steps p.tables e below (doInvoke e (A.U.setTop g) [] mk a).1 (B.U.setTop { g with pc := g.pc + len, stack := v.toList ++ g.stack })) ∨
    (∃ (q : Addr) (B : Pt), Stand p l e R s m sargs below meth c B.U B.locs B.cells B.slots ∧ PostX A a q B ∧
      Steps p.tables e below (doInvoke e (A.U.setTop g) [] mk a).1 ((B.U.setTop g).pushFrame (.throwing q)))
section Payer
variable {l : Launch} {R : Room} {p : Program} {e : Env} {below : List Frame} {s : State} {sargs : Array Value} {y : MethodName} {len W9 : Nat}
theorem vx_back {ws : List Cond} {rm : Room} {Pc : Array Value → State → Prop} {Qc : Array Value → State → Outcome → State → Prop} {XC : String → State → State → Prop} {mc ms : Nat} {free : Addr → Prop} {bytes : ByteArray} {maxL : Nat} {ret : Option FieldType}
    (hM : vx_Met l y ws rm Pc Qc XC mc ms free) (hblind : FrameBlind Pc) (hrc : rm.cells = mc) (hrs : rm.slots = ms)
    (hframes : rm.frames + 1 ≤ R.frames) (hlocals : W9 + (maxL + 11) + rm.locals ≤ R.locals)
    (hws : ∀ w ∈ ws, ∀ a' U, s.WarmedH U.vm → w.before a' U = true) (hcode : Cond.code y bytes maxL ret ∈ ws) (hinit : ∀ a' U, s.WarmedH U.vm → (Cond.initialized y.cls).before a' U = true) :
    vx_Back l R p e below s sargs y len W9 (PreOf R mc ms Pc) (PostOf Qc mc ms free) (vx_Post XC mc ms free) := by
  intro m meth c A g ig mk a X hg hsize hdg hW hn hp
  have h1 : (headSpec ws rm).pre.before a A.U = true := atoms_intro fun w hw => hws w hw _ _ X.warmed
  have h2 : (Cond.code y bytes maxL ret).before a A.U = true := hws _ hcode _ _ X.warmed
  have h3 : (Cond.initialized y.cls).before a A.U = true := hinit _ _ X.warmed
  have h4 : A.cells + (headSpec ws rm).room.cells ≤ R.cells := by rw [show (headSpec ws rm).room.cells = mc from hrc]; exact hp.1
  have h5 : A.slots + (headSpec ws rm).room.slots ≤ R.slots := by rw [show (headSpec ws rm).room.slots = ms from hrs]; exact hp.2.1
  have hPc : Pc a (A.U.calling g mk a) := hblind _ _ _ _ hp.2.2
  obtain ⟨U, Ls, c0, s0⟩ := A
  dsimp only [Pt.U, Pt.locs, Pt.cells, Pt.slots] at h1 h2 h3 h4 h5 X hn hPc ⊢
  obtain ⟨methY, cY, hmY, hcY, -, hlY, -, -, -, -⟩ := Cond.code_spec hn h2
  obtain ⟨kY, hkY, -⟩ := className_of_methodNamed hn
  have hinitY : kY.init = .initialized := Cond.initialized_spec (findClass_of_methodNamed hn) hkY h3
  have h : At U g.method c below := by rw [hg]; exact X.here
  have hlocals9 : W9 + (maxL + 11) + (headSpec ws rm).room.locals ≤ R.locals := hlocals
  have happ : (headSpec ws rm).appliesLoose y e.platform (U.calling g mk a) = true :=
    Spec.appliesLoose_calling (g := g) h hdg hn hkY hinitY
      (X.room_calling (g := g) (R' := (headSpec ws rm).room) hsize hmY hcY hframes (by rw [hlY]; omega) h4 h5) h1
  obtain ⟨mid, hmid⟩ := h.above
  have hfr : (U.setTop g).frames = (.java g :: mid) ++ below := by rw [State.frames_setTop' g h.top, hmid]; rfl
  obtain ⟨o, s₂, hsteps, -, hend, hq⟩ := Steps.callFree hM p X.admits X.cas X.clock (acts := []) hfr happ hPc trivial
  have hq' : vx_Q Qc XC mc ms free a (U.calling g mk a) o s₂ := hq
  rw [State.frames_setTop' g h.top] at hend
  obtain ⟨g₀, hg0⟩ := Option.isSome_iff_exists.mp h.top
  obtain ⟨r, hr⟩ := State.topJava?_eq_some.mp hg0
  have hr' : (({ U with heap := s₂.heap, slotsUsed := s₂.slotsUsed } : State).setVm s₂.vm).frames = .java g₀ :: r := hr
  rcases hq' with ⟨hqc, L, hfe, hL⟩ | ⟨q, rfl, E, ce, L, hx, hce, hcv, hcl, hW₂, hsm, hL⟩
  · obtain ⟨⟨v, rfl⟩, hW₂, e2, q2, q3, q4, q5, q6⟩ := id hfe
    have e3 : s₂ = ({ (U.calling g mk a).setFrames s₂.frames with heap := s₂.heap, slotsUsed := s₂.slotsUsed } : State).setVm s₂.vm := by
      have : s₂ = ({ s₂ with vm := (U.calling g mk a).vm } : State).setVm s₂.vm := rfl
      rw [e2] at this
      exact this
    obtain ⟨c₂, i₂, len₂, hc₂, hd₂, hf₂⟩ := hend
    have hW' : U.WarmedH s₂.vm := hW₂
    have hcc : c₂ = c := by
      have h1 : s₂.code? g.method = U.code? g.method := by
        rw [State.code?_eq, State.code?_eq, hW'.alike.method?]
      exact Option.some.inj (hc₂.symm.trans (h1.trans h.code))
    subst hcc
    have hlen : len₂ = len := by rw [hdg] at hd₂; cases hd₂; rfl
    subst hlen
    have hs₂ : s₂ = (({ U with heap := s₂.heap, slotsUsed := s₂.slotsUsed } : State).setVm s₂.vm).setTop { g with pc := g.pc + len₂, stack := v.toList ++ g.stack } := by
      refine e3.trans ?_
      rw [hf₂, State.calling_eq h.top, State.setFrames_setFrames, State.setTop_of_frames _ hr', hr]
      rfl
    have hsame : U.sameButNew ({ U with heap := s₂.heap, slotsUsed := s₂.slotsUsed } : State) L mc ms := by
      refine ⟨?_, q2, q3, q4, q5, q6⟩
      obtain ⟨t, ht, -⟩ := State.frames_cons hr
      show ({ U with heap := s₂.heap, slotsUsed := s₂.slotsUsed } : State) = { U.setFrames U.frames with heap := s₂.heap, slotsUsed := s₂.slotsUsed }
      rw [State.setFrames_self ht]
    subst hg
    refine Or.inl ⟨v, ⟨(({ U with heap := s₂.heap, slotsUsed := s₂.slotsUsed } : State).setVm s₂.vm), Ls ++ L, c0 + mc, s0 + ms⟩,
      ⟨X.admits, X.cas, X.clock, X.frames, X.room, X.hears, X.method, X.code, (X.here.setHeapUsed s₂.heap s₂.slotsUsed).setVm hW'.alike, X.tail, State.WarmedH.trans X.warmed hW', X.limits, X.bytes, X.same.trans (hsame.setVm s.vm)⟩,
      ⟨g, mk, s₂, L, rfl, rfl, hqc, rfl, hL, rfl, rfl⟩, ?_⟩
    show Steps p.tables e below _ ((({ U with heap := s₂.heap, slotsUsed := s₂.slotsUsed } : State).setVm s₂.vm).setTop { g with pc := g.pc + len₂, stack := v.toList ++ g.stack })
    rw [← hs₂]
    exact hsteps
  · obtain ⟨e2, q2, q3, q4, q5, q6⟩ := id hsm
    have e3 : s₂ = ({ (U.calling g mk a).setFrames s₂.frames with heap := s₂.heap, slotsUsed := s₂.slotsUsed } : State).setVm s₂.vm := by
      have : s₂ = ({ s₂ with vm := (U.calling g mk a).vm } : State).setVm s₂.vm := rfl
      rw [e2] at this
      exact this
    have hf₂ : s₂.frames = .throwing q :: .java g :: U.frames.tail := hend
    have hW' : U.WarmedH s₂.vm := hW₂
    have hs₂ : s₂ = ((({ U with heap := s₂.heap, slotsUsed := s₂.slotsUsed } : State).setVm s₂.vm).setTop g).pushFrame (.throwing q) := by
      refine e3.trans ?_
      rw [hf₂, State.calling_eq h.top, State.setFrames_setFrames, State.pushFrame, State.frames_setTop _ hr', State.setTop_of_frames _ hr', State.setFrames_setFrames, hr]
      rfl
    have hsame : U.sameButNew ({ U with heap := s₂.heap, slotsUsed := s₂.slotsUsed } : State) L mc ms := by
      refine ⟨?_, q2, q3, q4, q5, q6⟩
      obtain ⟨t, ht, -⟩ := State.frames_cons hr
      show ({ U with heap := s₂.heap, slotsUsed := s₂.slotsUsed } : State) = { U.setFrames U.frames with heap := s₂.heap, slotsUsed := s₂.slotsUsed }
      rw [State.setFrames_self ht]
    subst hg
    refine Or.inr ⟨q, ⟨(({ U with heap := s₂.heap, slotsUsed := s₂.slotsUsed } : State).setVm s₂.vm), Ls ++ L, c0 + mc, s0 + ms⟩,
      ⟨X.admits, X.cas, X.clock, X.frames, X.room, X.hears, X.method, X.code, (X.here.setHeapUsed s₂.heap s₂.slotsUsed).setVm hW'.alike, X.tail, State.WarmedH.trans X.warmed hW', X.limits, X.bytes, X.same.trans (hsame.setVm s.vm)⟩,
      ⟨g, mk, s₂, L, E, ce, rfl, rfl, hx, hce, hcv, hcl, rfl, hL, rfl, rfl⟩, ?_⟩
    show Steps p.tables e below _ (((({ U with heap := s₂.heap, slotsUsed := s₂.slotsUsed } : State).setVm s₂.vm).setTop g).pushFrame (.throwing q))
    rw [← hs₂]
    exact hsteps
end Payer
section Calls
variable {p : Program} {l : Launch} {e : Env} {R : Room} {s : State} {m : MethodId} {args : Array Value} {below : List Frame} {meth : Method} {c : Code} {T : State} {locs : List Loc} {cells slots : Nat}
theorem vx_callV (X : Stand p l e R s m args below meth c T locs cells slots) (hexec : p.tables.exec = Jvm.exec) {own C : String} {index : Nat} {y : MethodName} {bytes : ByteArray} {maxL : Nat} {ret : Option FieldType}
    (hown : s.vm.findClass own = some m.cls) (hlink : (Cond.methodLink own index y).before args s = true) (hinst : (Cond.instanceMethod y).before args s = true) (hsel : (Cond.selects C y y).before args s = true)
    (hcode : (Cond.code y bytes maxL ret).before args s = true) (hy : y.cls ≠ "java/lang/invoke/MethodHandle" ∧ y.cls ≠ "java/lang/invoke/VarHandle")
    {W9 : Nat} {Pre : Pt → Array Value → Prop} {Post : Pt → Array Value → Option Value → Pt → Prop} {PostX : Pt → Array Value → Addr → Pt → Prop} (hK : vx_Back l R p e below s args y 3 W9 Pre Post PostX)
    {b : Addr} {cellB : Cell} (hcell : T.heap[b]? = some cellB) (hobj : cellB.vm.isStatics = false) (hcls : s.vm.findClass C = some cellB.cls)
    {g : JFrame} (hg : g.method = m) (hsize : g.locals.size = c.maxLocals) {argsL rest : List Value} (hlen : ∀ sig, parseMethodDescriptor y.desc = some sig → argsL.length = sig.parameters.length)
    (hstack : g.stack = argsL.reverse ++ .ref b :: rest) (hW : 2 * g.monitorRoom + (rest.map fun v => v.category).sum ≤ W9) (hdg : decode c.code g.pc = .ok (.invokevirtual index, 3))
    (hpre : ∀ vm₁, s.WarmedH vm₁ → Pre ⟨T.setVm vm₁, locs, cells, slots⟩ (Value.ref b :: argsL).toArray) :
    (∃ (v : Option Value) (vm₁ : Vm) (B : Pt), s.WarmedH vm₁ ∧ Stand p l e R s m args below meth c B.U B.locs B.cells B.slots ∧ Post ⟨T.setVm vm₁, locs, cells, slots⟩ (Value.ref b :: argsL).toArray v B ∧
      ∀ target, Steps p.tables e below (B.U.setTop { g with pc := g.pc + 3, stack := v.toList ++ rest }) target → Steps p.tables e below (T.setTop g) target) ∨
    (∃ (q : Addr) (vm₁ : Vm) (B : Pt), s.WarmedH vm₁ ∧ Stand p l e R s m args below meth c B.U B.locs B.cells B.slots ∧ PostX ⟨T.setVm vm₁, locs, cells, slots⟩ (Value.ref b :: argsL).toArray q B ∧
      Steps p.tables e below (T.setTop g) ((B.U.setTop { g with stack := rest }).pushFrame (.throwing q))) := by
  obtain ⟨mk, methM, hnamed, hmethM, hstM, habM⟩ := Cond.instanceMethod_spec hinst
  obtain ⟨methM', cM, hmethM', -, -, -, -, -, -, hsigM⟩ := Cond.code_spec hnamed hcode
  cases hmethM.symm.trans hmethM'
  obtain ⟨c2, r2, m2, q1, q2, q3, q4, kP, hkP, hkPi⟩ := Cond.selects_spec hsel
  cases hcls.symm.trans q1
  cases (State.methodFound?_of_named hnamed hy).symm.trans q2
  cases hnamed.symm.trans q3
  have hselP : selectMethod e.platform s.vm cellB.cls mk = .method mk := by rw [Launch.admits_selectMethod X.admits]; exact q4
  obtain ⟨vm₁, X₁, hstep₁⟩ := X.invokevirtual hexec hown hlink hnamed hmethM hstM hkP hkPi hy (a := b) (cell := cellB) hcell
    (fun z h => by rw [h] at hobj; cases hobj) hselP hmethM habM hkP hkPi (g := g) hg (argsL := argsL) (rest := rest) (hlen _ hsigM) hstack hdg
  rcases hK m meth c ⟨T.setVm vm₁, locs, cells, slots⟩ { g with stack := rest } (.invokevirtual index) mk (Value.ref b :: argsL).toArray X₁ hg hsize hdg hW (X₁.named hnamed) (hpre vm₁ X₁.warmed) with ⟨v, B, X', hpost, hsteps⟩ | ⟨q, B, X', hpost, hsteps⟩
  · exact Or.inl ⟨v, vm₁, B, X₁.warmed, X', hpost, fun target h => hstep₁ _ fun acts => by rw [doInvoke_state]; exact hsteps.trans h⟩
  · exact Or.inr ⟨q, vm₁, B, X₁.warmed, X', hpost, hstep₁ _ fun acts => by rw [doInvoke_state]; exact hsteps⟩
theorem vx_callS (X : Stand p l e R s m args below meth c T locs cells slots) (hexec : p.tables.exec = Jvm.exec) {own : String} {index : Nat} {y : MethodName} {bytes : ByteArray} {maxL : Nat} {ret : Option FieldType}
    (hown : s.vm.findClass own = some m.cls) (hlink : (Cond.methodLink own index y).before args s = true) (hstat : (Cond.static y).before args s = true) (hinit : (Cond.initialized y.cls).before args s = true)
    (hcode : (Cond.code y bytes maxL ret).before args s = true) (hy : y.cls ≠ "java/lang/invoke/MethodHandle" ∧ y.cls ≠ "java/lang/invoke/VarHandle")
    {W9 : Nat} {Pre : Pt → Array Value → Prop} {Post : Pt → Array Value → Option Value → Pt → Prop} {PostX : Pt → Array Value → Addr → Pt → Prop} (hK : vx_Back l R p e below s args y 3 W9 Pre Post PostX)
    {g : JFrame} (hg : g.method = m) (hsize : g.locals.size = c.maxLocals) {argsL rest : List Value} (hlen : ∀ sig, parseMethodDescriptor y.desc = some sig → argsL.length = sig.parameters.length)
    (hstack : g.stack = argsL.reverse ++ rest) (hW : 2 * g.monitorRoom + (rest.map fun v => v.category).sum ≤ W9) (hdg : decode c.code g.pc = .ok (.invokestatic index, 3))
    (hpre : ∀ vm₁, s.WarmedH vm₁ → Pre ⟨T.setVm vm₁, locs, cells, slots⟩ argsL.toArray) :
    (∃ (v : Option Value) (vm₁ : Vm) (B : Pt), s.WarmedH vm₁ ∧ Stand p l e R s m args below meth c B.U B.locs B.cells B.slots ∧ Post ⟨T.setVm vm₁, locs, cells, slots⟩ argsL.toArray v B ∧
      ∀ target, Steps p.tables e below (B.U.setTop { g with pc := g.pc + 3, stack := v.toList ++ rest }) target → Steps p.tables e below (T.setTop g) target) ∨
    (∃ (q : Addr) (vm₁ : Vm) (B : Pt), s.WarmedH vm₁ ∧ Stand p l e R s m args below meth c B.U B.locs B.cells B.slots ∧ PostX ⟨T.setVm vm₁, locs, cells, slots⟩ argsL.toArray q B ∧
      Steps p.tables e below (T.setTop g) ((B.U.setTop { g with stack := rest }).pushFrame (.throwing q))) := by
  obtain ⟨mk, hnamed⟩ := Cond.code_named hcode
  obtain ⟨methM, cM, hmethM, -, -, -, -, -, -, hsigM⟩ := Cond.code_spec hnamed hcode
  have hstatic : methM.isStatic = true := Cond.static_spec hnamed hmethM hstat
  obtain ⟨kP, hkP, -⟩ := className_of_methodNamed hnamed
  have hinitP : kP.init = .initialized := Cond.initialized_spec (findClass_of_methodNamed hnamed) hkP hinit
  obtain ⟨vm₁, X₁, hstep₁⟩ := X.invokestatic hexec hown hlink hnamed hmethM hstatic hkP hinitP hy (g := g) hg (argsL := argsL) (rest := rest) (hlen _ hsigM) hstack hdg
  rcases hK m meth c ⟨T.setVm vm₁, locs, cells, slots⟩ { g with stack := rest } (.invokestatic index) mk argsL.toArray X₁ hg hsize hdg hW (X₁.named hnamed) (hpre vm₁ X₁.warmed) with ⟨v, B, X', hpost, hsteps⟩ | ⟨q, B, X', hpost, hsteps⟩
  · exact Or.inl ⟨v, vm₁, B, X₁.warmed, X', hpost, fun target h => hstep₁ _ fun acts => by rw [doInvoke_state]; exact hsteps.trans h⟩
  · exact Or.inr ⟨q, vm₁, B, X₁.warmed, X', hpost, hstep₁ _ fun acts => by rw [doInvoke_state]; exact hsteps⟩
end Calls
theorem vx_cls {s : State} {T : State} {vm₁ : Vm} {E : String} {k : ClassId} (hW : s.WarmedH vm₁) (h : (T.setVm vm₁).vm.findClass E = some k) : s.vm.findClass E = some k := by
  have h1 : vm₁.findClass E = some k := h
  rw [hW.alike.findClass] at h1
  exact h1
/-- the method's frame g, with q thrown over it -/
def vx_W (p : Program) (l : Launch) (e : Env) (R : Room) (s : State) (m : MethodId) (args : Array Value) (below : List Frame) (meth : Method) (c : Code) (H : Heap) (locs : List Loc) (cells slots : Nat) (Q : State → Prop) (g : JFrame) (q : Addr) : Prop :=
  ∀ T : State, T.heap = H → Stand p l e R s m args below meth c T locs cells slots → ∃ t, Steps p.tables e below ((T.setTop g).pushFrame (.throwing q)) t ∧ Q t
def vx_Run (p : Program) (l : Launch) (e : Env) (R : Room) (s : State) (m : MethodId) (args : Array Value) (below : List Frame) (meth : Method) (c : Code) (H : Heap) (locs : List Loc) (cells slots mc ms : Nat) (g : JFrame) (rest : List Value) (Qa : State → Outcome → State → Prop) (XC : String → State → State → Prop) (free : Addr → Prop) : Prop :=
  ∀ T : State, T.heap = H → Stand p l e R s m args below meth c T locs cells slots →
    (∃ (v : Option Value) (st₀ t T' : State) (L : List Loc), st₀.heap = H ∧ Stand p l e R s m args below meth c T' (locs ++ L) (cells + mc) (slots + ms) ∧ (∀ q ∈ L, free q.base) ∧ T'.heap = t.heap ∧ T'.vm = t.vm ∧ Qa st₀ (.returned v) t ∧
      Goes p e below T g T' { g with pc := g.pc + 3, stack := v.toList ++ rest }) ∨
    (∃ (q : Addr) (st₀ t T' : State) (L : List Loc) (E : String) (ce : Cell), st₀.heap = H ∧ Stand p l e R s m args below meth c T' (locs ++ L) (cells + mc) (slots + ms) ∧ (∀ z ∈ L, free z.base) ∧ T'.heap = t.heap ∧ T'.vm = t.vm ∧ XC E st₀ t ∧ t.heap[q]? = some ce ∧ ce.vm = .none ∧ s.vm.findClass E = some ce.cls ∧
      Steps p.tables e below (T.setTop g) ((T'.setTop { g with stack := rest }).pushFrame (.throwing q)))
def vx_X {S : Type} (px : S → Prop) (B : String → S → State → Prop) (A : Nat → Prop) : String → State → State → Prop := fun E st t => ∃ u : S, px u ∧ B E u t ∧ va_F A st t
section Runs
variable {p : Program} {l : Launch} {e : Env} {R : Room} {s : State} {m : MethodId} {args : Array Value} {below : List Frame} {meth : Method} {c : Code} {H : Heap} {locs : List Loc} {cells slots : Nat}
variable {y : MethodName} {bytes cc : ByteArray} {maxL nL mc ms n index : Nat} {ret : Option FieldType} {ws : List Cond} {rm : Room} {Pc : Array Value → State → Prop} {Qc : Array Value → State → Outcome → State → Prop} {XC : String → State → State → Prop} {free : Addr → Prop} {Ts : List Cond} {own C : String} {b : Addr} {As rest : List Value} {g : JFrame}
theorem vx_callBack (cb : CallB R s args own index y bytes maxL ret ws rm mc ms n) (hM : vx_Met l y ws rm Pc Qc XC mc ms free) (hbl : FrameBlind Pc) : vx_Back l R p e below s args y 3 8 (PreOf R mc ms Pc) (PostOf Qc mc ms free) (vx_Post XC mc ms free) := by
  obtain ⟨hrc, hrs, hfr, hlo, hws, hcw, -, hini, -⟩ := cb
  exact vx_back (bytes := bytes) (maxL := maxL) (ret := ret) hM hbl hrc hrs hfr hlo hws hcw (fun a' U hW => word_at hW (Or.inl (by first | rfl | simp [Cond.onTables, Cond.keeps, Cond.steady])) hini)
theorem vx_runV (S : CallFix p m c cc nL s args Ts own) (hM : vx_Met l y ws rm Pc Qc XC mc ms free) (cw : CallW R s args own C index y bytes maxL ret ws rm mc ms n) (hp : PreV s H C b Pc As)
    (hg : g.method = m) (hn : As.length = n) (hsize : g.locals.size = nL) (hstack : g.stack = As.reverse ++ .ref b :: rest) (hW : 2 * g.monitorRoom + (rest.map fun v => v.category).sum ≤ 8) (hdg : decode cc g.pc = .ok (.invokevirtual index, 3)) (hf : cells + mc ≤ R.cells ∧ slots + ms ≤ R.slots) :
    vx_Run p l e R s m args below meth c H locs cells slots mc ms g rest (Qc (Value.ref b :: As).toArray) XC free := by
  have hK : vx_Back l R p e below s args y 3 8 (PreOf R mc ms Pc) (PostOf Qc mc ms free) (vx_Post XC mc ms free) := vx_callBack cw.1 hM hp.1
  obtain ⟨⟨-, -, -, -, -, -, hcode, -, hy, hlen, hl⟩, hin, hse⟩ := cw
  obtain ⟨hx, hb, hml, ho, -⟩ := S
  obtain ⟨-, ⟨cellB, hcB, hoB, hclB⟩, hPc⟩ := hp
  intro T hT X
  rcases vx_callV X hx (C := C) (bytes := bytes) (maxL := maxL) (ret := ret) ho hl hin hse hcode hy hK (by rw [hT]; exact hcB) hoB hclB hg (hsize.trans hml.symm) (argsL := As) (rest := rest) (fun sig h => hn.trans (hlen sig h)) hstack hW (by rw [hb]; exact hdg)
    (fun vm₁ hW₁ => ⟨hf.1, hf.2, hPc (T.setVm vm₁) hT hW₁⟩) with ⟨v, vm₁, ⟨U', l2, c2, s2⟩, hW₁, X', ⟨g', mk, t, L, e1, e2, hq, h1, hL, h2, h3⟩, st⟩ | ⟨q, vm₁, ⟨U', l2, c2, s2⟩, hW₁, X', ⟨g', mk, t, L, E, ce, e1, e2, hq, hce, hcv, hcl, h1, hL, h2, h3⟩, st⟩
  · dsimp only [Pt.U, Pt.locs, Pt.cells, Pt.slots] at X' e1 e2 h1 h2 h3 st
    subst h1; subst h2; subst h3
    exact Or.inl ⟨v, (T.setVm vm₁).calling g' mk (Value.ref b :: As).toArray, t, U', L, hT, X', hL, e1, e2, hq, st⟩
  · dsimp only [Pt.U, Pt.locs, Pt.cells, Pt.slots] at X' e1 e2 h1 h2 h3 st hcl
    subst h1; subst h2; subst h3
    exact Or.inr ⟨q, (T.setVm vm₁).calling g' mk (Value.ref b :: As).toArray, t, U', L, E, ce, hT, X', hL, e1, e2, hq, hce, hcv, vx_cls hW₁ hcl, st⟩
theorem vx_runS (S : CallFix p m c cc nL s args Ts own) (hM : vx_Met l y ws rm Pc Qc XC mc ms free) (cw : CallB R s args own index y bytes maxL ret ws rm mc ms n ∧ (Cond.static y).before args s = true) (hp : PreS s H Pc As)
    (hg : g.method = m) (hn : As.length = n) (hsize : g.locals.size = nL) (hstack : g.stack = As.reverse ++ rest) (hW : 2 * g.monitorRoom + (rest.map fun v => v.category).sum ≤ 8) (hdg : decode cc g.pc = .ok (.invokestatic index, 3)) (hf : cells + mc ≤ R.cells ∧ slots + ms ≤ R.slots) :
    vx_Run p l e R s m args below meth c H locs cells slots mc ms g rest (Qc As.toArray) XC free := by
  have hK : vx_Back l R p e below s args y 3 8 (PreOf R mc ms Pc) (PostOf Qc mc ms free) (vx_Post XC mc ms free) := vx_callBack cw.1 hM hp.1
  obtain ⟨⟨-, -, -, -, -, -, hcode, hini, hy, hlen, hl⟩, hstt⟩ := cw
  obtain ⟨hx, hb, hml, ho, -⟩ := S
  intro T hT X
  rcases vx_callS X hx (bytes := bytes) (maxL := maxL) (ret := ret) ho hl hstt hini hcode hy hK hg (hsize.trans hml.symm) (argsL := As) (rest := rest) (fun sig h => hn.trans (hlen sig h)) hstack hW (by rw [hb]; exact hdg)
    (fun vm₁ hW₁ => ⟨hf.1, hf.2, hp.2 (T.setVm vm₁) hT hW₁⟩) with ⟨v, vm₁, ⟨U', l2, c2, s2⟩, hW₁, X', ⟨g', mk, t, L, e1, e2, hq, h1, hL, h2, h3⟩, st⟩ | ⟨q, vm₁, ⟨U', l2, c2, s2⟩, hW₁, X', ⟨g', mk, t, L, E, ce, e1, e2, hq, hce, hcv, hcl, h1, hL, h2, h3⟩, st⟩
  · dsimp only [Pt.U, Pt.locs, Pt.cells, Pt.slots] at X' e1 e2 h1 h2 h3 st
    subst h1; subst h2; subst h3
    exact Or.inl ⟨v, (T.setVm vm₁).calling g' mk As.toArray, t, U', L, hT, X', hL, e1, e2, hq, st⟩
  · dsimp only [Pt.U, Pt.locs, Pt.cells, Pt.slots] at X' e1 e2 h1 h2 h3 st hcl
    subst h1; subst h2; subst h3
    exact Or.inr ⟨q, (T.setVm vm₁).calling g' mk As.toArray, t, U', L, E, ce, hT, X', hL, e1, e2, hq, hce, hcv, vx_cls hW₁ hcl, st⟩
end Runs
section Rows
variable {p : Program} {l : Launch} {e : Env} {R : Room} {s : State} {m : MethodId} {args : Array Value} {below : List Frame} {meth : Method} {c : Code} {H : Heap} {locs : List Loc} {cells slots : Nat} {Q : State → Prop}
variable {mc ms : Nat} {free : Addr → Prop} {A0 A1 : Nat → Prop} {H0 : Heap} {a : Array Value} {pc : Nat} {ls : Array Slot} {st0 rest : List Value}
theorem vx_keep {st₀ t T' : State} {L : List Loc} (h0 : st₀.heap = H) (e1 : T'.heap = t.heap) (hS : va_S A0 H0 H locs) (hA : ∀ q, q < H.size → A1 q → A0 q) (hf : ∀ q, free q → A0 q) (hL : ∀ q ∈ L, free q.base) (hF : va_F A1 st₀ t) :
    H.size ≤ T'.heap.size ∧ (∀ q : Nat, q < H.size → ¬ A1 q → T'.heap[q]? = H[q]?) ∧ va_S A0 H0 T'.heap (locs ++ L) := by
  obtain ⟨hz, hk⟩ := hF
  rw [h0] at hz hk
  exact ⟨by rw [e1]; exact hz, fun q h1 h2 => by rw [e1]; exact hk q h1 h2,
    ⟨Nat.le_trans hS.1 (by rw [e1]; exact hz), fun q h1 h2 => by rw [e1, hk q (Nat.lt_of_lt_of_le h1 hS.1) (fun z => h2 (hA q (Nat.lt_of_lt_of_le h1 hS.1) z))]; exact hS.2.1 q h1 h2, fun q hq => by
      rcases List.mem_append.mp hq with h | h
      · exact hS.2.2 q h
      · exact hf _ (hL q h)⟩⟩
theorem vx_calli {S SX : Type} {post : Int32 → S → Prop} {px : SX → Prop} {B : S → State → Prop} {BX : String → SX → State → Prop} {AX : Nat → Prop} (hr : vx_Run p l e R s m args below meth c H locs cells slots mc ms (F0 m pc ls st0) rest (va_Qi post B A1 a) (vx_X px BX AX) free) (hS : va_S A0 H0 H locs) (hA : ∀ q, q < H.size → A1 q → A0 q) (hf : ∀ q, free q → A0 q) (hAX : ∀ q, q < H.size → AX q → A0 q)
    (kx : ∀ (E : String) (ce : Cell) (q9 : Addr) (u : SX) (t : State) (H1 : Heap) (locs1 : List Loc), t.heap = H1 → s.vm.Alike t.vm → px u → BX E u t → H.size ≤ H1.size → (∀ q : Nat, q < H.size → ¬ AX q → H1[q]? = H[q]?) → va_S A0 H0 H1 locs1 → H1[q9]? = some ce → ce.vm = .none → s.vm.findClass E = some ce.cls → vx_W p l e R s m args below meth c H1 locs1 (cells + mc) (slots + ms) Q (F0 m pc ls rest) q9)
    (kk : ∀ (r : Int32) (u : S) (t : State) (H1 : Heap) (locs1 : List Loc), t.heap = H1 → s.vm.Alike t.vm → post r u → B u t → H.size ≤ H1.size → (∀ q : Nat, q < H.size → ¬ A1 q → H1[q]? = H[q]?) → va_S A0 H0 H1 locs1 → W p l e R s m args below meth c H1 locs1 (cells + mc) (slots + ms) Q (F0 m (pc + 3) ls (.int r :: rest))) : W p l e R s m args below meth c H locs cells slots Q (F0 m pc ls st0) := by
  intro T hT X
  rcases hr T hT X with ⟨v, st₀, t, T', L, h0, X', hL, e1, e2, ⟨⟨r, u, hv, hp, hb⟩, hF⟩, st⟩ | ⟨q, st₀, t, T', L, E, ce, h0, X', hL, e1, e2, ⟨u, hp, hb, hF⟩, hce, hcv, hcl, st⟩
  · cases hv
    obtain ⟨k1, k2, k3⟩ := vx_keep h0 e1 hS hA hf hL hF
    obtain ⟨t2, a1, b1⟩ := kk r u t T'.heap (locs ++ L) e1.symm (by rw [← e2]; exact X'.warmed.alike) hp hb k1 k2 k3 T' rfl X'
    exact ⟨t2, st t2 a1, b1⟩
  · obtain ⟨k1, k2, k3⟩ := vx_keep h0 e1 hS hAX hf hL hF
    obtain ⟨t2, a1, b1⟩ := kx E ce q u t T'.heap (locs ++ L) e1.symm (by rw [← e2]; exact X'.warmed.alike) hp hb k1 k2 k3 (by rw [e1]; exact hce) hcv hcl T' rfl X'
    exact ⟨t2, st.trans a1, b1⟩
theorem vx_calll {S SX : Type} {post : Int64 → S → Prop} {px : SX → Prop} {B : S → State → Prop} {BX : String → SX → State → Prop} {AX : Nat → Prop} (hr : vx_Run p l e R s m args below meth c H locs cells slots mc ms (F0 m pc ls st0) rest (va_Ql post B A1 a) (vx_X px BX AX) free) (hS : va_S A0 H0 H locs) (hA : ∀ q, q < H.size → A1 q → A0 q) (hf : ∀ q, free q → A0 q) (hAX : ∀ q, q < H.size → AX q → A0 q)
    (kx : ∀ (E : String) (ce : Cell) (q9 : Addr) (u : SX) (t : State) (H1 : Heap) (locs1 : List Loc), t.heap = H1 → s.vm.Alike t.vm → px u → BX E u t → H.size ≤ H1.size → (∀ q : Nat, q < H.size → ¬ AX q → H1[q]? = H[q]?) → va_S A0 H0 H1 locs1 → H1[q9]? = some ce → ce.vm = .none → s.vm.findClass E = some ce.cls → vx_W p l e R s m args below meth c H1 locs1 (cells + mc) (slots + ms) Q (F0 m pc ls rest) q9)
    (kk : ∀ (r : Int64) (u : S) (t : State) (H1 : Heap) (locs1 : List Loc), t.heap = H1 → s.vm.Alike t.vm → post r u → B u t → H.size ≤ H1.size → (∀ q : Nat, q < H.size → ¬ A1 q → H1[q]? = H[q]?) → va_S A0 H0 H1 locs1 → W p l e R s m args below meth c H1 locs1 (cells + mc) (slots + ms) Q (F0 m (pc + 3) ls (.long r :: rest))) : W p l e R s m args below meth c H locs cells slots Q (F0 m pc ls st0) := by
  intro T hT X
  rcases hr T hT X with ⟨v, st₀, t, T', L, h0, X', hL, e1, e2, ⟨⟨r, u, hv, hp, hb⟩, hF⟩, st⟩ | ⟨q, st₀, t, T', L, E, ce, h0, X', hL, e1, e2, ⟨u, hp, hb, hF⟩, hce, hcv, hcl, st⟩
  · cases hv
    obtain ⟨k1, k2, k3⟩ := vx_keep h0 e1 hS hA hf hL hF
    obtain ⟨t2, a1, b1⟩ := kk r u t T'.heap (locs ++ L) e1.symm (by rw [← e2]; exact X'.warmed.alike) hp hb k1 k2 k3 T' rfl X'
    exact ⟨t2, st t2 a1, b1⟩
  · obtain ⟨k1, k2, k3⟩ := vx_keep h0 e1 hS hAX hf hL hF
    obtain ⟨t2, a1, b1⟩ := kx E ce q u t T'.heap (locs ++ L) e1.symm (by rw [← e2]; exact X'.warmed.alike) hp hb k1 k2 k3 (by rw [e1]; exact hce) hcv hcl T' rfl X'
    exact ⟨t2, st.trans a1, b1⟩
theorem vx_callf {S SX : Type} {post : UInt32 → S → Prop} {px : SX → Prop} {B : S → State → Prop} {BX : String → SX → State → Prop} {AX : Nat → Prop} (hr : vx_Run p l e R s m args below meth c H locs cells slots mc ms (F0 m pc ls st0) rest (va_Qf post B A1 a) (vx_X px BX AX) free) (hS : va_S A0 H0 H locs) (hA : ∀ q, q < H.size → A1 q → A0 q) (hf : ∀ q, free q → A0 q) (hAX : ∀ q, q < H.size → AX q → A0 q)
    (kx : ∀ (E : String) (ce : Cell) (q9 : Addr) (u : SX) (t : State) (H1 : Heap) (locs1 : List Loc), t.heap = H1 → s.vm.Alike t.vm → px u → BX E u t → H.size ≤ H1.size → (∀ q : Nat, q < H.size → ¬ AX q → H1[q]? = H[q]?) → va_S A0 H0 H1 locs1 → H1[q9]? = some ce → ce.vm = .none → s.vm.findClass E = some ce.cls → vx_W p l e R s m args below meth c H1 locs1 (cells + mc) (slots + ms) Q (F0 m pc ls rest) q9)
    (kk : ∀ (r : UInt32) (u : S) (t : State) (H1 : Heap) (locs1 : List Loc), t.heap = H1 → s.vm.Alike t.vm → post r u → B u t → H.size ≤ H1.size → (∀ q : Nat, q < H.size → ¬ A1 q → H1[q]? = H[q]?) → va_S A0 H0 H1 locs1 → W p l e R s m args below meth c H1 locs1 (cells + mc) (slots + ms) Q (F0 m (pc + 3) ls (.float r :: rest))) : W p l e R s m args below meth c H locs cells slots Q (F0 m pc ls st0) := by
  intro T hT X
  rcases hr T hT X with ⟨v, st₀, t, T', L, h0, X', hL, e1, e2, ⟨⟨r, u, hv, hp, hb⟩, hF⟩, st⟩ | ⟨q, st₀, t, T', L, E, ce, h0, X', hL, e1, e2, ⟨u, hp, hb, hF⟩, hce, hcv, hcl, st⟩
  · cases hv
    obtain ⟨k1, k2, k3⟩ := vx_keep h0 e1 hS hA hf hL hF
    obtain ⟨t2, a1, b1⟩ := kk r u t T'.heap (locs ++ L) e1.symm (by rw [← e2]; exact X'.warmed.alike) hp hb k1 k2 k3 T' rfl X'
    exact ⟨t2, st t2 a1, b1⟩
  · obtain ⟨k1, k2, k3⟩ := vx_keep h0 e1 hS hAX hf hL hF
    obtain ⟨t2, a1, b1⟩ := kx E ce q u t T'.heap (locs ++ L) e1.symm (by rw [← e2]; exact X'.warmed.alike) hp hb k1 k2 k3 (by rw [e1]; exact hce) hcv hcl T' rfl X'
    exact ⟨t2, st.trans a1, b1⟩
theorem vx_calld {S SX : Type} {post : UInt64 → S → Prop} {px : SX → Prop} {B : S → State → Prop} {BX : String → SX → State → Prop} {AX : Nat → Prop} (hr : vx_Run p l e R s m args below meth c H locs cells slots mc ms (F0 m pc ls st0) rest (va_Qd post B A1 a) (vx_X px BX AX) free) (hS : va_S A0 H0 H locs) (hA : ∀ q, q < H.size → A1 q → A0 q) (hf : ∀ q, free q → A0 q) (hAX : ∀ q, q < H.size → AX q → A0 q)
    (kx : ∀ (E : String) (ce : Cell) (q9 : Addr) (u : SX) (t : State) (H1 : Heap) (locs1 : List Loc), t.heap = H1 → s.vm.Alike t.vm → px u → BX E u t → H.size ≤ H1.size → (∀ q : Nat, q < H.size → ¬ AX q → H1[q]? = H[q]?) → va_S A0 H0 H1 locs1 → H1[q9]? = some ce → ce.vm = .none → s.vm.findClass E = some ce.cls → vx_W p l e R s m args below meth c H1 locs1 (cells + mc) (slots + ms) Q (F0 m pc ls rest) q9)
    (kk : ∀ (r : UInt64) (u : S) (t : State) (H1 : Heap) (locs1 : List Loc), t.heap = H1 → s.vm.Alike t.vm → post r u → B u t → H.size ≤ H1.size → (∀ q : Nat, q < H.size → ¬ A1 q → H1[q]? = H[q]?) → va_S A0 H0 H1 locs1 → W p l e R s m args below meth c H1 locs1 (cells + mc) (slots + ms) Q (F0 m (pc + 3) ls (.double r :: rest))) : W p l e R s m args below meth c H locs cells slots Q (F0 m pc ls st0) := by
  intro T hT X
  rcases hr T hT X with ⟨v, st₀, t, T', L, h0, X', hL, e1, e2, ⟨⟨r, u, hv, hp, hb⟩, hF⟩, st⟩ | ⟨q, st₀, t, T', L, E, ce, h0, X', hL, e1, e2, ⟨u, hp, hb, hF⟩, hce, hcv, hcl, st⟩
  · cases hv
    obtain ⟨k1, k2, k3⟩ := vx_keep h0 e1 hS hA hf hL hF
    obtain ⟨t2, a1, b1⟩ := kk r u t T'.heap (locs ++ L) e1.symm (by rw [← e2]; exact X'.warmed.alike) hp hb k1 k2 k3 T' rfl X'
    exact ⟨t2, st t2 a1, b1⟩
  · obtain ⟨k1, k2, k3⟩ := vx_keep h0 e1 hS hAX hf hL hF
    obtain ⟨t2, a1, b1⟩ := kx E ce q u t T'.heap (locs ++ L) e1.symm (by rw [← e2]; exact X'.warmed.alike) hp hb k1 k2 k3 (by rw [e1]; exact hce) hcv hcl T' rfl X'
    exact ⟨t2, st.trans a1, b1⟩
theorem vx_callv {S SX : Type} {post : S → Prop} {px : SX → Prop} {B : S → State → Prop} {BX : String → SX → State → Prop} {AX : Nat → Prop} (hr : vx_Run p l e R s m args below meth c H locs cells slots mc ms (F0 m pc ls st0) rest (va_Qv post B A1 a) (vx_X px BX AX) free) (hS : va_S A0 H0 H locs) (hA : ∀ q, q < H.size → A1 q → A0 q) (hf : ∀ q, free q → A0 q) (hAX : ∀ q, q < H.size → AX q → A0 q)
    (kx : ∀ (E : String) (ce : Cell) (q9 : Addr) (u : SX) (t : State) (H1 : Heap) (locs1 : List Loc), t.heap = H1 → s.vm.Alike t.vm → px u → BX E u t → H.size ≤ H1.size → (∀ q : Nat, q < H.size → ¬ AX q → H1[q]? = H[q]?) → va_S A0 H0 H1 locs1 → H1[q9]? = some ce → ce.vm = .none → s.vm.findClass E = some ce.cls → vx_W p l e R s m args below meth c H1 locs1 (cells + mc) (slots + ms) Q (F0 m pc ls rest) q9)
    (kk : ∀ (u : S) (t : State) (H1 : Heap) (locs1 : List Loc), t.heap = H1 → s.vm.Alike t.vm → post u → B u t → H.size ≤ H1.size → (∀ q : Nat, q < H.size → ¬ A1 q → H1[q]? = H[q]?) → va_S A0 H0 H1 locs1 → W p l e R s m args below meth c H1 locs1 (cells + mc) (slots + ms) Q (F0 m (pc + 3) ls (rest))) : W p l e R s m args below meth c H locs cells slots Q (F0 m pc ls st0) := by
  intro T hT X
  rcases hr T hT X with ⟨v, st₀, t, T', L, h0, X', hL, e1, e2, ⟨⟨u, hv, hp, hb⟩, hF⟩, st⟩ | ⟨q, st₀, t, T', L, E, ce, h0, X', hL, e1, e2, ⟨u, hp, hb, hF⟩, hce, hcv, hcl, st⟩
  · cases hv
    obtain ⟨k1, k2, k3⟩ := vx_keep h0 e1 hS hA hf hL hF
    obtain ⟨t2, a1, b1⟩ := kk u t T'.heap (locs ++ L) e1.symm (by rw [← e2]; exact X'.warmed.alike) hp hb k1 k2 k3 T' rfl X'
    exact ⟨t2, st t2 a1, b1⟩
  · obtain ⟨k1, k2, k3⟩ := vx_keep h0 e1 hS hAX hf hL hF
    obtain ⟨t2, a1, b1⟩ := kx E ce q u t T'.heap (locs ++ L) e1.symm (by rw [← e2]; exact X'.warmed.alike) hp hb k1 k2 k3 (by rw [e1]; exact hce) hcv hcl T' rfl X'
    exact ⟨t2, st.trans a1, b1⟩
/-- caught by the row x of this method's table; the rows ahead don't take it -/
theorem vx_catch {own name : String} {E : String} {ce : Cell} {q : Addr} (hown : s.vm.findClass own = some m.cls) (pre : List ExceptionTableEntry) (x : ExceptionTableEntry) (suf : List ExceptionTableEntry) (hsplit : c.exceptionTable.toList = pre ++ x :: suf)
    (hpass : ∀ z ∈ pre, covers z pc = false ∨ (z.catchType ≠ 0 ∧ ∃ nm : String, (Cond.classLink own z.catchType nm).before args s = true ∧ va_Nc E nm s)) (hx : covers x pc = true) (h0 : x.catchType ≠ 0)
    (hlink : (Cond.classLink own x.catchType name).before args s = true) (hcast : (Cond.castable E name).before args s = true) (hcell : H[q]? = some ce) (hv : ce.vm = .none) (hcl : s.vm.findClass E = some ce.cls)
    (kk : W p l e R s m args below meth c H locs cells slots Q (F0 m x.handlerPc ls [.ref q])) : vx_W p l e R s m args below meth c H locs cells slots Q (F0 m pc ls rest) q := by
  intro T hT X
  have hpl : e.platform.magicAccessors = ({} : Platform).magicAccessors := by rw [X.admits.platform]
  obtain ⟨c3, c4, hc3, hc4, hasg⟩ := Cond.castable_spec hcast
  cases Option.some.inj (hc3.symm.trans hcl)
  obtain ⟨c5, hc5, hcl5⟩ := Cond.classLink_spec hown hlink e.platform hpl
  cases Option.some.inj (hc4.symm.trans hc5)
  obtain ⟨vm', X', st⟩ := X.thenCaughtThrough q (g := F0 m pc ls rest) rfl (Steps.refl _) (by rw [hT]; exact hcell) (by rw [hv]; rfl) (by obtain ⟨k9, h9, -⟩ := Vm.findClass_spec hcl; exact ⟨k9, h9⟩) pre x suf hsplit
    (fun z hz => by
      rcases hpass z hz with h | ⟨hz0, nm, hl1, hn1⟩
      · exact Or.inl h
      · obtain ⟨c6, hc6, hcl6⟩ := Cond.classLink_spec hown hl1 e.platform hpl
        obtain ⟨a8, b8, h1, h2, h3⟩ := hn1
        cases Option.some.inj (h1.symm.trans hcl)
        cases Option.some.inj (h2.symm.trans hc6)
        exact Or.inr ⟨hz0, _, hcl6, h3⟩) hx (Or.inr ⟨h0, c4, hcl5, hasg⟩)
  obtain ⟨t, a1, b1⟩ := kk (T.setVm vm') hT X'
  exact ⟨t, st.trans a1, b1⟩
end Rows
section Ends
variable {p : Program} {l : Launch} {e : Env} {R : Room} {s : State} {m : MethodId} {args : Array Value} {below : List Frame} {meth : Method} {c : Code} {H : Heap} {locs : List Loc} {cells slots : Nat} {Q : State → Prop}
variable {mc ms : Nat} {free : Addr → Prop} {A0 A1 : Nat → Prop} {H0 : Heap} {a : Array Value} {ls : Array Slot} {st0 rest : List Value}
variable {Qc : Array Value → State → Outcome → State → Prop} {XC : String → State → State → Prop}
/-- what a body that may throw owes at its end -/
def vx_MQ (below : List Frame) (Qc : Array Value → State → Outcome → State → Prop) (XC : String → State → State → Prop) (a : Array Value) (s : State) (mc ms : Nat) (free : Addr → Prop) : State → Prop := fun t =>
  ∃ o, t.status = .running ∧ Ended t below o ∧ vx_Q Qc XC mc ms free a s o t
theorem vx_ret {g : JFrame} {mc ms : Nat} (k : W p l e R s m args below meth c H locs cells slots (MQ below Qc args s mc ms free) g) : W p l e R s m args below meth c H locs cells slots (vx_MQ below Qc XC args s mc ms free) g := by
  intro T hT X
  obtain ⟨t, a1, o, b1, b2, b3, b4⟩ := k T hT X
  exact ⟨t, a1, o, b1, b2, Or.inl ⟨b3, b4⟩⟩
/-- not caught here: it goes on to the caller -/
theorem vx_widen {g : JFrame} {q : Addr} {k n : Nat} (h1 : cells ≤ k) (h2 : slots ≤ n) (kk : vx_W p l e R s m args below meth c H locs k n Q g q) : vx_W p l e R s m args below meth c H locs cells slots Q g q := fun T hT X => kk T hT (stand_widen X h1 h2)
theorem vx_out {pc : Nat} {E : String} {ce : Cell} {q : Addr} {mc ms : Nat} (hout : ∀ x ∈ c.exceptionTable.toList, covers x pc = false) (hlocks : meth.locks = false) (hcell : H[q]? = some ce) (hv : ce.vm = .none) (hcl : s.vm.findClass E = some ce.cls)
    (hx : ∀ t : State, t.heap = H → s.vm.Alike t.vm → XC E s t) (hf : ∀ z ∈ locs, free z.base) (hc : cells ≤ mc) (hs : slots ≤ ms) :
    vx_W p l e R s m args below meth c H locs cells slots (vx_MQ below Qc XC args s mc ms free) (F0 m pc ls rest) q := by
  intro T hT X
  obtain ⟨st1, hrun, hend, hW, hsm⟩ := X.leaveThrown q (g := F0 m pc ls rest) rfl rfl rfl hout hlocks
  have hcell9 : (T.setFrames (.throwing q :: below)).heap[q]? = some ce := by
    show T.heap[q]? = some ce
    rw [hT]; exact hcell
  exact ⟨_, st1, .threw q, hrun, hend, Or.inr ⟨q, rfl, E, ce, locs, hx _ hT hW.alike, hcell9, hv, hcl, hW, hsm.mono hc hs, hf⟩⟩
theorem vx_frame {U : State} {k n : Nat} (h : s.sameButNew ({ U with vm := s.vm } : State) locs k n) : s.heap.size ≤ U.heap.size ∧ ∀ q : Nat, q < s.heap.size → (∀ z ∈ locs, z.base ≠ q) → U.heap[q]? = s.heap[q]? := by
  obtain ⟨-, h2, -, -, -, h6⟩ := h
  refine ⟨h2, fun q hq hz => ?_⟩
  obtain ⟨c9, e1, e2, e3, e4⟩ := h6 q _ (Array.getElem?_eq_getElem hq)
  have hs : c9.slots = (s.heap[q]).slots := Array.ext_getElem? fun i => e4 i fun hm => hz _ hm rfl
  have h9 : c9 = s.heap[q] := by
    rw [hs] at e2
    exact e2
  have e5 : U.heap[q]? = some c9 := e1
  rw [e5, h9, Array.getElem?_eq_getElem hq]
/-- the words of a throw but the four that speak of the heap -/
def vx_no (w : Cond) : Bool := decide (w ≠ .isRef (.static Bundle.tN "UNASSIGNED_STACK" Bundle.steD)) && decide (w ≠ .isRef (.static Bundle.tN "SUPPRESSED_SENTINEL" Bundle.listD)) && decide (w ≠ .laysStatic Bundle.tN "UNASSIGNED_STACK" Bundle.steD) && decide (w ≠ .laysStatic Bundle.tN "SUPPRESSED_SENTINEL" Bundle.listD)
def vx_at0 (own : String) (ic : Nat) (X : String) (names : List String) : List Cond := (Bundle.ownAtoms0 own ic X names).filter vx_no
def vx_atS (own : String) (ic : Nat) (X : String) (names : List String) : List Cond := (Bundle.ownAtoms own ic X names).filter vx_no
/-- a word that the tables alone decide, or a good one -/
def vx_ot (w : Cond) : Bool := w.onTables || goodWord w
theorem vx_ot_at {args a' : Array Value} {s U : State} {w : Cond} (hW : s.WarmedH U.vm) (hvm : s.vm = U.vm) (hg : vx_ot w = true) (h : w.before args s = true) : w.before a' U = true := by
  simp only [vx_ot, Bool.or_eq_true] at hg
  rcases hg with hg | hg
  · exact va_tabs hg hvm h
  · exact word_at hW (good_of_word hg) h
/-- a list's words: the good ones out of the method's own list, the others by premises of their own -/
theorem vx_hat {args : Array Value} {s : State} {L B : List Cond} (h1 : ∀ w ∈ L.filter goodWord, w.before args s = true) (h2 : ∀ w ∈ L.filter (fun w => !goodWord w), w ∈ B) (h3 : ∀ w ∈ B, w.before args s = true) : ∀ w ∈ L, w.before args s = true := by
  intro w hw
  by_cases g : goodWord w = true
  · exact h1 w (List.mem_filter.mpr ⟨hw, g⟩)
  · refine h3 w (h2 w (List.mem_filter.mpr ⟨hw, ?_⟩))
    show (!goodWord w) = true
    cases hgw : goodWord w
    · rfl
    · exact absurd hgw g
theorem vx_c {args : Array Value} {s : State} {w : Cond} {B : List Cond} (h : w.before args s = true) (t : ∀ w ∈ B, w.before args s = true) : ∀ w' ∈ w :: B, w'.before args s = true := fun w' h' => (List.mem_cons.mp h').elim (fun e => by rw [e]; exact h) (t w')
theorem vx_n {args : Array Value} {s : State} : ∀ w ∈ ([] : List Cond), w.before args s = true := fun _ h => nomatch h
theorem vx_own {args : Array Value} {s : State} {L : List Cond} (h1 : ∀ w ∈ L.filter vx_no, w.before args s = true)
    (hU : (Cond.isRef (.static Bundle.tN "UNASSIGNED_STACK" Bundle.steD)).before args s = true) (hN : (Cond.isRef (.static Bundle.tN "SUPPRESSED_SENTINEL" Bundle.listD)).before args s = true)
    (lU : (Cond.laysStatic Bundle.tN "UNASSIGNED_STACK" Bundle.steD).before args s = true) (lN : (Cond.laysStatic Bundle.tN "SUPPRESSED_SENTINEL" Bundle.listD).before args s = true) : ∀ w ∈ L, w.before args s = true := by
  intro w hw
  by_cases e1 : w = .isRef (.static Bundle.tN "UNASSIGNED_STACK" Bundle.steD)
  · rw [e1]; exact hU
  · by_cases e2 : w = .isRef (.static Bundle.tN "SUPPRESSED_SENTINEL" Bundle.listD)
    · rw [e2]; exact hN
    · by_cases e3 : w = .laysStatic Bundle.tN "UNASSIGNED_STACK" Bundle.steD
      · rw [e3]; exact lU
      · by_cases e4 : w = .laysStatic Bundle.tN "SUPPRESSED_SENTINEL" Bundle.listD
        · rw [e4]; exact lN
        · exact h1 w (List.mem_filter.mpr ⟨hw, by unfold vx_no; rw [decide_eq_true e1, decide_eq_true e2, decide_eq_true e3, decide_eq_true e4]; rfl⟩)
/-- where a static field lies, its class's statics cell in H -/
def vx_L (C n d : String) (A : Nat → Prop) (U : State) (H : Heap) : Prop := ∃ (c : ClassId) (k : Class) (i : Nat) (f : Field) (a : Nat) (cell : Cell), U.vm.findClass C = some c ∧ U.fieldFound? C n d = some (c, k, i, f) ∧ f.isStatic = true ∧ k.statics = some a ∧ H[a]? = some cell ∧ cell.vm.isStatics = true ∧ cell.cls = c ∧ f.slot < cell.slots.size ∧ k.staticTypes[f.slot]? = some f.type ∧ ¬ A a
theorem vx_L.moved {C n d : String} {A : Nat → Prop} {u U : State} {H : Heap} (hvm : u.vm.Alike U.vm) (h : vx_L C n d A u H) : vx_L C n d A U H := by
  obtain ⟨c, k, i, f, a, cell, h1, h2, h3, h4, h5, h6, h7, h8, h9, h10⟩ := h
  obtain ⟨k', hi', he⟩ := State.fieldFound?_setVm hvm h2
  exact ⟨c, k', i, f, a, cell, by rw [hvm.findClass]; exact h1, hi', h3, by rw [he]; exact h4, h5, h6, h7, h8, by rw [he]; exact h9, h10⟩
theorem vx_L.kept {C n d : String} {A : Nat → Prop} {U : State} {H H1 : Heap} (h : vx_L C n d A U H) (hq : ∀ a : Nat, a < H.size → ¬ A a → H1[a]? = H[a]?) : vx_L C n d A U H1 := by
  obtain ⟨c, k, i, f, a, cell, h1, h2, h3, h4, h5, h6, h7, h8, h9, h10⟩ := h
  exact ⟨c, k, i, f, a, cell, h1, h2, h3, h4, by rw [hq a (Array.getElem?_eq_some_iff.mp h5).1 h10]; exact h5, h6, h7, h8, h9, h10⟩
theorem vx_L.narrow {C n d : String} {A B : Nat → Prop} {U : State} {H : Heap} (h : vx_L C n d A U H) (hAB : ∀ q, B q → A q) : vx_L C n d B U H := by
  obtain ⟨c, k, i, f, a, cell, h1, h2, h3, h4, h5, h6, h7, h8, h9, h10⟩ := h
  exact ⟨c, k, i, f, a, cell, h1, h2, h3, h4, h5, h6, h7, h8, h9, fun z => h10 (hAB _ z)⟩
theorem vx_L.word {C n d : String} {A : Nat → Prop} {s : State} {args : Array Value} (h : vx_L C n d A s s.heap) : (Cond.laysStatic C n d).before args s = true := by
  obtain ⟨c, k, i, f, a, cell, h1, h2, h3, h4, h5, h6, h7, h8, h9, -⟩ := h
  show (Cond.laysStatic C n d).holds args s none s [] = true
  exact Cond.laysStatic_of h1 h2 h3 h4 h5 h6 h7 h8 h9
/-- .. and what it holds: null or some reference -/
def vx_Zq (C n d : String) (A : Nat → Prop) (U : State) (H : Heap) : Prop := va_Zq C n d A U H ∧ vx_L C n d A U H
theorem vx_Zq.moved {C n d : String} {A : Nat → Prop} {u U : State} {H : Heap} (hvm : u.vm.Alike U.vm) (h : vx_Zq C n d A u H) : vx_Zq C n d A U H := ⟨va_Zq.moved hvm h.1, vx_L.moved hvm h.2⟩
theorem vx_Zq.kept {C n d : String} {A : Nat → Prop} {U : State} {H H1 : Heap} (h : vx_Zq C n d A U H) (hq : ∀ a : Nat, a < H.size → ¬ A a → H1[a]? = H[a]?) : vx_Zq C n d A U H1 := ⟨va_Zq.kept h.1 hq, vx_L.kept h.2 hq⟩
theorem vx_Zq.narrow {C n d : String} {A B : Nat → Prop} {U : State} {H : Heap} (h : vx_Zq C n d A U H) (hAB : ∀ q, B q → A q) : vx_Zq C n d B U H := ⟨va_Zq.narrow h.1 hAB, vx_L.narrow h.2 hAB⟩
theorem vx_Zqof {args : Array Value} {s : State} {C n d : String} {A : Nat → Prop} (hl : (Cond.laysStatic C n d).before args s = true) (hini : (Cond.initialized C).before args s = true) (h : (Cond.isRef (.static C n d)).before args s = true) (hA : ∀ a : Nat, a < s.heap.size → ¬ A a) : vx_Zq C n d A s s.heap := by
  refine ⟨va_Zqof hl hini h hA, ?_⟩
  obtain ⟨c, k, i, f, a, cell, h1, h2, h3, h4, h5, h6, h7, h8, h9⟩ := Cond.laysStatic_spec hl
  exact ⟨c, k, i, f, a, cell, h1, h2, h3, h4, h5, h6, h7, h8, h9, hA a (Array.getElem?_eq_some_iff.mp h5).1⟩
theorem vx_isRef {C n d : String} {v : Value} {A : Nat → Prop} {s : State} {args : Array Value} (h : va_Z C n d v A s s.heap) (hv : v.isRef = true) : (Cond.isRef (.static C n d)).before args s = true := by
  obtain ⟨cf, kf, fi, f, a, cell, h1, h2, h3, h4, h5, h6, h7, -⟩ := h
  have he : (Term.static C n d).eval args s none [] s = some v := by
    simp [Term.eval, State.fieldNamed?, h1, h2, h4, h5, h6, h7]
  simp only [Cond.before, Cond.holds, Cond.value, he]
  cases v <;> simp_all [Value.isRef]
theorem vx_isRefq {C n d : String} {A : Nat → Prop} {s : State} {args : Array Value} (h : va_Zq C n d A s s.heap) : (Cond.isRef (.static C n d)).before args s = true := by
  rcases h with h | ⟨t, h⟩
  · exact vx_isRef h rfl
  · exact vx_isRef h rfl
/-- the same frame, seen from here: as if the method were called anew in this heap -/
theorem vx_rebase {T : State} (X : Stand p l e R s m args below meth c T locs cells slots) {R' : Room} (hf : R'.frames ≤ R.frames) (hl : R'.locals ≤ R.locals) (hc : cells + R'.cells ≤ R.cells) (hs : slots + R'.slots ≤ R.slots) :
    Stand p l e R' ((T.setVm s.vm).setFrames (.invoking m args :: below)) m args below meth c T [] 0 0 := by
  have htop : (T.setVm s.vm).topJava?.isSome := X.here.top
  have hF : ((T.setVm s.vm).setFrames (.invoking m args :: below)).frames = .invoking m args :: below := State.frames_setFrames _ (State.cur_lt_of_top htop)
  obtain ⟨g₀, hg0⟩ := Option.isSome_iff_exists.mp htop
  obtain ⟨r, hr⟩ := State.topJava?_eq_some.mp hg0
  have hl9 : e.platform.stackLimits (T.setVm s.vm).me = e.platform.stackLimits s.me := X.limits
  have hb9 : (T.setVm s.vm).me.stackBytes = s.me.stackBytes := X.bytes
  refine ⟨X.admits, X.cas, X.clock, hF, ?_, X.hears, X.method, X.code, X.here, X.tail, X.warmed, ?_, ?_, ?_⟩
  · have h := X.room
    have hU : ((T.setVm s.vm).setFrames (.invoking m args :: below)).localsInUse = s.localsInUse := by
      rw [State.localsInUse_invoking hF (meth := meth) (c := c) X.method X.code, State.localsInUse_invoking X.frames X.method X.code]
    simp only [State.hasRoom, Bool.and_eq_true, decide_eq_true_eq] at h ⊢
    obtain ⟨⟨⟨⟨h1, h2, h3, h4, h5, h6⟩, h7⟩, h8⟩, h9⟩ := h
    rw [X.frames, List.length_cons] at h2 h3
    have q1 := X.heapSize
    have q2 := X.used
    simp only [hF, hU, List.length_cons, State.stackLimits_setFrames, State.stackBytes_setFrames, hl9, hb9]
    refine ⟨⟨⟨⟨by omega, by omega, by omega, by omega, by omega, h6⟩, ?_⟩, ?_⟩, X.book⟩
    · show T.heap.size + R'.cells ≤ e.platform.maxCells
      omega
    · show T.slotsUsed + R'.slots ≤ e.platform.maxSlots
      omega
  · rw [State.stackLimits_setFrames]; rfl
  · rw [State.stackBytes_setFrames]; rfl
  · refine ⟨?_, Nat.le_refl _, Nat.le_refl _, ?_, ?_, fun a c9 h9 => ⟨c9, h9, rfl, rfl, fun _ _ => rfl⟩⟩
    · obtain ⟨t, ht, -⟩ := State.frames_cons hr
      show T.setVm s.vm = { ((T.setVm s.vm).setFrames (.invoking m args :: below)).setFrames (T.setVm s.vm).frames with heap := T.heap, slotsUsed := T.slotsUsed }
      rw [State.setFrames_setFrames, State.setFrames_self ht]
      rfl
    · show T.slotsUsed = T.slotsUsed + ((T.heap.toList.drop T.heap.size).map (·.slots.size)).sum
      rw [List.drop_eq_nil_of_le (Nat.le_of_eq Array.length_toList)]
      rfl
    · show ((T.heap.toList.drop T.heap.size).map (·.slots.size)).sum ≤ 0
      rw [List.drop_eq_nil_of_le (Nat.le_of_eq Array.length_toList)]
      exact Nat.le_refl _
/-- 'throw new E()': new; dup; invokespecial; athrow -/
theorem vx_throw0 {cc : ByteArray} {pc : Nat} (hexec : p.tables.exec = Jvm.exec) (hb : c.code = cc) (hl : l.stackTraces = false) {own cls : String} {names : List String} {ik ic mc ms : Nat} {A : Nat → Prop}
    (hown : s.vm.findClass own = some m.cls) (hcls : Bundle.fit cls = true) (hnames : ∀ n ∈ names, Bundle.fit n = true)
    (hk : (Cond.classLink own ik cls).before args s = true) (hini : (Cond.initialized cls).before args s = true) (hat : ∀ w ∈ vx_at0 own ic cls names, w.before args s = true)
    (hgood : ∀ w ∈ Cond.classLink own ik cls :: Cond.initialized cls :: vx_at0 own ic cls names, vx_ot w = true)
    (hU : vx_Zq Bundle.tN "UNASSIGNED_STACK" Bundle.steD A s s.heap) (hN : vx_Zq Bundle.tN "SUPPRESSED_SENTINEL" Bundle.listD A s s.heap) (hS : va_S A s.heap H locs) (hsize : ls.size = c.maxLocals)
    (d0 : decode cc pc = .ok (.new ik, 3)) (d3 : decode cc (pc + 3) = .ok (.dup, 1)) (d4 : decode cc (pc + 4) = .ok (.invokespecial ic, 3)) (d7 : decode cc (pc + 7) = .ok (.athrow, 1))
    (hout : ∀ x ∈ c.exceptionTable.toList, covers x (pc + 7) = false)
    (hRframes : names.length + 3 < R.frames) (hRlocals : (rest.map fun v => v.category).sum + (13 * (names.length + 1) + 42) ≤ R.locals) (hRcells : cells + 1 ≤ R.cells) (hRslots : slots + 6 ≤ R.slots) (hlocks : meth.locks = false)
    (hx : ∀ t : State, s.vm.Alike t.vm → H.size ≤ t.heap.size → (∀ q : Nat, q < H.size → t.heap[q]? = H[q]?) → XC cls s t)
    (hf : ∀ z ∈ locs, free z.base) (hc : cells + 1 ≤ mc) (hs : slots + 6 ≤ ms) :
    W p l e R s m args below meth c H locs cells slots (vx_MQ below Qc XC args s mc ms free) (F0 m pc ls rest) := by
  intro T hT X
  have htr : e.platform.stackTraces = false := (show e.platform.stackTraces = l.stackTraces by rw [X.admits.platform]).trans hl
  have Y := vx_rebase X (R' := { frames := R.frames, locals := R.locals, cells := 1, slots := 6 }) (Nat.le_refl _) (Nat.le_refl _) hRcells hRslots
  obtain ⟨s', hA⟩ : ∃ z, z = (T.setVm s.vm).setFrames (.invoking m args :: below) := ⟨_, rfl⟩
  rw [← hA] at Y
  have hvm : s'.vm = s.vm := by rw [hA]; rfl
  have hhp : s'.heap = H := by rw [hA]; exact hT
  have hW0 : s.WarmedH s'.vm := by rw [hvm]; exact State.WarmedH.refl s
  have hat' : ∀ w ∈ vx_at0 own ic cls names, w.before args s' = true := fun w hw => vx_ot_at hW0 hvm.symm (hgood w (List.mem_cons_of_mem _ (List.mem_cons_of_mem _ hw))) (hat w hw)
  have hk' : (Cond.classLink own ik cls).before args s' = true := vx_ot_at hW0 hvm.symm (hgood _ List.mem_cons_self) hk
  have hini' : (Cond.initialized cls).before args s' = true := vx_ot_at hW0 hvm.symm (hgood _ (List.mem_cons_of_mem _ List.mem_cons_self)) hini
  have hU' : vx_Zq Bundle.tN "UNASSIGNED_STACK" Bundle.steD A s' s'.heap := by rw [hhp]; exact vx_Zq.moved hW0.alike (hU.kept hS.2.1)
  have hN' : vx_Zq Bundle.tN "SUPPRESSED_SENTINEL" Bundle.listD A s' s'.heap := by rw [hhp]; exact vx_Zq.moved hW0.alike (hN.kept hS.2.1)
  have h : ∀ w ∈ Bundle.ownAtoms0 own ic cls names, w.before args s' = true := vx_own hat' (vx_isRefq hU'.1) (vx_isRefq hN'.1) hU'.2.word hN'.2.word
  have hown' : s'.vm.findClass own = some m.cls := by rw [hvm]; exact hown
  have hins : (Cond.instantiable cls 6).before args s' = true := h _ (by simp [Bundle.ownAtoms0])
  obtain ⟨vm₁, cX, kX, hfX, hkX, -, -, X₁, st1⟩ := Y.newCold hexec (own := own) (C := cls) (index := ik) (n := 6) hown' hk' hins hini'
    (g := F0 m pc ls rest) rfl (by rw [hb]; exact d0) (Nat.le_refl _) (Nat.le_refl _)
  generalize hT1 : (T.setVm vm₁).pushCell { cls := cX, slots := kX.instanceTypes.map defaultValue, vm := .none } = T1 at X₁ st1
  have hcat : (Value.ref T.heap.size).category = 1 := rfl
  have hcellA : T1.heap[T.heap.size]? = some (freshCell cX kX) := by rw [← hT1]; exact State.heap_pushCell_size _ _
  have d3' : decode c.code (pc + 3) = .ok (.dup, 1) := by rw [hb]; exact d3
  obtain ⟨U, hsteps, hrun, hend, hW, hsame, ce, hce, hO⟩ := X₁.ctorThrow0 hexec htr (own := own) (cls := cls) (names := names) (ic := ic) hown' hcls hnames h (fun x hx => nomatch hx) hfX hkX hcellA (by rw [hhp, hT]; exact Nat.le_refl _)
    (g := { method := m, pc := pc + 4, locals := ls, stack := .ref T.heap.size :: .ref T.heap.size :: rest, locked := none }) rfl hsize rfl rfl (rest := rest) rfl
    (by rw [hb]; exact d4) (by rw [hb]; exact d7) hout hRframes (by simp only [List.map_cons, List.sum_cons, hcat]; omega) hlocks
  obtain ⟨f1, f2⟩ := vx_frame hsame
  rw [hhp] at f1 f2
  have hWs : s.WarmedH U.vm := State.WarmedH.trans hW0 hW
  have hcl : s.vm.findClass cls = some ce.cls := by
    have h9 := hO.cls
    rw [hvm] at h9
    exact h9
  have hall : s.sameButNew ({ U with vm := s.vm } : State) locs mc ms := by
    subst hA
    obtain ⟨e1, e2⟩ := hsame
    rw [State.setFrames_setFrames] at e1
    have h2 : (T.setVm s.vm).sameButNew ({ U with vm := s.vm } : State) [] (0 + 1) (0 + 6) := ⟨e1, e2⟩
    have h3 := X.same.trans h2
    rw [List.append_nil] at h3
    exact h3.mono hc hs
  refine ⟨U, ?_, .threw T.heap.size, hrun, hend, Or.inr ⟨T.heap.size, rfl, cls, ce, locs, hx U hWs.alike f1 (fun q hq => f2 q hq (fun z hz => nomatch hz)), hce, hO.vm, hcl, hWs, hall, hf⟩⟩
  refine st1 _ ?_
  show Steps p.tables e below (T1.setTop { method := m, pc := pc + 3, locals := ls, stack := .ref T.heap.size :: rest, locked := none }) _
  jvm_step X₁.here [X₁.here.top, hexec, d3', Value.category]
  exact hsteps
/-- 'throw new E("text")': new; dup; ldc; invokespecial; athrow -/
theorem vx_throwS {cc : ByteArray} {pc : Nat} (hexec : p.tables.exec = Jvm.exec) (hb : c.code = cc) (hl : l.stackTraces = false) {own cls text : String} {names : List String} {ik is ic mc ms sa : Nat} {A : Nat → Prop}
    (hown : s.vm.findClass own = some m.cls) (hcls : Bundle.fit cls = true) (hnames : ∀ n ∈ names, Bundle.fit n = true)
    (hk : (Cond.classLink own ik cls).before args s = true) (hini : (Cond.initialized cls).before args s = true) (hstr : vk_R own is text sa s) (hat : ∀ w ∈ vx_atS own ic cls names, w.before args s = true)
    (hgood : ∀ w ∈ Cond.classLink own ik cls :: Cond.initialized cls :: vx_atS own ic cls names, vx_ot w = true)
    (hU : vx_Zq Bundle.tN "UNASSIGNED_STACK" Bundle.steD A s s.heap) (hN : vx_Zq Bundle.tN "SUPPRESSED_SENTINEL" Bundle.listD A s s.heap) (hS : va_S A s.heap H locs) (hsize : ls.size = c.maxLocals)
    (d0 : decode cc pc = .ok (.new ik, 3)) (d3 : decode cc (pc + 3) = .ok (.dup, 1)) (d4 : decode cc (pc + 4) = .ok (.ldc is, 2)) (d6 : decode cc (pc + 6) = .ok (.invokespecial ic, 3)) (d9 : decode cc (pc + 9) = .ok (.athrow, 1))
    (hout : ∀ x ∈ c.exceptionTable.toList, covers x (pc + 9) = false)
    (hRframes : names.length + 3 < R.frames) (hRlocals : (rest.map fun v => v.category).sum + (13 * (names.length + 1) + 43) ≤ R.locals) (hRcells : cells + 1 ≤ R.cells) (hRslots : slots + 6 ≤ R.slots) (hlocks : meth.locks = false)
    (hx : ∀ t : State, s.vm.Alike t.vm → H.size ≤ t.heap.size → (∀ q : Nat, q < H.size → t.heap[q]? = H[q]?) → XC cls s t)
    (hf : ∀ z ∈ locs, free z.base) (hc : cells + 1 ≤ mc) (hs : slots + 6 ≤ ms) :
    W p l e R s m args below meth c H locs cells slots (vx_MQ below Qc XC args s mc ms free) (F0 m pc ls rest) := by
  intro T hT X
  have htr : e.platform.stackTraces = false := (show e.platform.stackTraces = l.stackTraces by rw [X.admits.platform]).trans hl
  have Y := vx_rebase X (R' := { frames := R.frames, locals := R.locals, cells := 1, slots := 6 }) (Nat.le_refl _) (Nat.le_refl _) hRcells hRslots
  obtain ⟨s', hA⟩ : ∃ z, z = (T.setVm s.vm).setFrames (.invoking m args :: below) := ⟨_, rfl⟩
  rw [← hA] at Y
  have hvm : s'.vm = s.vm := by rw [hA]; rfl
  have hhp : s'.heap = H := by rw [hA]; exact hT
  have hW0 : s.WarmedH s'.vm := by rw [hvm]; exact State.WarmedH.refl s
  have hat' : ∀ w ∈ vx_atS own ic cls names, w.before args s' = true := fun w hw => vx_ot_at hW0 hvm.symm (hgood w (List.mem_cons_of_mem _ (List.mem_cons_of_mem _ hw))) (hat w hw)
  have hk' : (Cond.classLink own ik cls).before args s' = true := vx_ot_at hW0 hvm.symm (hgood _ List.mem_cons_self) hk
  have hini' : (Cond.initialized cls).before args s' = true := vx_ot_at hW0 hvm.symm (hgood _ (List.mem_cons_of_mem _ List.mem_cons_self)) hini
  have hU' : vx_Zq Bundle.tN "UNASSIGNED_STACK" Bundle.steD A s' s'.heap := by rw [hhp]; exact vx_Zq.moved hW0.alike (hU.kept hS.2.1)
  have hN' : vx_Zq Bundle.tN "SUPPRESSED_SENTINEL" Bundle.listD A s' s'.heap := by rw [hhp]; exact vx_Zq.moved hW0.alike (hN.kept hS.2.1)
  have h : ∀ w ∈ Bundle.ownAtoms own ic cls names, w.before args s' = true := vx_own hat' (vx_isRefq hU'.1) (vx_isRefq hN'.1) hU'.2.word hN'.2.word
  have hown' : s'.vm.findClass own = some m.cls := by rw [hvm]; exact hown
  have hins : (Cond.instantiable cls 6).before args s' = true := h _ (by simp [Bundle.ownAtoms])
  obtain ⟨vm₁, cX, kX, hfX, hkX, -, -, X₁, st1⟩ := Y.newCold hexec (own := own) (C := cls) (index := ik) (n := 6) hown' hk' hins hini'
    (g := F0 m pc ls rest) rfl (by rw [hb]; exact d0) (Nat.le_refl _) (Nat.le_refl _)
  generalize hT1 : (T.setVm vm₁).pushCell { cls := cX, slots := kX.instanceTypes.map defaultValue, vm := .none } = T1 at X₁ st1
  have hcat : (Value.ref T.heap.size).category = 1 := rfl
  have hcellA : T1.heap[T.heap.size]? = some (freshCell cX kX) := by rw [← hT1]; exact State.heap_pushCell_size _ _
  have d3' : decode c.code (pc + 3) = .ok (.dup, 1) := by rw [hb]; exact d3
  have d4' : decode c.code (pc + 4) = .ok (.ldc is, 2) := by rw [hb]; exact d4
  have hstr' : vk_R own is text sa s' := vk_R.warm hW0 hstr
  obtain ⟨U, hsteps, hrun, hend, hW, hsame, ce, hce, hO⟩ := X₁.ctorThrowS hexec htr (own := own) (cls := cls) (names := names) (ic := ic) hown' hcls hnames h (fun x hx => nomatch hx) hfX hkX hcellA (by rw [hhp, hT]; exact Nat.le_refl _) (msg := .ref sa) rfl
    (g := { method := m, pc := pc + 6, locals := ls, stack := .ref sa :: .ref T.heap.size :: .ref T.heap.size :: rest, locked := none }) rfl hsize rfl rfl (rest := rest) rfl
    (by rw [hb]; exact d6) (by rw [hb]; exact d9) hout hRframes (by simp only [List.map_cons, List.sum_cons, hcat]; omega) hlocks
  obtain ⟨f1, f2⟩ := vx_frame hsame
  rw [hhp] at f1 f2
  have hWs : s.WarmedH U.vm := State.WarmedH.trans hW0 hW
  have hcl : s.vm.findClass cls = some ce.cls := by
    have h9 := hO.cls
    rw [hvm] at h9
    exact h9
  have hall : s.sameButNew ({ U with vm := s.vm } : State) locs mc ms := by
    subst hA
    obtain ⟨e1, e2⟩ := hsame
    rw [State.setFrames_setFrames] at e1
    have h2 : (T.setVm s.vm).sameButNew ({ U with vm := s.vm } : State) [] (0 + 1) (0 + 6) := ⟨e1, e2⟩
    have h3 := X.same.trans h2
    rw [List.append_nil] at h3
    exact h3.mono hc hs
  refine ⟨U, ?_, .threw T.heap.size, hrun, hend, Or.inr ⟨T.heap.size, rfl, cls, ce, locs, hx U hWs.alike f1 (fun q hq => f2 q hq (fun z hz => nomatch hz)), hce, hO.vm, hcl, hWs, hall, hf⟩⟩
  refine st1 _ ?_
  show Steps p.tables e below (T1.setTop { method := m, pc := pc + 3, locals := ls, stack := .ref T.heap.size :: rest, locked := none }) _
  jvm_step X₁.here [X₁.here.top, hexec, d3', Value.category]
  exact X₁.ldcString hexec (own := own) (text := text) (index := is) (a := sa) hown' hstr'.1 hstr'.2
    (g := { method := m, pc := pc + 4, locals := ls, stack := .ref T.heap.size :: .ref T.heap.size :: rest, locked := none }) rfl d4' _ hsteps
/-- 'throw new E("text")', the text by a wide index -/
theorem vx_throwSW {cc : ByteArray} {pc : Nat} (hexec : p.tables.exec = Jvm.exec) (hb : c.code = cc) (hl : l.stackTraces = false) {own cls text : String} {names : List String} {ik is ic mc ms sa : Nat} {A : Nat → Prop}
    (hown : s.vm.findClass own = some m.cls) (hcls : Bundle.fit cls = true) (hnames : ∀ n ∈ names, Bundle.fit n = true)
    (hk : (Cond.classLink own ik cls).before args s = true) (hini : (Cond.initialized cls).before args s = true) (hstr : vk_R own is text sa s) (hat : ∀ w ∈ vx_atS own ic cls names, w.before args s = true)
    (hgood : ∀ w ∈ Cond.classLink own ik cls :: Cond.initialized cls :: vx_atS own ic cls names, vx_ot w = true)
    (hU : vx_Zq Bundle.tN "UNASSIGNED_STACK" Bundle.steD A s s.heap) (hN : vx_Zq Bundle.tN "SUPPRESSED_SENTINEL" Bundle.listD A s s.heap) (hS : va_S A s.heap H locs) (hsize : ls.size = c.maxLocals)
    (d0 : decode cc pc = .ok (.new ik, 3)) (d3 : decode cc (pc + 3) = .ok (.dup, 1)) (d4 : decode cc (pc + 4) = .ok (.ldc_w is, 3)) (d7 : decode cc (pc + 7) = .ok (.invokespecial ic, 3)) (d10 : decode cc (pc + 10) = .ok (.athrow, 1))
    (hout : ∀ x ∈ c.exceptionTable.toList, covers x (pc + 10) = false)
    (hRframes : names.length + 3 < R.frames) (hRlocals : (rest.map fun v => v.category).sum + (13 * (names.length + 1) + 43) ≤ R.locals) (hRcells : cells + 1 ≤ R.cells) (hRslots : slots + 6 ≤ R.slots) (hlocks : meth.locks = false)
    (hx : ∀ t : State, s.vm.Alike t.vm → H.size ≤ t.heap.size → (∀ q : Nat, q < H.size → t.heap[q]? = H[q]?) → XC cls s t)
    (hf : ∀ z ∈ locs, free z.base) (hc : cells + 1 ≤ mc) (hs : slots + 6 ≤ ms) :
    W p l e R s m args below meth c H locs cells slots (vx_MQ below Qc XC args s mc ms free) (F0 m pc ls rest) := by
  intro T hT X
  have htr : e.platform.stackTraces = false := (show e.platform.stackTraces = l.stackTraces by rw [X.admits.platform]).trans hl
  have Y := vx_rebase X (R' := { frames := R.frames, locals := R.locals, cells := 1, slots := 6 }) (Nat.le_refl _) (Nat.le_refl _) hRcells hRslots
  obtain ⟨s', hA⟩ : ∃ z, z = (T.setVm s.vm).setFrames (.invoking m args :: below) := ⟨_, rfl⟩
  rw [← hA] at Y
  have hvm : s'.vm = s.vm := by rw [hA]; rfl
  have hhp : s'.heap = H := by rw [hA]; exact hT
  have hW0 : s.WarmedH s'.vm := by rw [hvm]; exact State.WarmedH.refl s
  have hat' : ∀ w ∈ vx_atS own ic cls names, w.before args s' = true := fun w hw => vx_ot_at hW0 hvm.symm (hgood w (List.mem_cons_of_mem _ (List.mem_cons_of_mem _ hw))) (hat w hw)
  have hk' : (Cond.classLink own ik cls).before args s' = true := vx_ot_at hW0 hvm.symm (hgood _ List.mem_cons_self) hk
  have hini' : (Cond.initialized cls).before args s' = true := vx_ot_at hW0 hvm.symm (hgood _ (List.mem_cons_of_mem _ List.mem_cons_self)) hini
  have hU' : vx_Zq Bundle.tN "UNASSIGNED_STACK" Bundle.steD A s' s'.heap := by rw [hhp]; exact vx_Zq.moved hW0.alike (hU.kept hS.2.1)
  have hN' : vx_Zq Bundle.tN "SUPPRESSED_SENTINEL" Bundle.listD A s' s'.heap := by rw [hhp]; exact vx_Zq.moved hW0.alike (hN.kept hS.2.1)
  have h : ∀ w ∈ Bundle.ownAtoms own ic cls names, w.before args s' = true := vx_own hat' (vx_isRefq hU'.1) (vx_isRefq hN'.1) hU'.2.word hN'.2.word
  have hown' : s'.vm.findClass own = some m.cls := by rw [hvm]; exact hown
  have hins : (Cond.instantiable cls 6).before args s' = true := h _ (by simp [Bundle.ownAtoms])
  obtain ⟨vm₁, cX, kX, hfX, hkX, -, -, X₁, st1⟩ := Y.newCold hexec (own := own) (C := cls) (index := ik) (n := 6) hown' hk' hins hini'
    (g := F0 m pc ls rest) rfl (by rw [hb]; exact d0) (Nat.le_refl _) (Nat.le_refl _)
  generalize hT1 : (T.setVm vm₁).pushCell { cls := cX, slots := kX.instanceTypes.map defaultValue, vm := .none } = T1 at X₁ st1
  have hcat : (Value.ref T.heap.size).category = 1 := rfl
  have hcellA : T1.heap[T.heap.size]? = some (freshCell cX kX) := by rw [← hT1]; exact State.heap_pushCell_size _ _
  have d3' : decode c.code (pc + 3) = .ok (.dup, 1) := by rw [hb]; exact d3
  have d4' : decode c.code (pc + 4) = .ok (.ldc_w is, 3) := by rw [hb]; exact d4
  have hstr' : vk_R own is text sa s' := vk_R.warm hW0 hstr
  obtain ⟨U, hsteps, hrun, hend, hW, hsame, ce, hce, hO⟩ := X₁.ctorThrowS hexec htr (own := own) (cls := cls) (names := names) (ic := ic) hown' hcls hnames h (fun x hx => nomatch hx) hfX hkX hcellA (by rw [hhp, hT]; exact Nat.le_refl _) (msg := .ref sa) rfl
    (g := { method := m, pc := pc + 7, locals := ls, stack := .ref sa :: .ref T.heap.size :: .ref T.heap.size :: rest, locked := none }) rfl hsize rfl rfl (rest := rest) rfl
    (by rw [hb]; exact d7) (by rw [hb]; exact d10) hout hRframes (by simp only [List.map_cons, List.sum_cons, hcat]; omega) hlocks
  obtain ⟨f1, f2⟩ := vx_frame hsame
  rw [hhp] at f1 f2
  have hWs : s.WarmedH U.vm := State.WarmedH.trans hW0 hW
  have hcl : s.vm.findClass cls = some ce.cls := by
    have h9 := hO.cls
    rw [hvm] at h9
    exact h9
  have hall : s.sameButNew ({ U with vm := s.vm } : State) locs mc ms := by
    subst hA
    obtain ⟨e1, e2⟩ := hsame
    rw [State.setFrames_setFrames] at e1
    have h2 : (T.setVm s.vm).sameButNew ({ U with vm := s.vm } : State) [] (0 + 1) (0 + 6) := ⟨e1, e2⟩
    have h3 := X.same.trans h2
    rw [List.append_nil] at h3
    exact h3.mono hc hs
  refine ⟨U, ?_, .threw T.heap.size, hrun, hend, Or.inr ⟨T.heap.size, rfl, cls, ce, locs, hx U hWs.alike f1 (fun q hq => f2 q hq (fun z hz => nomatch hz)), hce, hO.vm, hcl, hWs, hall, hf⟩⟩
  refine st1 _ ?_
  show Steps p.tables e below (T1.setTop { method := m, pc := pc + 3, locals := ls, stack := .ref T.heap.size :: rest, locked := none }) _
  jvm_step X₁.here [X₁.here.top, hexec, d3', Value.category]
  exact X₁.ldcStringW hexec (own := own) (text := text) (index := is) (a := sa) hown' hstr'.1 hstr'.2
    (g := { method := m, pc := pc + 4, locals := ls, stack := .ref T.heap.size :: .ref T.heap.size :: rest, locked := none }) rfl d4' _ hsteps
end Ends
section Bodies
variable {l : Launch}
theorem vx_ofW {y : MethodName} {ws ws' : List Cond} {rm : Room} {Pc : Array Value → State → Prop} {Qc : Array Value → State → Outcome → State → Prop} {XC : String → State → State → Prop} {mc ms : Nat} {free : Addr → Prop} {cc : ByteArray} {maxL : Nat} {ret : Option FieldType}
    (hy : plainName y.cls = true) (hw : ws = Cond.code y cc maxL ret :: ws')
    (body : ∀ p e s m args below meth c s₁, BodyLoose p l y (headSpec ws rm) cc maxL ret e s m args below meth c s₁ → c.maxLocals = maxL → (∀ x ∈ c.exceptionTable.toList, False) → Pc args s →
      W p l e (headSpec ws rm).room s m args below meth c s.heap [] 0 0 (vx_MQ below Qc XC args s mc ms free) (entryFrame m args maxL)) : vx_Met l y ws rm Pc Qc XC mc ms free := by
  refine MetFree.of_bodyS (code := cc) (maxLocals := maxL) (ret := ret) hy ?_ ?_
  · intro args s m h hn
    obtain ⟨meth, c, h1, h2, h3, h4, h5, h6, -, -⟩ := Cond.code_spec hn (atoms_spec (ws := ws) h _ (by rw [hw]; exact List.mem_cons_self))
    exact ⟨meth, c, h1, h2, h3, h4, h5, h6⟩
  · intro p e s m args below meth c s₁ B hml hP _
    have hh0 : s₁.heap = s.heap := by rw [B.state]; rfl
    have ht : ∀ x ∈ c.exceptionTable.toList, False := by
      obtain ⟨meth9, c9, h1, h2, -, -, -, -, h7, -⟩ := Cond.code_spec B.named (atoms_spec (ws := ws) B.pre _ (by rw [hw]; exact List.mem_cons_self))
      cases Option.some.inj (h1.symm.trans B.method)
      cases Option.some.inj (h2.symm.trans (Stand.of_body B).code)
      intro x hx
      rw [Array.isEmpty_iff.mp h7] at hx
      cases hx
    obtain ⟨t, a1, o, b1, b2, b3⟩ := body p e s m args below meth c s₁ B hml ht hP s₁ hh0 (Stand.of_body B)
    exact ⟨t, o, a1, b1, b2, b3⟩
/-- the table of a body with handlers -/
theorem vx_table {p : Program} {x y : MethodName} {S : Spec} {cc bytes : ByteArray} {maxL maxL' : Nat} {ret ret' : Option FieldType} {e : Env} {s s₁ : State} {m : MethodId} {args : Array Value} {below : List Frame} {meth : Method} {c : Code} {hh : List (Nat × Nat × Nat × Nat)}
    (B : BodyLoose p l y S cc maxL ret e s m args below meth c s₁) (h : (Cond.codeWith y bytes maxL' ret' hh).before args s = true) : c.exceptionTable.toList = tableOf hh := by
  obtain ⟨m9, meth9, c9, hn9, h1, h2, -, -, h6, -⟩ := Cond.codeWith_spec h
  cases Option.some.inj (hn9.symm.trans B.named)
  cases Option.some.inj (h1.symm.trans B.method)
  cases Option.some.inj (h2.symm.trans (Stand.of_body B).code)
  rw [← h6, table_eq]
end Bodies
end VXA
/-! ===== END ===== -/
/-! ===== BEGIN a static call of a method with an exception table ===== -/
section VXS
variable {p : Program} {l : Launch} {e : Env} {R : Room} {s : State} {m : MethodId} {args : Array Value} {below : List Frame} {meth : Method} {c : Code} {T : State} {H : Heap} {locs : List Loc} {cells slots : Nat}
abbrev vx_CSW (R : Room) (s : State) (args : Array Value) (own : String) (index : Nat) (y : MethodName) (bytes : ByteArray) (maxL : Nat) (ret : Option FieldType) (hh : List (Nat × Nat × Nat × Nat)) (ws : List Cond) (rm : Room) (mc ms n : Nat) : Prop :=
  (rm.cells = mc ∧ rm.slots = ms ∧ rm.frames + 1 ≤ R.frames ∧ 8 + (maxL + 11) + rm.locals ≤ R.locals ∧ (∀ w ∈ ws, ∀ (a' : Array Value) (U : State), s.WarmedH U.vm → w.before a' U = true) ∧ Cond.codeWith y bytes maxL ret hh ∈ ws) ∧
  (Cond.codeWith y bytes maxL ret hh).before args s = true ∧ (Cond.initialized y.cls).before args s = true ∧ (y.cls ≠ "java/lang/invoke/MethodHandle" ∧ y.cls ≠ "java/lang/invoke/VarHandle") ∧
  (∀ sig, parseMethodDescriptor y.desc = some sig → n = sig.parameters.length) ∧ (Cond.methodLink own index y).before args s = true ∧ (Cond.static y).before args s = true
theorem vx_cwSW {own : String} {index maxL mc ms : Nat} {y : MethodName} {bytes : ByteArray} {ret : Option FieldType} {hh : List (Nat × Nat × Nat × Nat)} {Ts ws ws' : List Cond} {rm : Room} (n : Nat) (ht : ∀ w ∈ Ts, w.before args s = true) (hT : GoodIn Ts (va_wsS own index y ws)) (hw : ws = Cond.codeWith y bytes maxL ret hh :: ws') (hrc : rm.cells = mc) (hrs : rm.slots = ms)
    (hd : y.cls ≠ "java/lang/invoke/MethodHandle" ∧ y.cls ≠ "java/lang/invoke/VarHandle" ∧ (parseMethodDescriptor y.desc).map (fun d => d.parameters.length) = some n) (hR : rm.frames + 1 ≤ R.frames ∧ 8 + (maxL + 11) + rm.locals ≤ R.locals) :
    vx_CSW R s args own index y bytes maxL ret hh ws rm mc ms n := by
  have ok : ∀ w ∈ va_wsS own index y ws, w.before args s = true := fun w h => ht w (hT w h).1
  have hG : GoodIn Ts ws := fun w h => hT w (by unfold va_wsS; exact List.mem_append_right _ h)
  have hc : Cond.codeWith y bytes maxL ret hh ∈ ws := by rw [hw]; exact List.mem_cons_self
  refine ⟨⟨hrc, hrs, hR.1, hR.2, pay_in ht hG, hc⟩, ht _ (hG _ hc).1, ok _ (by simp [va_wsS]), ⟨hd.1, hd.2.1⟩, fun sig h => ?_, ok _ (by simp [va_wsS]), ok _ (by simp [va_wsS])⟩
  have h2 := hd.2.2
  rw [h] at h2
  exact (Option.some.inj h2).symm
theorem vx_callSW (X : Stand p l e R s m args below meth c T locs cells slots) (hexec : p.tables.exec = Jvm.exec) {own : String} {index : Nat} {y : MethodName} {bytes : ByteArray} {maxL : Nat} {ret : Option FieldType} {hh : List (Nat × Nat × Nat × Nat)}
    (hown : s.vm.findClass own = some m.cls) (hlink : (Cond.methodLink own index y).before args s = true) (hstat : (Cond.static y).before args s = true) (hinit : (Cond.initialized y.cls).before args s = true)
    (hcode : (Cond.codeWith y bytes maxL ret hh).before args s = true) (hy : y.cls ≠ "java/lang/invoke/MethodHandle" ∧ y.cls ≠ "java/lang/invoke/VarHandle")
    {W9 : Nat} {Pre : Pt → Array Value → Prop} {Post : Pt → Array Value → Option Value → Pt → Prop} (hK : Back l R p e below s args y 3 W9 Pre Post)
    {g : JFrame} (hg : g.method = m) (hsize : g.locals.size = c.maxLocals) {argsL rest : List Value} (hlen : ∀ sig, parseMethodDescriptor y.desc = some sig → argsL.length = sig.parameters.length)
    (hstack : g.stack = argsL.reverse ++ rest) (hW : 2 * g.monitorRoom + (rest.map fun v => v.category).sum ≤ W9) (hdg : decode c.code g.pc = .ok (.invokestatic index, 3))
    (hpre : ∀ vm₁, s.WarmedH vm₁ → Pre ⟨T.setVm vm₁, locs, cells, slots⟩ argsL.toArray) :
    ∃ (v : Option Value) (vm₁ : Vm) (B : Pt), s.WarmedH vm₁ ∧ Stand p l e R s m args below meth c B.U B.locs B.cells B.slots ∧ Post ⟨T.setVm vm₁, locs, cells, slots⟩ argsL.toArray v B ∧
      ∀ target, Steps p.tables e below (B.U.setTop { g with pc := g.pc + 3, stack := v.toList ++ rest }) target → Steps p.tables e below (T.setTop g) target := by
  obtain ⟨mk, methM, cM, hnamed, hmethM, -, -, -, -, -, -, hsigM⟩ := Cond.codeWith_spec hcode
  have hstatic : methM.isStatic = true := Cond.static_spec hnamed hmethM hstat
  obtain ⟨kP, hkP, -⟩ := className_of_methodNamed hnamed
  have hinitP : kP.init = .initialized := Cond.initialized_spec (findClass_of_methodNamed hnamed) hkP hinit
  obtain ⟨vm₁, X₁, hstep₁⟩ := X.invokestatic hexec hown hlink hnamed hmethM hstatic hkP hinitP hy (g := g) hg (argsL := argsL) (rest := rest) (hlen _ hsigM) hstack hdg
  obtain ⟨v, B, X', hpost, hsteps⟩ := hK m meth c ⟨T.setVm vm₁, locs, cells, slots⟩ { g with stack := rest } (.invokestatic index) mk argsL.toArray X₁ hg hsize hdg hW (X₁.named hnamed) (hpre vm₁ X₁.warmed)
  exact ⟨v, vm₁, B, X₁.warmed, X', hpost, fun target h => hstep₁ _ fun acts => by rw [doInvoke_state]; exact hsteps.trans h⟩
theorem vx_runSW {y : MethodName} {bytes cc : ByteArray} {maxL nL mc ms n index : Nat} {ret : Option FieldType} {hh : List (Nat × Nat × Nat × Nat)} {ws : List Cond} {rm : Room} {Pc : Array Value → State → Prop} {Qc : Array Value → State → Outcome → State → Prop} {free : Addr → Prop} {Ts : List Cond} {own : String} {As rest : List Value} {g : JFrame}
    (S : CallFix p m c cc nL s args Ts own) (hM : Met l y ws rm Pc Qc mc ms free) (cw : vx_CSW R s args own index y bytes maxL ret hh ws rm mc ms n) (hp : PreS s H Pc As)
    (hg : g.method = m) (hn : As.length = n) (hsize : g.locals.size = nL) (hstack : g.stack = As.reverse ++ rest) (hW : 2 * g.monitorRoom + (rest.map fun v => v.category).sum ≤ 8) (hdg : decode cc g.pc = .ok (.invokestatic index, 3)) (hf : cells + mc ≤ R.cells ∧ slots + ms ≤ R.slots) :
    va_Run p l e R s m args below meth c H locs cells slots mc ms g rest (Qc As.toArray) (free) := by
  obtain ⟨⟨hrc, hrs, hfr, hlo, hws, hcw⟩, hcode, hini, hy, hlen, hl, hstt⟩ := cw
  have hK : Back l R p e below s args y 3 8 (PreOf R mc ms Pc) (PostOf Qc mc ms free) := va_backW (hh := hh) (bytes := bytes) (maxL := maxL) (ret := ret) hM hp.1 hrc hrs hfr hlo hws hcw (fun a' U hW => word_at hW (Or.inl (by first | rfl | simp [Cond.onTables, Cond.keeps, Cond.steady])) hini)
  obtain ⟨hx, hb, hml, ho, -⟩ := S
  intro T hT X
  obtain ⟨v, vm₁, ⟨U', l2, c2, s2⟩, hW₁, X', ⟨g', mk, t, L, e1, e2, hq, h1, hL, h2, h3⟩, st⟩ := vx_callSW X hx (hh := hh) (bytes := bytes) (maxL := maxL) (ret := ret) ho hl hstt hini hcode hy hK hg (hsize.trans hml.symm) (argsL := As) (rest := rest) (fun sig h => hn.trans (hlen sig h)) hstack hW (by rw [hb]; exact hdg)
    (fun vm₁ hW₁ => ⟨hf.1, hf.2, hp.2 (T.setVm vm₁) hT hW₁⟩)
  dsimp only [Pt.U, Pt.locs, Pt.cells, Pt.slots] at X' e1 e2 h1 h2 h3 st
  subst h1; subst h2; subst h3
  exact ⟨v, (T.setVm vm₁).calling g' mk As.toArray, t, U', L, hT, X', hL, e1, e2, hq, st⟩
/-- not caught here, past rows that name other classes: it goes on to the caller -/
theorem vx_outP {p : Program} {l : Launch} {e : Env} {R : Room} {s : State} {m : MethodId} {args : Array Value} {below : List Frame} {meth : Method} {c : Code} {H : Heap} {locs : List Loc} {cells slots : Nat} {free : Addr → Prop} {ls : Array Slot} {rest : List Value} {Qc : Array Value → State → Outcome → State → Prop} {XC : String → State → State → Prop}
    {pc : Nat} {own E : String} {ce : Cell} {q : Addr} {mc ms : Nat} (hown : s.vm.findClass own = some m.cls) (hlocks : meth.locks = false)
    (hpass : ∀ z ∈ c.exceptionTable.toList, covers z pc = false ∨ (z.catchType ≠ 0 ∧ ∃ nm : String, (Cond.classLink own z.catchType nm).before args s = true ∧ va_Nc E nm s)) (hcell : H[q]? = some ce) (hv : ce.vm = .none) (hcl : s.vm.findClass E = some ce.cls)
    (hx : ∀ t : State, t.heap = H → s.vm.Alike t.vm → XC E s t) (hf : ∀ z ∈ locs, free z.base) (hc : cells ≤ mc) (hs : slots ≤ ms) :
    vx_W p l e R s m args below meth c H locs cells slots (vx_MQ below Qc XC args s mc ms free) (F0 m pc ls rest) q := by
  intro T hT X
  have hpl : e.platform.magicAccessors = ({} : Platform).magicAccessors := by rw [X.admits.platform]
  obtain ⟨vm', hW', X', st⟩ := X.outThrough hlocks q (g := F0 m pc ls rest) rfl rfl rfl (cell := ce) (by rw [hT]; exact hcell) (by rw [hv]; rfl)
    (by obtain ⟨k9, h9, -⟩ := Vm.findClass_spec hcl; exact ⟨k9, h9⟩) (fun z hz => by
      rcases hpass z hz with h | ⟨hz0, nm, hl1, hn1⟩
      · exact Or.inl h
      · obtain ⟨c6, hc6, hcl6⟩ := Cond.classLink_spec hown hl1 e.platform hpl
        obtain ⟨a8, b8, h1, h2, h3⟩ := hn1
        cases Option.some.inj (h1.symm.trans hcl)
        cases Option.some.inj (h2.symm.trans hc6)
        exact Or.inr ⟨hz0, _, hcl6, h3⟩)
  obtain ⟨g₀, hfr⟩ := X'.frames_eq
  have hcell9 : ((T.setVm vm').setFrames (.throwing q :: below)).heap[q]? = some ce := by
    show T.heap[q]? = some ce
    rw [hT]; exact hcell
  have hend : Ended ((T.setVm vm').setFrames (.throwing q :: below)) below (.threw q) := State.frames_setFrames _ (State.cur_lt_of_frames hfr)
  refine ⟨(T.setVm vm').setFrames (.throwing q :: below), ?_, .threw q, X'.here.running, hend, Or.inr ⟨q, rfl, E, ce, locs, hx _ hT (X'.ends _).1.alike, hcell9, hv, hcl, (X'.ends _).1, (X'.ends _).2.mono hc hs, hf⟩⟩
  rw [X.pushThrowing_eq]
  exact st
/-- a thing of a world lies in the heap -/
theorem vx_lt {D : va_G} {cl : List vw_C} {ws : va_W} {H1 : Heap} (h : va_P D cl ws H1) {k : Nat} {q : Nat × va_E} (hk : ws[k]? = some q) : q.1 < H1.size := (h k q hk).lt
end VXS
/-! ===== END ===== -/
/-! ===== BEGIN methods with a table of their own: called by a name, returning or throwing ===== -/
section VXH
/-! vx_backW, vx_callVX, vx_callSX, vx_callVW, vx_runVW, vx_runVX, vx_runSX, vx_ofWH follow the same proofs as their sisters above (Free/Laws.lean, Shelf42/LK1.lean); vx_outP calls Shelf42/NT130.lean (outThrough). -/
section
variable {l : Launch} {R : Room} {p : Program} {e : Env} {below : List Frame} {s : State} {sargs : Array Value} {y : MethodName} {len W9 : Nat}
theorem vx_backW {ws : List Cond} {rm : Room} {Pc : Array Value → State → Prop} {Qc : Array Value → State → Outcome → State → Prop} {XC : String → State → State → Prop} {mc ms : Nat} {free : Addr → Prop} {bytes : ByteArray} {maxL : Nat} {ret : Option FieldType} {hh : List (Nat × Nat × Nat × Nat)}
    (hM : vx_Met l y ws rm Pc Qc XC mc ms free) (hblind : FrameBlind Pc) (hrc : rm.cells = mc) (hrs : rm.slots = ms)
    (hframes : rm.frames + 1 ≤ R.frames) (hlocals : W9 + (maxL + 11) + rm.locals ≤ R.locals)
    (hws : ∀ w ∈ ws, ∀ a' U, s.WarmedH U.vm → w.before a' U = true) (hcode : Cond.codeWith y bytes maxL ret hh ∈ ws) (hinit : ∀ a' U, s.WarmedH U.vm → (Cond.initialized y.cls).before a' U = true) :
    vx_Back l R p e below s sargs y len W9 (PreOf R mc ms Pc) (PostOf Qc mc ms free) (vx_Post XC mc ms free) := by
  intro m meth c A g ig mk a X hg hsize hdg hW hn hp
  have h1 : (headSpec ws rm).pre.before a A.U = true := atoms_intro fun w hw => hws w hw _ _ X.warmed
  have h2 : (Cond.codeWith y bytes maxL ret hh).before a A.U = true := hws _ hcode _ _ X.warmed
  have h3 : (Cond.initialized y.cls).before a A.U = true := hinit _ _ X.warmed
  have h4 : A.cells + (headSpec ws rm).room.cells ≤ R.cells := by rw [show (headSpec ws rm).room.cells = mc from hrc]; exact hp.1
  have h5 : A.slots + (headSpec ws rm).room.slots ≤ R.slots := by rw [show (headSpec ws rm).room.slots = ms from hrs]; exact hp.2.1
  have hPc : Pc a (A.U.calling g mk a) := hblind _ _ _ _ hp.2.2
  obtain ⟨U, Ls, c0, s0⟩ := A
  dsimp only [Pt.U, Pt.locs, Pt.cells, Pt.slots] at h1 h2 h3 h4 h5 X hn hPc ⊢
  obtain ⟨m9, methY, cY, hn9, hmY, hcY, -, hlY, -⟩ := Cond.codeWith_spec h2
  cases Option.some.inj (hn9.symm.trans hn)
  obtain ⟨kY, hkY, -⟩ := className_of_methodNamed hn
  have hinitY : kY.init = .initialized := Cond.initialized_spec (findClass_of_methodNamed hn) hkY h3
  have h : At U g.method c below := by rw [hg]; exact X.here
  have hlocals9 : W9 + (maxL + 11) + (headSpec ws rm).room.locals ≤ R.locals := hlocals
  have happ : (headSpec ws rm).appliesLoose y e.platform (U.calling g mk a) = true :=
    Spec.appliesLoose_calling (g := g) h hdg hn hkY hinitY
      (X.room_calling (g := g) (R' := (headSpec ws rm).room) hsize hmY hcY hframes (by rw [hlY]; omega) h4 h5) h1
  obtain ⟨mid, hmid⟩ := h.above
  have hfr : (U.setTop g).frames = (.java g :: mid) ++ below := by rw [State.frames_setTop' g h.top, hmid]; rfl
  obtain ⟨o, s₂, hsteps, -, hend, hq⟩ := Steps.callFree hM p X.admits X.cas X.clock (acts := []) hfr happ hPc trivial
  have hq' : vx_Q Qc XC mc ms free a (U.calling g mk a) o s₂ := hq
  rw [State.frames_setTop' g h.top] at hend
  obtain ⟨g₀, hg0⟩ := Option.isSome_iff_exists.mp h.top
  obtain ⟨r, hr⟩ := State.topJava?_eq_some.mp hg0
  have hr' : (({ U with heap := s₂.heap, slotsUsed := s₂.slotsUsed } : State).setVm s₂.vm).frames = .java g₀ :: r := hr
  rcases hq' with ⟨hqc, L, hfe, hL⟩ | ⟨q, rfl, E, ce, L, hx, hce, hcv, hcl, hW₂, hsm, hL⟩
  · obtain ⟨⟨v, rfl⟩, hW₂, e2, q2, q3, q4, q5, q6⟩ := id hfe
    have e3 : s₂ = ({ (U.calling g mk a).setFrames s₂.frames with heap := s₂.heap, slotsUsed := s₂.slotsUsed } : State).setVm s₂.vm := by
      have : s₂ = ({ s₂ with vm := (U.calling g mk a).vm } : State).setVm s₂.vm := rfl
      rw [e2] at this
      exact this
    obtain ⟨c₂, i₂, len₂, hc₂, hd₂, hf₂⟩ := hend
    have hW' : U.WarmedH s₂.vm := hW₂
    have hcc : c₂ = c := by
      have h1 : s₂.code? g.method = U.code? g.method := by
        rw [State.code?_eq, State.code?_eq, hW'.alike.method?]
      exact Option.some.inj (hc₂.symm.trans (h1.trans h.code))
    subst hcc
    have hlen : len₂ = len := by rw [hdg] at hd₂; cases hd₂; rfl
    subst hlen
    have hs₂ : s₂ = (({ U with heap := s₂.heap, slotsUsed := s₂.slotsUsed } : State).setVm s₂.vm).setTop { g with pc := g.pc + len₂, stack := v.toList ++ g.stack } := by
      refine e3.trans ?_
      rw [hf₂, State.calling_eq h.top, State.setFrames_setFrames, State.setTop_of_frames _ hr', hr]
      rfl
    have hsame : U.sameButNew ({ U with heap := s₂.heap, slotsUsed := s₂.slotsUsed } : State) L mc ms := by
      refine ⟨?_, q2, q3, q4, q5, q6⟩
      obtain ⟨t, ht, -⟩ := State.frames_cons hr
      show ({ U with heap := s₂.heap, slotsUsed := s₂.slotsUsed } : State) = { U.setFrames U.frames with heap := s₂.heap, slotsUsed := s₂.slotsUsed }
      rw [State.setFrames_self ht]
    subst hg
    refine Or.inl ⟨v, ⟨(({ U with heap := s₂.heap, slotsUsed := s₂.slotsUsed } : State).setVm s₂.vm), Ls ++ L, c0 + mc, s0 + ms⟩,
      ⟨X.admits, X.cas, X.clock, X.frames, X.room, X.hears, X.method, X.code, (X.here.setHeapUsed s₂.heap s₂.slotsUsed).setVm hW'.alike, X.tail, State.WarmedH.trans X.warmed hW', X.limits, X.bytes, X.same.trans (hsame.setVm s.vm)⟩,
      ⟨g, mk, s₂, L, rfl, rfl, hqc, rfl, hL, rfl, rfl⟩, ?_⟩
    show Steps p.tables e below _ ((({ U with heap := s₂.heap, slotsUsed := s₂.slotsUsed } : State).setVm s₂.vm).setTop { g with pc := g.pc + len₂, stack := v.toList ++ g.stack })
    rw [← hs₂]
    exact hsteps
  · obtain ⟨e2, q2, q3, q4, q5, q6⟩ := id hsm
    have e3 : s₂ = ({ (U.calling g mk a).setFrames s₂.frames with heap := s₂.heap, slotsUsed := s₂.slotsUsed } : State).setVm s₂.vm := by
      have : s₂ = ({ s₂ with vm := (U.calling g mk a).vm } : State).setVm s₂.vm := rfl
      rw [e2] at this
      exact this
    have hf₂ : s₂.frames = .throwing q :: .java g :: U.frames.tail := hend
    have hW' : U.WarmedH s₂.vm := hW₂
    have hs₂ : s₂ = ((({ U with heap := s₂.heap, slotsUsed := s₂.slotsUsed } : State).setVm s₂.vm).setTop g).pushFrame (.throwing q) := by
      refine e3.trans ?_
      rw [hf₂, State.calling_eq h.top, State.setFrames_setFrames, State.pushFrame, State.frames_setTop _ hr', State.setTop_of_frames _ hr', State.setFrames_setFrames, hr]
      rfl
    have hsame : U.sameButNew ({ U with heap := s₂.heap, slotsUsed := s₂.slotsUsed } : State) L mc ms := by
      refine ⟨?_, q2, q3, q4, q5, q6⟩
      obtain ⟨t, ht, -⟩ := State.frames_cons hr
      show ({ U with heap := s₂.heap, slotsUsed := s₂.slotsUsed } : State) = { U.setFrames U.frames with heap := s₂.heap, slotsUsed := s₂.slotsUsed }
      rw [State.setFrames_self ht]
    subst hg
    refine Or.inr ⟨q, ⟨(({ U with heap := s₂.heap, slotsUsed := s₂.slotsUsed } : State).setVm s₂.vm), Ls ++ L, c0 + mc, s0 + ms⟩,
      ⟨X.admits, X.cas, X.clock, X.frames, X.room, X.hears, X.method, X.code, (X.here.setHeapUsed s₂.heap s₂.slotsUsed).setVm hW'.alike, X.tail, State.WarmedH.trans X.warmed hW', X.limits, X.bytes, X.same.trans (hsame.setVm s.vm)⟩,
      ⟨g, mk, s₂, L, E, ce, rfl, rfl, hx, hce, hcv, hcl, rfl, hL, rfl, rfl⟩, ?_⟩
    show Steps p.tables e below _ (((({ U with heap := s₂.heap, slotsUsed := s₂.slotsUsed } : State).setVm s₂.vm).setTop g).pushFrame (.throwing q))
    rw [← hs₂]
    exact hsteps
end
variable {p : Program} {l : Launch} {e : Env} {R : Room} {s : State} {m : MethodId} {args : Array Value} {below : List Frame} {meth : Method} {c : Code} {T : State} {H : Heap} {locs : List Loc} {cells slots : Nat}
theorem vx_callVX (X : Stand p l e R s m args below meth c T locs cells slots) (hexec : p.tables.exec = Jvm.exec) {own C : String} {index : Nat} {y : MethodName} {bytes : ByteArray} {maxL : Nat} {ret : Option FieldType} {hh : List (Nat × Nat × Nat × Nat)}
    (hown : s.vm.findClass own = some m.cls) (hlink : (Cond.methodLink own index y).before args s = true) (hinst : (Cond.instanceMethod y).before args s = true) (hsel : (Cond.selects C y y).before args s = true)
    (hcode : (Cond.codeWith y bytes maxL ret hh).before args s = true) (hy : y.cls ≠ "java/lang/invoke/MethodHandle" ∧ y.cls ≠ "java/lang/invoke/VarHandle")
    {W9 : Nat} {Pre : Pt → Array Value → Prop} {Post : Pt → Array Value → Option Value → Pt → Prop} {PostX : Pt → Array Value → Addr → Pt → Prop} (hK : vx_Back l R p e below s args y 3 W9 Pre Post PostX)
    {b : Addr} {cellB : Cell} (hcell : T.heap[b]? = some cellB) (hobj : cellB.vm.isStatics = false) (hcls : s.vm.findClass C = some cellB.cls)
    {g : JFrame} (hg : g.method = m) (hsize : g.locals.size = c.maxLocals) {argsL rest : List Value} (hlen : ∀ sig, parseMethodDescriptor y.desc = some sig → argsL.length = sig.parameters.length)
    (hstack : g.stack = argsL.reverse ++ .ref b :: rest) (hW : 2 * g.monitorRoom + (rest.map fun v => v.category).sum ≤ W9) (hdg : decode c.code g.pc = .ok (.invokevirtual index, 3))
    (hpre : ∀ vm₁, s.WarmedH vm₁ → Pre ⟨T.setVm vm₁, locs, cells, slots⟩ (Value.ref b :: argsL).toArray) :
    (∃ (v : Option Value) (vm₁ : Vm) (B : Pt), s.WarmedH vm₁ ∧ Stand p l e R s m args below meth c B.U B.locs B.cells B.slots ∧ Post ⟨T.setVm vm₁, locs, cells, slots⟩ (Value.ref b :: argsL).toArray v B ∧
      ∀ target, Steps p.tables e below (B.U.setTop { g with pc := g.pc + 3, stack := v.toList ++ rest }) target → Steps p.tables e below (T.setTop g) target) ∨
    (∃ (q : Addr) (vm₁ : Vm) (B : Pt), s.WarmedH vm₁ ∧ Stand p l e R s m args below meth c B.U B.locs B.cells B.slots ∧ PostX ⟨T.setVm vm₁, locs, cells, slots⟩ (Value.ref b :: argsL).toArray q B ∧
      Steps p.tables e below (T.setTop g) ((B.U.setTop { g with stack := rest }).pushFrame (.throwing q))) := by
  obtain ⟨mk, methM, hnamed, hmethM, hstM, habM⟩ := Cond.instanceMethod_spec hinst
  obtain ⟨m8, methM', cM, hn8, hmethM', -, -, -, -, -, -, hsigM⟩ := Cond.codeWith_spec hcode
  cases Option.some.inj (hn8.symm.trans hnamed)
  cases hmethM.symm.trans hmethM'
  obtain ⟨c2, r2, m2, q1, q2, q3, q4, kP, hkP, hkPi⟩ := Cond.selects_spec hsel
  cases hcls.symm.trans q1
  cases (State.methodFound?_of_named hnamed hy).symm.trans q2
  cases hnamed.symm.trans q3
  have hselP : selectMethod e.platform s.vm cellB.cls mk = .method mk := by rw [Launch.admits_selectMethod X.admits]; exact q4
  obtain ⟨vm₁, X₁, hstep₁⟩ := X.invokevirtual hexec hown hlink hnamed hmethM hstM hkP hkPi hy (a := b) (cell := cellB) hcell
    (fun z h => by rw [h] at hobj; cases hobj) hselP hmethM habM hkP hkPi (g := g) hg (argsL := argsL) (rest := rest) (hlen _ hsigM) hstack hdg
  rcases hK m meth c ⟨T.setVm vm₁, locs, cells, slots⟩ { g with stack := rest } (.invokevirtual index) mk (Value.ref b :: argsL).toArray X₁ hg hsize hdg hW (X₁.named hnamed) (hpre vm₁ X₁.warmed) with ⟨v, B, X', hpost, hsteps⟩ | ⟨q, B, X', hpost, hsteps⟩
  · exact Or.inl ⟨v, vm₁, B, X₁.warmed, X', hpost, fun target h => hstep₁ _ fun acts => by rw [doInvoke_state]; exact hsteps.trans h⟩
  · exact Or.inr ⟨q, vm₁, B, X₁.warmed, X', hpost, hstep₁ _ fun acts => by rw [doInvoke_state]; exact hsteps⟩
theorem vx_callSX (X : Stand p l e R s m args below meth c T locs cells slots) (hexec : p.tables.exec = Jvm.exec) {own : String} {index : Nat} {y : MethodName} {bytes : ByteArray} {maxL : Nat} {ret : Option FieldType} {hh : List (Nat × Nat × Nat × Nat)}
    (hown : s.vm.findClass own = some m.cls) (hlink : (Cond.methodLink own index y).before args s = true) (hstat : (Cond.static y).before args s = true) (hinit : (Cond.initialized y.cls).before args s = true)
    (hcode : (Cond.codeWith y bytes maxL ret hh).before args s = true) (hy : y.cls ≠ "java/lang/invoke/MethodHandle" ∧ y.cls ≠ "java/lang/invoke/VarHandle")
    {W9 : Nat} {Pre : Pt → Array Value → Prop} {Post : Pt → Array Value → Option Value → Pt → Prop} {PostX : Pt → Array Value → Addr → Pt → Prop} (hK : vx_Back l R p e below s args y 3 W9 Pre Post PostX)
    {g : JFrame} (hg : g.method = m) (hsize : g.locals.size = c.maxLocals) {argsL rest : List Value} (hlen : ∀ sig, parseMethodDescriptor y.desc = some sig → argsL.length = sig.parameters.length)
    (hstack : g.stack = argsL.reverse ++ rest) (hW : 2 * g.monitorRoom + (rest.map fun v => v.category).sum ≤ W9) (hdg : decode c.code g.pc = .ok (.invokestatic index, 3))
    (hpre : ∀ vm₁, s.WarmedH vm₁ → Pre ⟨T.setVm vm₁, locs, cells, slots⟩ argsL.toArray) :
    (∃ (v : Option Value) (vm₁ : Vm) (B : Pt), s.WarmedH vm₁ ∧ Stand p l e R s m args below meth c B.U B.locs B.cells B.slots ∧ Post ⟨T.setVm vm₁, locs, cells, slots⟩ argsL.toArray v B ∧
      ∀ target, Steps p.tables e below (B.U.setTop { g with pc := g.pc + 3, stack := v.toList ++ rest }) target → Steps p.tables e below (T.setTop g) target) ∨
    (∃ (q : Addr) (vm₁ : Vm) (B : Pt), s.WarmedH vm₁ ∧ Stand p l e R s m args below meth c B.U B.locs B.cells B.slots ∧ PostX ⟨T.setVm vm₁, locs, cells, slots⟩ argsL.toArray q B ∧
      Steps p.tables e below (T.setTop g) ((B.U.setTop { g with stack := rest }).pushFrame (.throwing q))) := by
  obtain ⟨mk, methM, cM, hnamed, hmethM, -, -, -, -, -, -, hsigM⟩ := Cond.codeWith_spec hcode
  have hstatic : methM.isStatic = true := Cond.static_spec hnamed hmethM hstat
  obtain ⟨kP, hkP, -⟩ := className_of_methodNamed hnamed
  have hinitP : kP.init = .initialized := Cond.initialized_spec (findClass_of_methodNamed hnamed) hkP hinit
  obtain ⟨vm₁, X₁, hstep₁⟩ := X.invokestatic hexec hown hlink hnamed hmethM hstatic hkP hinitP hy (g := g) hg (argsL := argsL) (rest := rest) (hlen _ hsigM) hstack hdg
  rcases hK m meth c ⟨T.setVm vm₁, locs, cells, slots⟩ { g with stack := rest } (.invokestatic index) mk argsL.toArray X₁ hg hsize hdg hW (X₁.named hnamed) (hpre vm₁ X₁.warmed) with ⟨v, B, X', hpost, hsteps⟩ | ⟨q, B, X', hpost, hsteps⟩
  · exact Or.inl ⟨v, vm₁, B, X₁.warmed, X', hpost, fun target h => hstep₁ _ fun acts => by rw [doInvoke_state]; exact hsteps.trans h⟩
  · exact Or.inr ⟨q, vm₁, B, X₁.warmed, X', hpost, hstep₁ _ fun acts => by rw [doInvoke_state]; exact hsteps⟩
theorem vx_callVW (X : Stand p l e R s m args below meth c T locs cells slots) (hexec : p.tables.exec = Jvm.exec) {own C : String} {index : Nat} {y : MethodName} {bytes : ByteArray} {maxL : Nat} {ret : Option FieldType} {hh : List (Nat × Nat × Nat × Nat)}
    (hown : s.vm.findClass own = some m.cls) (hlink : (Cond.methodLink own index y).before args s = true) (hinst : (Cond.instanceMethod y).before args s = true) (hsel : (Cond.selects C y y).before args s = true)
    (hcode : (Cond.codeWith y bytes maxL ret hh).before args s = true) (hy : y.cls ≠ "java/lang/invoke/MethodHandle" ∧ y.cls ≠ "java/lang/invoke/VarHandle")
    {W9 : Nat} {Pre : Pt → Array Value → Prop} {Post : Pt → Array Value → Option Value → Pt → Prop} (hK : Back l R p e below s args y 3 W9 Pre Post)
    {b : Addr} {cellB : Cell} (hcell : T.heap[b]? = some cellB) (hobj : cellB.vm.isStatics = false) (hcls : s.vm.findClass C = some cellB.cls)
    {g : JFrame} (hg : g.method = m) (hsize : g.locals.size = c.maxLocals) {argsL rest : List Value} (hlen : ∀ sig, parseMethodDescriptor y.desc = some sig → argsL.length = sig.parameters.length)
    (hstack : g.stack = argsL.reverse ++ .ref b :: rest) (hW : 2 * g.monitorRoom + (rest.map fun v => v.category).sum ≤ W9) (hdg : decode c.code g.pc = .ok (.invokevirtual index, 3))
    (hpre : ∀ vm₁, s.WarmedH vm₁ → Pre ⟨T.setVm vm₁, locs, cells, slots⟩ (Value.ref b :: argsL).toArray) :
    ∃ (v : Option Value) (vm₁ : Vm) (B : Pt), s.WarmedH vm₁ ∧ Stand p l e R s m args below meth c B.U B.locs B.cells B.slots ∧ Post ⟨T.setVm vm₁, locs, cells, slots⟩ (Value.ref b :: argsL).toArray v B ∧
      ∀ target, Steps p.tables e below (B.U.setTop { g with pc := g.pc + 3, stack := v.toList ++ rest }) target → Steps p.tables e below (T.setTop g) target := by
  obtain ⟨mk, methM, hnamed, hmethM, hstM, habM⟩ := Cond.instanceMethod_spec hinst
  obtain ⟨m8, methM', cM, hn8, hmethM', -, -, -, -, -, -, hsigM⟩ := Cond.codeWith_spec hcode
  cases Option.some.inj (hn8.symm.trans hnamed)
  cases hmethM.symm.trans hmethM'
  obtain ⟨c2, r2, m2, q1, q2, q3, q4, kP, hkP, hkPi⟩ := Cond.selects_spec hsel
  cases hcls.symm.trans q1
  cases (State.methodFound?_of_named hnamed hy).symm.trans q2
  cases hnamed.symm.trans q3
  have hselP : selectMethod e.platform s.vm cellB.cls mk = .method mk := by rw [Launch.admits_selectMethod X.admits]; exact q4
  obtain ⟨vm₁, X₁, hstep₁⟩ := X.invokevirtual hexec hown hlink hnamed hmethM hstM hkP hkPi hy (a := b) (cell := cellB) hcell
    (fun z h => by rw [h] at hobj; cases hobj) hselP hmethM habM hkP hkPi (g := g) hg (argsL := argsL) (rest := rest) (hlen _ hsigM) hstack hdg
  obtain ⟨v, B, X', hpost, hsteps⟩ := hK m meth c ⟨T.setVm vm₁, locs, cells, slots⟩ { g with stack := rest } (.invokevirtual index) mk (Value.ref b :: argsL).toArray X₁ hg hsize hdg hW (X₁.named hnamed) (hpre vm₁ X₁.warmed)
  exact ⟨v, vm₁, B, X₁.warmed, X', hpost, fun target h => hstep₁ _ fun acts => by rw [doInvoke_state]; exact hsteps.trans h⟩
abbrev vx_CVW (R : Room) (s : State) (args : Array Value) (own C : String) (index : Nat) (y : MethodName) (bytes : ByteArray) (maxL : Nat) (ret : Option FieldType) (hh : List (Nat × Nat × Nat × Nat)) (ws : List Cond) (rm : Room) (mc ms n : Nat) : Prop :=
  (rm.cells = mc ∧ rm.slots = ms ∧ rm.frames + 1 ≤ R.frames ∧ 8 + (maxL + 11) + rm.locals ≤ R.locals ∧ (∀ w ∈ ws, ∀ (a' : Array Value) (U : State), s.WarmedH U.vm → w.before a' U = true) ∧ Cond.codeWith y bytes maxL ret hh ∈ ws) ∧
  (Cond.codeWith y bytes maxL ret hh).before args s = true ∧ (Cond.initialized y.cls).before args s = true ∧ (y.cls ≠ "java/lang/invoke/MethodHandle" ∧ y.cls ≠ "java/lang/invoke/VarHandle") ∧
  (∀ sig, parseMethodDescriptor y.desc = some sig → n = sig.parameters.length) ∧ (Cond.methodLink own index y).before args s = true ∧ (Cond.instanceMethod y).before args s = true ∧ (Cond.selects C y y).before args s = true
theorem vx_cwVW {own C : String} {index maxL mc ms : Nat} {y : MethodName} {bytes : ByteArray} {ret : Option FieldType} {hh : List (Nat × Nat × Nat × Nat)} {Ts ws ws' : List Cond} {rm : Room} (n : Nat) (ht : ∀ w ∈ Ts, w.before args s = true) (hT : GoodIn Ts (wsV own index C y ws)) (hw : ws = Cond.codeWith y bytes maxL ret hh :: ws') (hrc : rm.cells = mc) (hrs : rm.slots = ms)
    (hd : y.cls = C ∧ y.cls ≠ "java/lang/invoke/MethodHandle" ∧ y.cls ≠ "java/lang/invoke/VarHandle" ∧ (parseMethodDescriptor y.desc).map (fun d => d.parameters.length) = some n) (hR : rm.frames + 1 ≤ R.frames ∧ 8 + (maxL + 11) + rm.locals ≤ R.locals) :
    vx_CVW R s args own C index y bytes maxL ret hh ws rm mc ms n := by
  obtain ⟨hC, hd⟩ := hd
  subst hC
  have ok : ∀ w ∈ wsV own index y.cls y ws, w.before args s = true := fun w h => ht w (hT w h).1
  have hG : GoodIn Ts ws := fun w h => hT w (by unfold wsV; exact List.mem_append_right _ h)
  have hc : Cond.codeWith y bytes maxL ret hh ∈ ws := by rw [hw]; exact List.mem_cons_self
  refine ⟨⟨hrc, hrs, hR.1, hR.2, pay_in ht hG, hc⟩, ht _ (hG _ hc).1, ok _ (by simp [wsV]), ⟨hd.1, hd.2.1⟩, fun sig h => ?_, ok _ (by simp [wsV]), ok _ (by simp [wsV]), ok _ (by simp [wsV])⟩
  have h2 := hd.2.2
  rw [h] at h2
  exact (Option.some.inj h2).symm
theorem vx_runVW {y : MethodName} {bytes cc : ByteArray} {maxL nL mc ms n index : Nat} {ret : Option FieldType} {hh : List (Nat × Nat × Nat × Nat)} {ws : List Cond} {rm : Room} {Pc : Array Value → State → Prop} {Qc : Array Value → State → Outcome → State → Prop} {free : Addr → Prop} {Ts : List Cond} {own C : String} {b : Addr} {As rest : List Value} {g : JFrame}
    (S : CallFix p m c cc nL s args Ts own) (hM : Met l y ws rm Pc Qc mc ms free) (cw : vx_CVW R s args own C index y bytes maxL ret hh ws rm mc ms n) (hp : PreV s H C b Pc As)
    (hg : g.method = m) (hn : As.length = n) (hsize : g.locals.size = nL) (hstack : g.stack = As.reverse ++ .ref b :: rest) (hW : 2 * g.monitorRoom + (rest.map fun v => v.category).sum ≤ 8) (hdg : decode cc g.pc = .ok (.invokevirtual index, 3)) (hf : cells + mc ≤ R.cells ∧ slots + ms ≤ R.slots) :
    va_Run p l e R s m args below meth c H locs cells slots mc ms g rest (Qc (Value.ref b :: As).toArray) free := by
  obtain ⟨⟨hrc, hrs, hfr, hlo, hws, hcw⟩, hcode, hini, hy, hlen, hl, hin, hse⟩ := cw
  have hK : Back l R p e below s args y 3 8 (PreOf R mc ms Pc) (PostOf Qc mc ms free) := va_backW (hh := hh) (bytes := bytes) (maxL := maxL) (ret := ret) hM hp.1 hrc hrs hfr hlo hws hcw (fun a' U hW => word_at hW (Or.inl (by first | rfl | simp [Cond.onTables, Cond.keeps, Cond.steady])) hini)
  obtain ⟨hx, hb, hml, ho, -⟩ := S
  obtain ⟨-, ⟨cellB, hcB, hoB, hclB⟩, hPc⟩ := hp
  intro T hT X
  obtain ⟨v, vm₁, ⟨U', l2, c2, s2⟩, hW₁, X', ⟨g', mk, t, L, e1, e2, hq, h1, hL, h2, h3⟩, st⟩ := vx_callVW X hx (C := C) (hh := hh) (bytes := bytes) (maxL := maxL) (ret := ret) ho hl hin hse hcode hy hK (by rw [hT]; exact hcB) hoB hclB hg (hsize.trans hml.symm) (argsL := As) (rest := rest) (fun sig h => hn.trans (hlen sig h)) hstack hW (by rw [hb]; exact hdg)
    (fun vm₁ hW₁ => ⟨hf.1, hf.2, hPc (T.setVm vm₁) hT hW₁⟩)
  dsimp only [Pt.U, Pt.locs, Pt.cells, Pt.slots] at X' e1 e2 h1 h2 h3 st
  subst h1; subst h2; subst h3
  exact ⟨v, (T.setVm vm₁).calling g' mk (Value.ref b :: As).toArray, t, U', L, hT, X', hL, e1, e2, hq, st⟩
section
variable {y : MethodName} {bytes cc : ByteArray} {maxL nL mc ms n index : Nat} {ret : Option FieldType} {ws : List Cond} {rm : Room} {Pc : Array Value → State → Prop} {Qc : Array Value → State → Outcome → State → Prop} {XC : String → State → State → Prop} {free : Addr → Prop} {Ts : List Cond} {own C : String} {b : Addr} {As rest : List Value} {g : JFrame}
theorem vx_runVX {hh : List (Nat × Nat × Nat × Nat)} (S : CallFix p m c cc nL s args Ts own) (hM : vx_Met l y ws rm Pc Qc XC mc ms free) (cw : vx_CVW R s args own C index y bytes maxL ret hh ws rm mc ms n) (hp : PreV s H C b Pc As)
    (hg : g.method = m) (hn : As.length = n) (hsize : g.locals.size = nL) (hstack : g.stack = As.reverse ++ .ref b :: rest) (hW : 2 * g.monitorRoom + (rest.map fun v => v.category).sum ≤ 8) (hdg : decode cc g.pc = .ok (.invokevirtual index, 3)) (hf : cells + mc ≤ R.cells ∧ slots + ms ≤ R.slots) :
    vx_Run p l e R s m args below meth c H locs cells slots mc ms g rest (Qc (Value.ref b :: As).toArray) XC free := by
  obtain ⟨⟨hrc, hrs, hfr, hlo, hws, hcw⟩, hcode, hini, hy, hlen, hl, hin, hse⟩ := cw
  have hK : vx_Back l R p e below s args y 3 8 (PreOf R mc ms Pc) (PostOf Qc mc ms free) (vx_Post XC mc ms free) := vx_backW (hh := hh) (bytes := bytes) (maxL := maxL) (ret := ret) hM hp.1 hrc hrs hfr hlo hws hcw (fun a' U hW => word_at hW (Or.inl (by first | rfl | simp [Cond.onTables, Cond.keeps, Cond.steady])) hini)
  obtain ⟨hx, hb, hml, ho, -⟩ := S
  obtain ⟨-, ⟨cellB, hcB, hoB, hclB⟩, hPc⟩ := hp
  intro T hT X
  rcases vx_callVX X hx (C := C) (hh := hh) (bytes := bytes) (maxL := maxL) (ret := ret) ho hl hin hse hcode hy hK (by rw [hT]; exact hcB) hoB hclB hg (hsize.trans hml.symm) (argsL := As) (rest := rest) (fun sig h => hn.trans (hlen sig h)) hstack hW (by rw [hb]; exact hdg)
    (fun vm₁ hW₁ => ⟨hf.1, hf.2, hPc (T.setVm vm₁) hT hW₁⟩) with ⟨v, vm₁, ⟨U', l2, c2, s2⟩, hW₁, X', ⟨g', mk, t, L, e1, e2, hq, h1, hL, h2, h3⟩, st⟩ | ⟨q, vm₁, ⟨U', l2, c2, s2⟩, hW₁, X', ⟨g', mk, t, L, E, ce, e1, e2, hq, hce, hcv, hcl, h1, hL, h2, h3⟩, st⟩
  · dsimp only [Pt.U, Pt.locs, Pt.cells, Pt.slots] at X' e1 e2 h1 h2 h3 st
    subst h1; subst h2; subst h3
    exact Or.inl ⟨v, (T.setVm vm₁).calling g' mk (Value.ref b :: As).toArray, t, U', L, hT, X', hL, e1, e2, hq, st⟩
  · dsimp only [Pt.U, Pt.locs, Pt.cells, Pt.slots] at X' e1 e2 h1 h2 h3 st hcl
    subst h1; subst h2; subst h3
    exact Or.inr ⟨q, (T.setVm vm₁).calling g' mk (Value.ref b :: As).toArray, t, U', L, E, ce, hT, X', hL, e1, e2, hq, hce, hcv, vx_cls hW₁ hcl, st⟩
theorem vx_runSX {hh : List (Nat × Nat × Nat × Nat)} (S : CallFix p m c cc nL s args Ts own) (hM : vx_Met l y ws rm Pc Qc XC mc ms free) (cw : vx_CSW R s args own index y bytes maxL ret hh ws rm mc ms n) (hp : PreS s H Pc As)
    (hg : g.method = m) (hn : As.length = n) (hsize : g.locals.size = nL) (hstack : g.stack = As.reverse ++ rest) (hW : 2 * g.monitorRoom + (rest.map fun v => v.category).sum ≤ 8) (hdg : decode cc g.pc = .ok (.invokestatic index, 3)) (hf : cells + mc ≤ R.cells ∧ slots + ms ≤ R.slots) :
    vx_Run p l e R s m args below meth c H locs cells slots mc ms g rest (Qc As.toArray) XC free := by
  obtain ⟨⟨hrc, hrs, hfr, hlo, hws, hcw⟩, hcode, hini, hy, hlen, hl, hstt⟩ := cw
  have hK : vx_Back l R p e below s args y 3 8 (PreOf R mc ms Pc) (PostOf Qc mc ms free) (vx_Post XC mc ms free) := vx_backW (hh := hh) (bytes := bytes) (maxL := maxL) (ret := ret) hM hp.1 hrc hrs hfr hlo hws hcw (fun a' U hW => word_at hW (Or.inl (by first | rfl | simp [Cond.onTables, Cond.keeps, Cond.steady])) hini)
  obtain ⟨hx, hb, hml, ho, -⟩ := S
  intro T hT X
  rcases vx_callSX X hx (hh := hh) (bytes := bytes) (maxL := maxL) (ret := ret) ho hl hstt hini hcode hy hK hg (hsize.trans hml.symm) (argsL := As) (rest := rest) (fun sig h => hn.trans (hlen sig h)) hstack hW (by rw [hb]; exact hdg)
    (fun vm₁ hW₁ => ⟨hf.1, hf.2, hp.2 (T.setVm vm₁) hT hW₁⟩) with ⟨v, vm₁, ⟨U', l2, c2, s2⟩, hW₁, X', ⟨g', mk, t, L, e1, e2, hq, h1, hL, h2, h3⟩, st⟩ | ⟨q, vm₁, ⟨U', l2, c2, s2⟩, hW₁, X', ⟨g', mk, t, L, E, ce, e1, e2, hq, hce, hcv, hcl, h1, hL, h2, h3⟩, st⟩
  · dsimp only [Pt.U, Pt.locs, Pt.cells, Pt.slots] at X' e1 e2 h1 h2 h3 st
    subst h1; subst h2; subst h3
    exact Or.inl ⟨v, (T.setVm vm₁).calling g' mk As.toArray, t, U', L, hT, X', hL, e1, e2, hq, st⟩
  · dsimp only [Pt.U, Pt.locs, Pt.cells, Pt.slots] at X' e1 e2 h1 h2 h3 st hcl
    subst h1; subst h2; subst h3
    exact Or.inr ⟨q, (T.setVm vm₁).calling g' mk As.toArray, t, U', L, E, ce, hT, X', hL, e1, e2, hq, hce, hcv, vx_cls hW₁ hcl, st⟩
end
end VXH
theorem vx_ofWH {l : Launch} {y : MethodName} {ws ws' : List Cond} {rm : Room} {Pc : Array Value → State → Prop} {Qc : Array Value → State → Outcome → State → Prop} {XC : String → State → State → Prop} {mc ms : Nat} {free : Addr → Prop} {cc : ByteArray} {maxL : Nat} {ret : Option FieldType} {hh : List (Nat × Nat × Nat × Nat)}
    (hy : plainName y.cls = true) (hw : ws = Cond.codeWith y cc maxL ret hh :: ws')
    (body : ∀ p e s m args below meth c s₁, BodyLoose p l y (headSpec ws rm) cc maxL ret e s m args below meth c s₁ → c.maxLocals = maxL → Pc args s →
      W p l e (headSpec ws rm).room s m args below meth c s.heap [] 0 0 (vx_MQ below Qc XC args s mc ms free) (entryFrame m args maxL)) : vx_Met l y ws rm Pc Qc XC mc ms free := by
  refine MetFree.of_bodyS (code := cc) (maxLocals := maxL) (ret := ret) hy ?_ ?_
  · intro args s m h hn
    obtain ⟨m9, meth, c, hn9, h1, h2, h3, h4, -, h5, h6, -⟩ := Cond.codeWith_spec (atoms_spec (ws := ws) h _ (by rw [hw]; exact List.mem_cons_self))
    cases hn.symm.trans hn9
    exact ⟨meth, c, h1, h2, h3, h4, h5, h6⟩
  · intro p e s m args below meth c s₁ B hml hP _
    have hh0 : s₁.heap = s.heap := by rw [B.state]; rfl
    obtain ⟨t, a1, o, b1, b2, b3⟩ := body p e s m args below meth c s₁ B hml hP s₁ hh0 (Stand.of_body B)
    exact ⟨t, o, a1, b1, b2, b3⟩
/-! ===== END ===== -/
end
section
/-! ===== BEGIN printed: names, fields, word lists, decode rows ===== -/
def RX0 : String := "Payoutnet$Journal"
def TX0 : u_T := fun k => match k with
  | 0 => ("Payoutnet$Journal", "carried", "[I", true)
  | 1 => ("Payoutnet$Journal", "seller", "[I", true)
  | 2 => ("Payoutnet$Journal", "cents", "[I", true)
  | _ => ("Payoutnet$Journal", "count", "I", false)
def tyX0 : Nat → FieldType := fun k => match k with
  | 0 => .array .int
  | 1 => .array .int
  | 2 => .array .int
  | _ => .int
abbrev wsX00 : List Cond := u_ws RX0 TX0 4
theorem nmX0 : ∀ a, a < 4 → ∀ b, b < 4 → a ≠ b → (TX0 a).2.1 ≠ (TX0 b).2.1 := by decide +kernel
theorem tyX0_ok : ∀ k, k < 4 → parseFieldDescriptor (TX0 k).2.2.1 = some (tyX0 k) := by decide +kernel
abbrev cX0_init : ByteArray := prog_2_method_1_code
def yX0_init : MethodName := ⟨RX0, "<init>", "()V"⟩
abbrev cX0_enter : ByteArray := prog_2_method_2_code
def yX0_enter : MethodName := ⟨RX0, "enter", "(II)V"⟩
abbrev cX0_carryForward : ByteArray := prog_2_method_3_code
def yX0_carryForward : MethodName := ⟨RX0, "carryForward", "()V"⟩
abbrev cX0_sumOf : ByteArray := prog_2_method_4_code
def yX0_sumOf : MethodName := ⟨RX0, "sumOf", "(I)I"⟩
def RX1 : String := "Payoutnet$Payouts"
def TX1 : u_T := fun k => match k with
  | 0 => ("Payoutnet$Payouts", "seller", "[I", false)
  | 1 => ("Payoutnet$Payouts", "cents", "[I", false)
  | 2 => ("Payoutnet$Payouts", "failed", "[I", false)
  | _ => ("Payoutnet$Payouts", "count", "I", false)
def tyX1 : Nat → FieldType := fun k => match k with
  | 0 => .array .int
  | 1 => .array .int
  | 2 => .array .int
  | _ => .int
abbrev wsX10 : List Cond := u_ws RX1 TX1 4
theorem nmX1 : ∀ a, a < 4 → ∀ b, b < 4 → a ≠ b → (TX1 a).2.1 ≠ (TX1 b).2.1 := by decide +kernel
theorem tyX1_ok : ∀ k, k < 4 → parseFieldDescriptor (TX1 k).2.2.1 = some (tyX1 k) := by decide +kernel
abbrev cX1_init : ByteArray := prog_3_method_1_code
def yX1_init : MethodName := ⟨RX1, "<init>", "()V"⟩
abbrev cX1_enter : ByteArray := prog_3_method_2_code
def yX1_enter : MethodName := ⟨RX1, "enter", "(II)Z"⟩
abbrev cX1_grow : ByteArray := prog_3_method_3_code
def yX1_grow : MethodName := ⟨RX1, "grow", "()V"⟩
def RX2 : String := "Payoutnet$Sales"
def TX2 : u_T := fun k => match k with
  | 0 => ("Payoutnet$Sales", "seller", "[I", true)
  | 1 => ("Payoutnet$Sales", "share", "[F", true)
  | 2 => ("Payoutnet$Sales", "taxThousandths", "[I", true)
  | 3 => ("Payoutnet$Sales", "unrefunded", "[I", true)
  | 4 => ("Payoutnet$Sales", "feeKept", "[I", true)
  | 5 => ("Payoutnet$Sales", "held", "[I", true)
  | 6 => ("Payoutnet$Sales", "heldUntil", "[I", true)
  | _ => ("Payoutnet$Sales", "count", "I", false)
def tyX2 : Nat → FieldType := fun k => match k with
  | 0 => .array .int
  | 1 => .array .float
  | 2 => .array .int
  | 3 => .array .int
  | 4 => .array .int
  | 5 => .array .int
  | 6 => .array .int
  | _ => .int
abbrev wsX20 : List Cond := u_ws RX2 TX2 8
theorem nmX2 : ∀ a, a < 8 → ∀ b, b < 8 → a ≠ b → (TX2 a).2.1 ≠ (TX2 b).2.1 := by decide +kernel
theorem tyX2_ok : ∀ k, k < 8 → parseFieldDescriptor (TX2 k).2.2.1 = some (tyX2 k) := by decide +kernel
abbrev cX2_init : ByteArray := prog_4_method_1_code
def yX2_init : MethodName := ⟨RX2, "<init>", "()V"⟩
abbrev cX2_enter : ByteArray := prog_4_method_2_code
def yX2_enter : MethodName := ⟨RX2, "enter", "(II)I"⟩
abbrev cX2_heldFor : ByteArray := prog_4_method_3_code
def yX2_heldFor : MethodName := ⟨RX2, "heldFor", "(I)I"⟩
def RX3 : String := "Payoutnet$Shops"
def TX3 : u_T := fun k => match k with
  | 0 => ("Payoutnet$Shops", "owner", "[I", true)
  | 1 => ("Payoutnet$Shops", "step", "[I", true)
  | 2 => ("Payoutnet$Shops", "weekday", "[I", true)
  | 3 => ("Payoutnet$Shops", "least", "[I", true)
  | 4 => ("Payoutnet$Shops", "reserveThousandths", "[I", true)
  | 5 => ("Payoutnet$Shops", "reserveDays", "[I", true)
  | 6 => ("Payoutnet$Shops", "balance", "[I", true)
  | 7 => ("Payoutnet$Shops", "paid", "[I", true)
  | _ => ("Payoutnet$Shops", "count", "I", false)
def tyX3 : Nat → FieldType := fun k => match k with
  | 0 => .array .int
  | 1 => .array .int
  | 2 => .array .int
  | 3 => .array .int
  | 4 => .array .int
  | 5 => .array .int
  | 6 => .array .int
  | 7 => .array .int
  | _ => .int
abbrev wsX30 : List Cond := u_ws RX3 TX3 9
theorem nmX3 : ∀ a, a < 9 → ∀ b, b < 9 → a ≠ b → (TX3 a).2.1 ≠ (TX3 b).2.1 := by decide +kernel
theorem tyX3_ok : ∀ k, k < 9 → parseFieldDescriptor (TX3 k).2.2.1 = some (tyX3 k) := by decide +kernel
abbrev cX3_init : ByteArray := prog_5_method_1_code
def yX3_init : MethodName := ⟨RX3, "<init>", "()V"⟩
abbrev cX3_enter : ByteArray := prog_5_method_2_code
def yX3_enter : MethodName := ⟨RX3, "enter", "(I)I"⟩
def RX4 : String := "Payoutnet"
def TX4 : u_T := fun k => match k with
  | 0 => ("Payoutnet", "shops", "LPayoutnet$Shops;", true)
  | 1 => ("Payoutnet", "sales", "LPayoutnet$Sales;", true)
  | 2 => ("Payoutnet", "paidOut", "LPayoutnet$Payouts;", true)
  | 3 => ("Payoutnet", "journal", "LPayoutnet$Journal;", true)
  | 4 => ("Payoutnet", "shares", "[F", true)
  | 5 => ("Payoutnet", "taxThousandths", "I", false)
  | 6 => ("Payoutnet", "today", "I", false)
  | 7 => ("Payoutnet", "received", "I", false)
  | 8 => ("Payoutnet", "refunded", "I", false)
  | 9 => ("Payoutnet", "fees", "I", false)
  | _ => ("Payoutnet", "taxes", "I", false)
def tyX4 : Nat → FieldType := fun k => match k with
  | 0 => .object "Payoutnet$Shops"
  | 1 => .object "Payoutnet$Sales"
  | 2 => .object "Payoutnet$Payouts"
  | 3 => .object "Payoutnet$Journal"
  | 4 => .array .float
  | 5 => .int
  | 6 => .int
  | 7 => .int
  | 8 => .int
  | 9 => .int
  | _ => .int
abbrev wsX40 : List Cond := u_ws RX4 TX4 11
theorem nmX4 : ∀ a, a < 11 → ∀ b, b < 11 → a ≠ b → (TX4 a).2.1 ≠ (TX4 b).2.1 := by decide +kernel
theorem tyX4_ok : ∀ k, k < 11 → parseFieldDescriptor (TX4 k).2.2.1 = some (tyX4 k) := by decide +kernel
abbrev cX4_init : ByteArray := prog_1_method_1_code
def yX4_init : MethodName := ⟨RX4, "<init>", "()V"⟩
abbrev cX4_addSeller : ByteArray := prog_1_method_2_code
def yX4_addSeller : MethodName := ⟨RX4, "addSeller", "(I)I"⟩
abbrev cX4_verify : ByteArray := prog_1_method_3_code
def yX4_verify : MethodName := ⟨RX4, "verify", "(II)I"⟩
abbrev cX4_setPayouts : ByteArray := prog_1_method_4_code
def yX4_setPayouts : MethodName := ⟨RX4, "setPayouts", "(III)V"⟩
abbrev cX4_setReserve : ByteArray := prog_1_method_5_code
def yX4_setReserve : MethodName := ⟨RX4, "setReserve", "(III)V"⟩
abbrev cX4_setShare : ByteArray := prog_1_method_6_code
def yX4_setShare : MethodName := ⟨RX4, "setShare", "(II)I"⟩
abbrev cX4_setTax : ByteArray := prog_1_method_7_code
def yX4_setTax : MethodName := ⟨RX4, "setTax", "(I)I"⟩
abbrev cX4_sell : ByteArray := prog_1_method_8_code
def yX4_sell : MethodName := ⟨RX4, "sell", "(III)I"⟩
abbrev cX4_order : ByteArray := prog_1_method_9_code
def yX4_order : MethodName := ⟨RX4, "order", "(III)I"⟩
abbrev cX4_refund : ByteArray := prog_1_method_10_code
def yX4_refund : MethodName := ⟨RX4, "refund", "(IIZ)I"⟩
abbrev cX4_pass : ByteArray := prog_1_method_11_code
def yX4_pass : MethodName := ⟨RX4, "pass", "(I)I"⟩
abbrev cX4_fail : ByteArray := prog_1_method_12_code
def yX4_fail : MethodName := ⟨RX4, "fail", "(I)I"⟩
abbrev cX4_today : ByteArray := prog_1_method_13_code
def yX4_today : MethodName := ⟨RX4, "today", "()I"⟩
abbrev cX4_payouts : ByteArray := prog_1_method_14_code
def yX4_payouts : MethodName := ⟨RX4, "payouts", "()I"⟩
abbrev cX4_payout : ByteArray := prog_1_method_15_code
def yX4_payout : MethodName := ⟨RX4, "payout", "(I)I"⟩
abbrev cX4_sellerOf : ByteArray := prog_1_method_16_code
def yX4_sellerOf : MethodName := ⟨RX4, "sellerOf", "(I)I"⟩
abbrev cX4_balance : ByteArray := prog_1_method_17_code
def yX4_balance : MethodName := ⟨RX4, "balance", "(I)I"⟩
abbrev cX4_balanceByEntries : ByteArray := prog_1_method_18_code
def yX4_balanceByEntries : MethodName := ⟨RX4, "balanceByEntries", "(I)I"⟩
abbrev cX4_reserve : ByteArray := prog_1_method_19_code
def yX4_reserve : MethodName := ⟨RX4, "reserve", "(I)I"⟩
abbrev cX4_paidTo : ByteArray := prog_1_method_20_code
def yX4_paidTo : MethodName := ⟨RX4, "paidTo", "(I)I"⟩
abbrev cX4_received : ByteArray := prog_1_method_21_code
def yX4_received : MethodName := ⟨RX4, "received", "()I"⟩
abbrev cX4_refunded : ByteArray := prog_1_method_22_code
def yX4_refunded : MethodName := ⟨RX4, "refunded", "()I"⟩
abbrev cX4_fees : ByteArray := prog_1_method_23_code
def yX4_fees : MethodName := ⟨RX4, "fees", "()I"⟩
abbrev cX4_taxes : ByteArray := prog_1_method_24_code
def yX4_taxes : MethodName := ⟨RX4, "taxes", "()I"⟩
abbrev cX4_requireSeller : ByteArray := prog_1_method_25_code
def yX4_requireSeller : MethodName := ⟨RX4, "requireSeller", "(I)V"⟩
abbrev cX4_requireKind : ByteArray := prog_1_method_26_code
def yX4_requireKind : MethodName := ⟨RX4, "requireKind", "(I)V"⟩
abbrev cX4_requirePayout : ByteArray := prog_1_method_27_code
def yX4_requirePayout : MethodName := ⟨RX4, "requirePayout", "(I)V"⟩
abbrev cX4_requireBetween : ByteArray := prog_1_method_28_code
def yX4_requireBetween : MethodName := ⟨RX4, "requireBetween", "(III)V"⟩
abbrev cX4_requireRoomForSales : ByteArray := prog_1_method_29_code
def yX4_requireRoomForSales : MethodName := ⟨RX4, "requireRoomForSales", "(I)V"⟩
abbrev cX4_shareOf : ByteArray := prog_1_method_30_code
def yX4_shareOf : MethodName := ⟨RX4, "shareOf", "(I)F"⟩
abbrev cX4_feeOn : ByteArray := prog_1_method_31_code
def yX4_feeOn : MethodName := ⟨RX4, "feeOn", "(IF)I"⟩
abbrev cX4_partOf : ByteArray := prog_1_method_32_code
def yX4_partOf : MethodName := ⟨RX4, "partOf", "(II)I"⟩
abbrev cX4_bitsOf : ByteArray := prog_1_method_33_code
def yX4_bitsOf : MethodName := ⟨RX4, "bitsOf", "(F)I"⟩
abbrev cX4_settleParts : ByteArray := prog_1_method_34_code
def yX4_settleParts : MethodName := ⟨RX4, "settleParts", "(IIII)V"⟩
abbrev cX4_settle : ByteArray := prog_1_method_35_code
def yX4_settle : MethodName := ⟨RX4, "settle", "(III)I"⟩
abbrev cX4_post : ByteArray := prog_1_method_36_code
def yX4_post : MethodName := ⟨RX4, "post", "(II)V"⟩
abbrev cX4_endDay : ByteArray := prog_1_method_37_code
def yX4_endDay : MethodName := ⟨RX4, "endDay", "()V"⟩
abbrev cX4_releaseReserves : ByteArray := prog_1_method_38_code
def yX4_releaseReserves : MethodName := ⟨RX4, "releaseReserves", "()V"⟩
abbrev cX4_coverFromReserves : ByteArray := prog_1_method_39_code
def yX4_coverFromReserves : MethodName := ⟨RX4, "coverFromReserves", "(I)V"⟩
abbrev cX4_release : ByteArray := prog_1_method_40_code
def yX4_release : MethodName := ⟨RX4, "release", "(II)V"⟩
abbrev cX4_coverFromOwner : ByteArray := prog_1_method_41_code
def yX4_coverFromOwner : MethodName := ⟨RX4, "coverFromOwner", "(I)V"⟩
abbrev cX4_payIfDue : ByteArray := prog_1_method_42_code
def yX4_payIfDue : MethodName := ⟨RX4, "payIfDue", "(I)V"⟩
abbrev cX4_dueTo : ByteArray := prog_1_method_43_code
def yX4_dueTo : MethodName := ⟨RX4, "dueTo", "(I)I"⟩
def RX5 : String := "PayoutnetModel"
def TX5 : u_T := fun k => match k with
  | 0 => ("PayoutnetModel", "thrown", "I", false)
  | 1 => ("PayoutnetModel", "sellers", "I", false)
  | 2 => ("PayoutnetModel", "today", "I", false)
  | 3 => ("PayoutnetModel", "owners", "[I", true)
  | 4 => ("PayoutnetModel", "steps", "[I", true)
  | 5 => ("PayoutnetModel", "weekdays", "[I", true)
  | 6 => ("PayoutnetModel", "leasts", "[I", true)
  | 7 => ("PayoutnetModel", "thousandths", "[I", true)
  | 8 => ("PayoutnetModel", "reserveDays", "[I", true)
  | 9 => ("PayoutnetModel", "balances", "[I", true)
  | 10 => ("PayoutnetModel", "paidTo", "[I", true)
  | 11 => ("PayoutnetModel", "shares", "[F", true)
  | 12 => ("PayoutnetModel", "tax", "I", false)
  | 13 => ("PayoutnetModel", "sales", "I", false)
  | 14 => ("PayoutnetModel", "saleSellers", "[I", true)
  | 15 => ("PayoutnetModel", "amounts", "[I", true)
  | 16 => ("PayoutnetModel", "backs", "[I", true)
  | 17 => ("PayoutnetModel", "saleShares", "[F", true)
  | 18 => ("PayoutnetModel", "saleTaxes", "[I", true)
  | 19 => ("PayoutnetModel", "feesTaken", "[I", true)
  | 20 => ("PayoutnetModel", "feesBack", "[I", true)
  | 21 => ("PayoutnetModel", "held", "[I", true)
  | 22 => ("PayoutnetModel", "until", "[I", true)
  | 23 => ("PayoutnetModel", "payouts", "I", false)
  | 24 => ("PayoutnetModel", "sums", "[I", true)
  | 25 => ("PayoutnetModel", "paidSellers", "[I", true)
  | 26 => ("PayoutnetModel", "areFailed", "[Z", true)
  | 27 => ("PayoutnetModel", "received", "I", false)
  | 28 => ("PayoutnetModel", "refunded", "I", false)
  | 29 => ("PayoutnetModel", "fees", "I", false)
  | _ => ("PayoutnetModel", "taxes", "I", false)
def tyX5 : Nat → FieldType := fun k => match k with
  | 0 => .int
  | 1 => .int
  | 2 => .int
  | 3 => .array .int
  | 4 => .array .int
  | 5 => .array .int
  | 6 => .array .int
  | 7 => .array .int
  | 8 => .array .int
  | 9 => .array .int
  | 10 => .array .int
  | 11 => .array .float
  | 12 => .int
  | 13 => .int
  | 14 => .array .int
  | 15 => .array .int
  | 16 => .array .int
  | 17 => .array .float
  | 18 => .array .int
  | 19 => .array .int
  | 20 => .array .int
  | 21 => .array .int
  | 22 => .array .int
  | 23 => .int
  | 24 => .array .int
  | 25 => .array .int
  | 26 => .array .boolean
  | 27 => .int
  | 28 => .int
  | 29 => .int
  | _ => .int
abbrev wsX50 : List Cond := u_ws RX5 TX5 31
theorem nmX5 : ∀ a, a < 31 → ∀ b, b < 31 → a ≠ b → (TX5 a).2.1 ≠ (TX5 b).2.1 := by decide +kernel
theorem tyX5_ok : ∀ k, k < 31 → parseFieldDescriptor (TX5 k).2.2.1 = some (tyX5 k) := by decide +kernel
abbrev cX5_init : ByteArray := prog_7_method_1_code
def yX5_init : MethodName := ⟨RX5, "<init>", "()V"⟩
abbrev cX5_thrown : ByteArray := prog_7_method_2_code
def yX5_thrown : MethodName := ⟨RX5, "thrown", "()I"⟩
abbrev cX5_holds : ByteArray := prog_7_method_3_code
def yX5_holds : MethodName := ⟨RX5, "holds", "(I)Z"⟩
abbrev cX5_in : ByteArray := prog_7_method_4_code
def yX5_in : MethodName := ⟨RX5, "in", "(III)Z"⟩
abbrev cX5_isSeller : ByteArray := prog_7_method_5_code
def yX5_isSeller : MethodName := ⟨RX5, "isSeller", "(I)Z"⟩
abbrev cX5_isKind : ByteArray := prog_7_method_6_code
def yX5_isKind : MethodName := ⟨RX5, "isKind", "(I)Z"⟩
abbrev cX5_addSeller : ByteArray := prog_7_method_7_code
def yX5_addSeller : MethodName := ⟨RX5, "addSeller", "(I)I"⟩
abbrev cX5_verify : ByteArray := prog_7_method_8_code
def yX5_verify : MethodName := ⟨RX5, "verify", "(II)I"⟩
abbrev cX5_setPayouts : ByteArray := prog_7_method_9_code
def yX5_setPayouts : MethodName := ⟨RX5, "setPayouts", "(III)V"⟩
abbrev cX5_setReserve : ByteArray := prog_7_method_10_code
def yX5_setReserve : MethodName := ⟨RX5, "setReserve", "(III)V"⟩
abbrev cX5_setShare : ByteArray := prog_7_method_11_code
def yX5_setShare : MethodName := ⟨RX5, "setShare", "(II)I"⟩
abbrev cX5_setTax : ByteArray := prog_7_method_12_code
def yX5_setTax : MethodName := ⟨RX5, "setTax", "(I)I"⟩
abbrev cX5_feeOn : ByteArray := prog_7_method_13_code
def yX5_feeOn : MethodName := ⟨RX5, "feeOn", "(IF)I"⟩
abbrev cX5_settles : ByteArray := prog_7_method_14_code
def yX5_settles : MethodName := ⟨RX5, "settles", "(III)V"⟩
abbrev cX5_sell : ByteArray := prog_7_method_15_code
def yX5_sell : MethodName := ⟨RX5, "sell", "(III)I"⟩
abbrev cX5_many : ByteArray := prog_7_method_16_code
def yX5_many : MethodName := ⟨RX5, "many", "(I)I"⟩
abbrev cX5_order : ByteArray := prog_7_method_17_code
def yX5_order : MethodName := ⟨RX5, "order", "(III)I"⟩
abbrev cX5_refund : ByteArray := prog_7_method_18_code
def yX5_refund : MethodName := ⟨RX5, "refund", "(IIZ)I"⟩
abbrev cX5_releases : ByteArray := prog_7_method_19_code
def yX5_releases : MethodName := ⟨RX5, "releases", "()V"⟩
abbrev cX5_least : ByteArray := prog_7_method_20_code
def yX5_least : MethodName := ⟨RX5, "least", "(II)I"⟩
abbrev cX5_coversByReserves : ByteArray := prog_7_method_21_code
def yX5_coversByReserves : MethodName := ⟨RX5, "coversByReserves", "(I)V"⟩
abbrev cX5_coversByOthers : ByteArray := prog_7_method_22_code
def yX5_coversByOthers : MethodName := ⟨RX5, "coversByOthers", "(I)V"⟩
abbrev cX5_pays : ByteArray := prog_7_method_23_code
def yX5_pays : MethodName := ⟨RX5, "pays", "(I)V"⟩
abbrev cX5_ends : ByteArray := prog_7_method_24_code
def yX5_ends : MethodName := ⟨RX5, "ends", "()V"⟩
abbrev cX5_pass : ByteArray := prog_7_method_25_code
def yX5_pass : MethodName := ⟨RX5, "pass", "(I)I"⟩
abbrev cX5_isPayout : ByteArray := prog_7_method_26_code
def yX5_isPayout : MethodName := ⟨RX5, "isPayout", "(I)Z"⟩
abbrev cX5_fail : ByteArray := prog_7_method_27_code
def yX5_fail : MethodName := ⟨RX5, "fail", "(I)I"⟩
abbrev cX5_today : ByteArray := prog_7_method_28_code
def yX5_today : MethodName := ⟨RX5, "today", "()I"⟩
abbrev cX5_payouts : ByteArray := prog_7_method_29_code
def yX5_payouts : MethodName := ⟨RX5, "payouts", "()I"⟩
abbrev cX5_payout : ByteArray := prog_7_method_30_code
def yX5_payout : MethodName := ⟨RX5, "payout", "(I)I"⟩
abbrev cX5_sellerOf : ByteArray := prog_7_method_31_code
def yX5_sellerOf : MethodName := ⟨RX5, "sellerOf", "(I)I"⟩
abbrev cX5_balance : ByteArray := prog_7_method_32_code
def yX5_balance : MethodName := ⟨RX5, "balance", "(I)I"⟩
abbrev cX5_balanceByEntries : ByteArray := prog_7_method_33_code
def yX5_balanceByEntries : MethodName := ⟨RX5, "balanceByEntries", "(I)I"⟩
abbrev cX5_reserve : ByteArray := prog_7_method_34_code
def yX5_reserve : MethodName := ⟨RX5, "reserve", "(I)I"⟩
abbrev cX5_paidTo : ByteArray := prog_7_method_35_code
def yX5_paidTo : MethodName := ⟨RX5, "paidTo", "(I)I"⟩
abbrev cX5_received : ByteArray := prog_7_method_36_code
def yX5_received : MethodName := ⟨RX5, "received", "()I"⟩
abbrev cX5_refunded : ByteArray := prog_7_method_37_code
def yX5_refunded : MethodName := ⟨RX5, "refunded", "()I"⟩
abbrev cX5_fees : ByteArray := prog_7_method_38_code
def yX5_fees : MethodName := ⟨RX5, "fees", "()I"⟩
abbrev cX5_taxes : ByteArray := prog_7_method_39_code
def yX5_taxes : MethodName := ⟨RX5, "taxes", "()I"⟩
def RJx145de : String := "java/io/Serializable"
def TJx145de : u_T := fun k => match k with
  | _ => ("", "", "", false)
def tyJx145de : Nat → FieldType := fun k => match k with
  | _ => .int
abbrev wsJx145de0 : List Cond := u_ws RJx145de TJx145de 0
theorem nmJx145de : ∀ a, a < 0 → ∀ b, b < 0 → a ≠ b → (TJx145de a).2.1 ≠ (TJx145de b).2.1 := by decide +kernel
theorem tyJx145de_ok : ∀ k, k < 0 → parseFieldDescriptor (TJx145de k).2.2.1 = some (tyJx145de k) := by decide +kernel
def RJx8e188 : String := "java/lang/Cloneable"
def TJx8e188 : u_T := fun k => match k with
  | _ => ("", "", "", false)
def tyJx8e188 : Nat → FieldType := fun k => match k with
  | _ => .int
abbrev wsJx8e1880 : List Cond := u_ws RJx8e188 TJx8e188 0
theorem nmJx8e188 : ∀ a, a < 0 → ∀ b, b < 0 → a ≠ b → (TJx8e188 a).2.1 ≠ (TJx8e188 b).2.1 := by decide +kernel
theorem tyJx8e188_ok : ∀ k, k < 0 → parseFieldDescriptor (TJx8e188 k).2.2.1 = some (tyJx8e188 k) := by decide +kernel
def RJxb160c : String := "java/lang/Comparable"
def TJxb160c : u_T := fun k => match k with
  | _ => ("", "", "", false)
def tyJxb160c : Nat → FieldType := fun k => match k with
  | _ => .int
abbrev wsJxb160c0 : List Cond := u_ws RJxb160c TJxb160c 0
theorem nmJxb160c : ∀ a, a < 0 → ∀ b, b < 0 → a ≠ b → (TJxb160c a).2.1 ≠ (TJxb160c b).2.1 := by decide +kernel
theorem tyJxb160c_ok : ∀ k, k < 0 → parseFieldDescriptor (TJxb160c k).2.2.1 = some (tyJxb160c k) := by decide +kernel
def RJxf58ca : String := "java/lang/Float"
def TJxf58ca : u_T := fun k => match k with
  | _ => ("", "", "", false)
def tyJxf58ca : Nat → FieldType := fun k => match k with
  | _ => .int
abbrev wsJxf58ca0 : List Cond := u_ws RJxf58ca TJxf58ca 0
theorem nmJxf58ca : ∀ a, a < 0 → ∀ b, b < 0 → a ≠ b → (TJxf58ca a).2.1 ≠ (TJxf58ca b).2.1 := by decide +kernel
theorem tyJxf58ca_ok : ∀ k, k < 0 → parseFieldDescriptor (TJxf58ca k).2.2.1 = some (tyJxf58ca k) := by decide +kernel
abbrev cJxf58ca_isNaN_12338 : ByteArray := prog_10_method_6_code
def yJxf58ca_isNaN_12338 : MethodName := ⟨RJxf58ca, "isNaN", "(F)Z"⟩
abbrev cJxf58ca_floatToIntBits_5c35a : ByteArray := prog_10_method_24_code
def yJxf58ca_floatToIntBits_5c35a : MethodName := ⟨RJxf58ca, "floatToIntBits", "(F)I"⟩
def RJ6 : String := "java/lang/Integer"
def TJ6 : u_T := fun k => match k with
  | _ => ("", "", "", false)
def tyJ6 : Nat → FieldType := fun k => match k with
  | _ => .int
abbrev wsJ60 : List Cond := u_ws RJ6 TJ6 0
theorem nmJ6 : ∀ a, a < 0 → ∀ b, b < 0 → a ≠ b → (TJ6 a).2.1 ≠ (TJ6 b).2.1 := by decide +kernel
theorem tyJ6_ok : ∀ k, k < 0 → parseFieldDescriptor (TJ6 k).2.2.1 = some (tyJ6 k) := by decide +kernel
abbrev cJ6_bitCount_0f7a4 : ByteArray := prog_14_method_49_code
def yJ6_bitCount_0f7a4 : MethodName := ⟨RJ6, "bitCount", "(I)I"⟩
def RJ9 : String := "java/lang/Math"
def TJ9 : u_T := fun k => match k with
  | _ => ("", "", "", false)
def tyJ9 : Nat → FieldType := fun k => match k with
  | _ => .int
abbrev wsJ90 : List Cond := u_ws RJ9 TJ9 0
theorem nmJ9 : ∀ a, a < 0 → ∀ b, b < 0 → a ≠ b → (TJ9 a).2.1 ≠ (TJ9 b).2.1 := by decide +kernel
theorem tyJ9_ok : ∀ k, k < 0 → parseFieldDescriptor (TJ9 k).2.2.1 = some (tyJ9 k) := by decide +kernel
abbrev cJ9_min_7cf53 : ByteArray := prog_15_method_69_code
def yJ9_min_7cf53 : MethodName := ⟨RJ9, "min", "(II)I"⟩
def RJxd2413 : String := "java/lang/Number"
def TJxd2413 : u_T := fun k => match k with
  | _ => ("", "", "", false)
def tyJxd2413 : Nat → FieldType := fun k => match k with
  | _ => .int
abbrev wsJxd24130 : List Cond := u_ws RJxd2413 TJxd2413 0
theorem nmJxd2413 : ∀ a, a < 0 → ∀ b, b < 0 → a ≠ b → (TJxd2413 a).2.1 ≠ (TJxd2413 b).2.1 := by decide +kernel
theorem tyJxd2413_ok : ∀ k, k < 0 → parseFieldDescriptor (TJxd2413 k).2.2.1 = some (tyJxd2413 k) := by decide +kernel
def RJ0 : String := "java/lang/String"
def TJ0 : u_T := fun k => match k with
  | _ => ("", "", "", false)
def tyJ0 : Nat → FieldType := fun k => match k with
  | _ => .int
abbrev wsJ00 : List Cond := u_ws RJ0 TJ0 0
theorem nmJ0 : ∀ a, a < 0 → ∀ b, b < 0 → a ≠ b → (TJ0 a).2.1 ≠ (TJ0 b).2.1 := by decide +kernel
theorem tyJ0_ok : ∀ k, k < 0 → parseFieldDescriptor (TJ0 k).2.2.1 = some (tyJ0 k) := by decide +kernel
def RJ10 : String := "java/lang/System"
def TJ10 : u_T := fun k => match k with
  | _ => ("", "", "", false)
def tyJ10 : Nat → FieldType := fun k => match k with
  | _ => .int
abbrev wsJ100 : List Cond := u_ws RJ10 TJ10 0
theorem nmJ10 : ∀ a, a < 0 → ∀ b, b < 0 → a ≠ b → (TJ10 a).2.1 ≠ (TJ10 b).2.1 := by decide +kernel
theorem tyJ10_ok : ∀ k, k < 0 → parseFieldDescriptor (TJ10 k).2.2.1 = some (tyJ10 k) := by decide +kernel
def RJxfd54e : String := "java/lang/constant/Constable"
def TJxfd54e : u_T := fun k => match k with
  | _ => ("", "", "", false)
def tyJxfd54e : Nat → FieldType := fun k => match k with
  | _ => .int
abbrev wsJxfd54e0 : List Cond := u_ws RJxfd54e TJxfd54e 0
theorem nmJxfd54e : ∀ a, a < 0 → ∀ b, b < 0 → a ≠ b → (TJxfd54e a).2.1 ≠ (TJxfd54e b).2.1 := by decide +kernel
theorem tyJxfd54e_ok : ∀ k, k < 0 → parseFieldDescriptor (TJxfd54e k).2.2.1 = some (tyJxfd54e k) := by decide +kernel
def RJx3cf43 : String := "java/lang/constant/ConstantDesc"
def TJx3cf43 : u_T := fun k => match k with
  | _ => ("", "", "", false)
def tyJx3cf43 : Nat → FieldType := fun k => match k with
  | _ => .int
abbrev wsJx3cf430 : List Cond := u_ws RJx3cf43 TJx3cf43 0
theorem nmJx3cf43 : ∀ a, a < 0 → ∀ b, b < 0 → a ≠ b → (TJx3cf43 a).2.1 ≠ (TJx3cf43 b).2.1 := by decide +kernel
theorem tyJx3cf43_ok : ∀ k, k < 0 → parseFieldDescriptor (TJx3cf43 k).2.2.1 = some (tyJx3cf43 k) := by decide +kernel
def RJ7 : String := "java/util/Arrays"
def TJ7 : u_T := fun k => match k with
  | _ => ("", "", "", false)
def tyJ7 : Nat → FieldType := fun k => match k with
  | _ => .int
abbrev wsJ70 : List Cond := u_ws RJ7 TJ7 0
theorem nmJ7 : ∀ a, a < 0 → ∀ b, b < 0 → a ≠ b → (TJ7 a).2.1 ≠ (TJ7 b).2.1 := by decide +kernel
theorem tyJ7_ok : ∀ k, k < 0 → parseFieldDescriptor (TJ7 k).2.2.1 = some (tyJ7 k) := by decide +kernel
abbrev cJ7_copyOf_59c91 : ByteArray := prog_21_method_123_code
def yJ7_copyOf_59c91 : MethodName := ⟨RJ7, "copyOf", "([II)[I"⟩
def RL : String := "PayoutnetLaw"
abbrev cL_addSeller : ByteArray := method_3_code
def yL_addSeller : MethodName := ⟨RL, "addSeller", "(LPayoutnet;I[J)I"⟩
abbrev cL_verify : ByteArray := method_4_code
def yL_verify : MethodName := ⟨RL, "verify", "(LPayoutnet;II[J)I"⟩
abbrev cL_setPayouts : ByteArray := method_5_code
def yL_setPayouts : MethodName := ⟨RL, "setPayouts", "(LPayoutnet;III)I"⟩
abbrev cL_setReserve : ByteArray := method_6_code
def yL_setReserve : MethodName := ⟨RL, "setReserve", "(LPayoutnet;III)I"⟩
abbrev cL_setShare : ByteArray := method_7_code
def yL_setShare : MethodName := ⟨RL, "setShare", "(LPayoutnet;II[J)I"⟩
abbrev cL_setTax : ByteArray := method_8_code
def yL_setTax : MethodName := ⟨RL, "setTax", "(LPayoutnet;I[J)I"⟩
abbrev cL_sell : ByteArray := method_9_code
def yL_sell : MethodName := ⟨RL, "sell", "(LPayoutnet;III[J)I"⟩
abbrev cL_order : ByteArray := method_10_code
def yL_order : MethodName := ⟨RL, "order", "(LPayoutnet;III[J)I"⟩
abbrev cL_refund : ByteArray := method_11_code
def yL_refund : MethodName := ⟨RL, "refund", "(LPayoutnet;IIZ[J)I"⟩
abbrev cL_pass : ByteArray := method_12_code
def yL_pass : MethodName := ⟨RL, "pass", "(LPayoutnet;I[J)I"⟩
abbrev cL_fail : ByteArray := method_13_code
def yL_fail : MethodName := ⟨RL, "fail", "(LPayoutnet;I[J)I"⟩
abbrev cL_payout : ByteArray := method_14_code
def yL_payout : MethodName := ⟨RL, "payout", "(LPayoutnet;I[J)I"⟩
abbrev cL_sellerOf : ByteArray := method_15_code
def yL_sellerOf : MethodName := ⟨RL, "sellerOf", "(LPayoutnet;I[J)I"⟩
abbrev cL_balance : ByteArray := method_16_code
def yL_balance : MethodName := ⟨RL, "balance", "(LPayoutnet;I[J)I"⟩
abbrev cL_balanceByEntries : ByteArray := method_17_code
def yL_balanceByEntries : MethodName := ⟨RL, "balanceByEntries", "(LPayoutnet;I[J)I"⟩
abbrev cL_reserve : ByteArray := method_18_code
def yL_reserve : MethodName := ⟨RL, "reserve", "(LPayoutnet;I[J)I"⟩
abbrev cL_paidTo : ByteArray := method_19_code
def yL_paidTo : MethodName := ⟨RL, "paidTo", "(LPayoutnet;I[J)I"⟩
abbrev cL_law : ByteArray := code
def yL_law : MethodName := ⟨RL, "law", "([I)Z"⟩
def wsX0_init : List Cond := .code yX0_init cX0_init 1 none :: ([.methodLink RX0 3 objectInit, .instanceMethod objectInit, .code objectInit ⟨#[0xb1]⟩ 1 none, .arrayClass .int, .fieldLink RX0 9 "Payoutnet$Journal" "carried" "[I", .fieldLink RX0 15 "Payoutnet$Journal" "seller" "[I", .fieldLink RX0 18 "Payoutnet$Journal" "cents" "[I"] ++ wsX00)
def wsX0_carryForward : List Cond := .code yX0_carryForward cX0_carryForward 2 none :: ([.fieldLink RX0 21 "Payoutnet$Journal" "count" "I", .fieldLink RX0 9 "Payoutnet$Journal" "carried" "[I", .fieldLink RX0 15 "Payoutnet$Journal" "seller" "[I", .fieldLink RX0 18 "Payoutnet$Journal" "cents" "[I"] ++ wsX00)
def wsX0_enter : List Cond := .code yX0_enter cX0_enter 3 none :: ([.fieldLink RX0 21 "Payoutnet$Journal" "count" "I", .fieldLink RX0 15 "Payoutnet$Journal" "seller" "[I", .fieldLink RX0 18 "Payoutnet$Journal" "cents" "[I", .methodLink RX0 25 yX0_carryForward, .instanceMethod yX0_carryForward, .selects RX0 yX0_carryForward yX0_carryForward, .initialized RX0, .code yX0_carryForward cX0_carryForward 2 none, .fieldLink RX0 9 "Payoutnet$Journal" "carried" "[I"] ++ wsX00)
def wsX0_sumOf : List Cond := .code yX0_sumOf cX0_sumOf 4 (some .int) :: ([.fieldLink RX0 9 "Payoutnet$Journal" "carried" "[I", .fieldLink RX0 21 "Payoutnet$Journal" "count" "I", .fieldLink RX0 15 "Payoutnet$Journal" "seller" "[I", .fieldLink RX0 18 "Payoutnet$Journal" "cents" "[I"] ++ wsX00)
def wsX1_init : List Cond := .code yX1_init cX1_init 1 none :: ([.methodLink RX1 1 objectInit, .instanceMethod objectInit, .code objectInit ⟨#[0xb1]⟩ 1 none, .arrayClass .int, .fieldLink RX1 7 "Payoutnet$Payouts" "seller" "[I", .fieldLink RX1 13 "Payoutnet$Payouts" "cents" "[I", .fieldLink RX1 16 "Payoutnet$Payouts" "failed" "[I"] ++ wsX10)
def wsJ7_copyOf_59c91 : List Cond := .code yJ7_copyOf_59c91 cJ7_copyOf_59c91 3 (some (.array .int)) :: ([.methodLink RJ7 316 ⟨"[I", "clone", "()Ljava/lang/Object;"⟩, .sameMethod "[I" "java/lang/Object" "clone" "()Ljava/lang/Object;", .native ⟨"java/lang/Object", "clone", "()Ljava/lang/Object;"⟩, .instanceMethod ⟨"java/lang/Object", "clone", "()Ljava/lang/Object;"⟩, .selects "[I" ⟨"[I", "clone", "()Ljava/lang/Object;"⟩ ⟨"java/lang/Object", "clone", "()Ljava/lang/Object;"⟩, .classLink RJ7 317 "[I", .arrayClass .int, .methodLink RJ7 304 Lib.Math.min.name, .static Lib.Math.min.name, .initialized "java/lang/Math", .code Lib.Math.min.name Lib.Math.min.code 2 (some .int), .methodLink RJ7 150 arraycopyName, .native arraycopyName, .static arraycopyName, .initialized "java/lang/System"])
def wsX1_grow : List Cond := .code yX1_grow cX1_grow 2 none :: ([.fieldLink RX1 13 "Payoutnet$Payouts" "cents" "[I", .fieldLink RX1 7 "Payoutnet$Payouts" "seller" "[I", .fieldLink RX1 16 "Payoutnet$Payouts" "failed" "[I", .methodLink RX1 26 yJ7_copyOf_59c91, .static yJ7_copyOf_59c91, .initialized RJ7, .code yJ7_copyOf_59c91 cJ7_copyOf_59c91 3 (some (.array .int)), .methodLink RJ7 316 ⟨"[I", "clone", "()Ljava/lang/Object;"⟩, .sameMethod "[I" "java/lang/Object" "clone" "()Ljava/lang/Object;", .native ⟨"java/lang/Object", "clone", "()Ljava/lang/Object;"⟩, .instanceMethod ⟨"java/lang/Object", "clone", "()Ljava/lang/Object;"⟩, .selects "[I" ⟨"[I", "clone", "()Ljava/lang/Object;"⟩ ⟨"java/lang/Object", "clone", "()Ljava/lang/Object;"⟩, .classLink RJ7 317 "[I", .arrayClass .int, .methodLink RJ7 304 Lib.Math.min.name, .static Lib.Math.min.name, .initialized "java/lang/Math", .code Lib.Math.min.name Lib.Math.min.code 2 (some .int), .methodLink RJ7 150 arraycopyName, .native arraycopyName, .static arraycopyName, .initialized "java/lang/System"] ++ wsX10)
def wsX1_enter_r1 : List Cond := [Cond.fieldLink RX1 19 "Payoutnet$Payouts" "count" "I", Cond.fieldLink RX1 13 "Payoutnet$Payouts" "cents" "[I", Cond.fieldLink RX1 7 "Payoutnet$Payouts" "seller" "[I", Cond.methodLink RX1 23 yX1_grow, Cond.instanceMethod yX1_grow, Cond.selects RX1 yX1_grow yX1_grow, Cond.initialized RX1, Cond.code yX1_grow cX1_grow 2 none, Cond.fieldLink RX1 16 "Payoutnet$Payouts" "failed" "[I", Cond.methodLink RX1 26 yJ7_copyOf_59c91, Cond.static yJ7_copyOf_59c91, Cond.initialized RJ7, Cond.code yJ7_copyOf_59c91 cJ7_copyOf_59c91 3 (some (.array .int)), Cond.methodLink RJ7 316 ⟨"[I", "clone", "()Ljava/lang/Object;"⟩, Cond.sameMethod "[I" "java/lang/Object" "clone" "()Ljava/lang/Object;", Cond.native ⟨"java/lang/Object", "clone", "()Ljava/lang/Object;"⟩, Cond.instanceMethod ⟨"java/lang/Object", "clone", "()Ljava/lang/Object;"⟩, Cond.selects "[I" ⟨"[I", "clone", "()Ljava/lang/Object;"⟩ ⟨"java/lang/Object", "clone", "()Ljava/lang/Object;"⟩, Cond.classLink RJ7 317 "[I", Cond.arrayClass .int, Cond.methodLink RJ7 304 Lib.Math.min.name, Cond.static Lib.Math.min.name, Cond.initialized "java/lang/Math", Cond.code Lib.Math.min.name Lib.Math.min.code 2 (some .int)]
def wsX1_enter_r2 : List Cond := [Cond.methodLink RJ7 150 arraycopyName, Cond.native arraycopyName, Cond.static arraycopyName, Cond.initialized "java/lang/System"]
def wsX1_enter : List Cond := .code yX1_enter cX1_enter 3 (some .boolean) :: ((wsX1_enter_r1 ++ wsX1_enter_r2) ++ wsX10)
def wsX2_init : List Cond := .code yX2_init cX2_init 1 none :: ([.methodLink RX2 3 objectInit, .instanceMethod objectInit, .code objectInit ⟨#[0xb1]⟩ 1 none, .arrayClass .int, .fieldLink RX2 9 "Payoutnet$Sales" "seller" "[I", .arrayClass .float, .fieldLink RX2 15 "Payoutnet$Sales" "share" "[F", .fieldLink RX2 19 "Payoutnet$Sales" "taxThousandths" "[I", .fieldLink RX2 22 "Payoutnet$Sales" "unrefunded" "[I", .fieldLink RX2 25 "Payoutnet$Sales" "feeKept" "[I", .fieldLink RX2 28 "Payoutnet$Sales" "held" "[I", .fieldLink RX2 31 "Payoutnet$Sales" "heldUntil" "[I"] ++ wsX20)
def wsX2_enter : List Cond := .code yX2_enter cX2_enter 4 (some .int) :: ([.fieldLink RX2 34 "Payoutnet$Sales" "count" "I", .fieldLink RX2 9 "Payoutnet$Sales" "seller" "[I", .fieldLink RX2 22 "Payoutnet$Sales" "unrefunded" "[I"] ++ wsX20)
def wsX2_heldFor : List Cond := .code yX2_heldFor cX2_heldFor 4 (some .int) :: ([.fieldLink RX2 34 "Payoutnet$Sales" "count" "I", .fieldLink RX2 9 "Payoutnet$Sales" "seller" "[I", .fieldLink RX2 28 "Payoutnet$Sales" "held" "[I"] ++ wsX20)
def wsX3_init : List Cond := .code yX3_init cX3_init 1 none :: ([.methodLink RX3 3 objectInit, .instanceMethod objectInit, .code objectInit ⟨#[0xb1]⟩ 1 none, .arrayClass .int, .fieldLink RX3 9 "Payoutnet$Shops" "owner" "[I", .fieldLink RX3 15 "Payoutnet$Shops" "step" "[I", .fieldLink RX3 18 "Payoutnet$Shops" "weekday" "[I", .fieldLink RX3 21 "Payoutnet$Shops" "least" "[I", .fieldLink RX3 24 "Payoutnet$Shops" "reserveThousandths" "[I", .fieldLink RX3 27 "Payoutnet$Shops" "reserveDays" "[I", .fieldLink RX3 30 "Payoutnet$Shops" "balance" "[I", .fieldLink RX3 33 "Payoutnet$Shops" "paid" "[I"] ++ wsX30)
def wsX3_enter : List Cond := .code yX3_enter cX3_enter 3 (some .int) :: ([.fieldLink RX3 36 "Payoutnet$Shops" "count" "I", .fieldLink RX3 9 "Payoutnet$Shops" "owner" "[I", .fieldLink RX3 21 "Payoutnet$Shops" "least" "[I", .fieldLink RX3 27 "Payoutnet$Shops" "reserveDays" "[I"] ++ wsX30)
def wsX4_shareOf : List Cond := .code yX4_shareOf cX4_shareOf 1 (some .float) :: ([.constantFloat RX4 214 (1148846080)])
def wsX4_init_r1 : List Cond := [Cond.methodLink RX4 1 objectInit, Cond.instanceMethod objectInit, Cond.code objectInit ⟨#[0xb1]⟩ 1 none, Cond.classLink RX4 7 RX3, Cond.instantiable RX3 9, Cond.initialized RX3, Cond.fieldLink RX4 10 "Payoutnet" "shops" "LPayoutnet$Shops;", Cond.classLink RX4 16 RX2, Cond.instantiable RX2 8, Cond.initialized RX2, Cond.fieldLink RX4 19 "Payoutnet" "sales" "LPayoutnet$Sales;", Cond.classLink RX4 23 RX1, Cond.instantiable RX1 4, Cond.initialized RX1, Cond.fieldLink RX4 26 "Payoutnet" "paidOut" "LPayoutnet$Payouts;", Cond.classLink RX4 30 RX0, Cond.instantiable RX0 4, Cond.initialized RX0, Cond.fieldLink RX4 33 "Payoutnet" "journal" "LPayoutnet$Journal;", Cond.arrayClass .float, Cond.fieldLink RX4 37 "Payoutnet" "shares" "[F", Cond.instanceMethod yX3_init, Cond.code yX3_init cX3_init 1 none, Cond.methodLink RX3 3 objectInit]
def wsX4_init_r2 : List Cond := [Cond.arrayClass .int, Cond.fieldLink RX3 9 "Payoutnet$Shops" "owner" "[I", Cond.fieldLink RX3 15 "Payoutnet$Shops" "step" "[I", Cond.fieldLink RX3 18 "Payoutnet$Shops" "weekday" "[I", Cond.fieldLink RX3 21 "Payoutnet$Shops" "least" "[I", Cond.fieldLink RX3 24 "Payoutnet$Shops" "reserveThousandths" "[I", Cond.fieldLink RX3 27 "Payoutnet$Shops" "reserveDays" "[I", Cond.fieldLink RX3 30 "Payoutnet$Shops" "balance" "[I", Cond.fieldLink RX3 33 "Payoutnet$Shops" "paid" "[I", Cond.instanceMethod yX2_init, Cond.code yX2_init cX2_init 1 none, Cond.methodLink RX2 3 objectInit, Cond.fieldLink RX2 9 "Payoutnet$Sales" "seller" "[I", Cond.fieldLink RX2 15 "Payoutnet$Sales" "share" "[F", Cond.fieldLink RX2 19 "Payoutnet$Sales" "taxThousandths" "[I", Cond.fieldLink RX2 22 "Payoutnet$Sales" "unrefunded" "[I", Cond.fieldLink RX2 25 "Payoutnet$Sales" "feeKept" "[I", Cond.fieldLink RX2 28 "Payoutnet$Sales" "held" "[I", Cond.fieldLink RX2 31 "Payoutnet$Sales" "heldUntil" "[I", Cond.instanceMethod yX1_init, Cond.code yX1_init cX1_init 1 none, Cond.methodLink RX1 1 objectInit, Cond.fieldLink RX1 7 "Payoutnet$Payouts" "seller" "[I", Cond.fieldLink RX1 13 "Payoutnet$Payouts" "cents" "[I"]
def wsX4_init_r3 : List Cond := [Cond.fieldLink RX1 16 "Payoutnet$Payouts" "failed" "[I", Cond.instanceMethod yX0_init, Cond.code yX0_init cX0_init 1 none, Cond.methodLink RX0 3 objectInit, Cond.fieldLink RX0 9 "Payoutnet$Journal" "carried" "[I", Cond.fieldLink RX0 15 "Payoutnet$Journal" "seller" "[I", Cond.fieldLink RX0 18 "Payoutnet$Journal" "cents" "[I", Cond.methodLink RX4 41 yX4_shareOf, Cond.static yX4_shareOf, Cond.initialized RX4, Cond.code yX4_shareOf cX4_shareOf 1 (some .float), Cond.constantFloat RX4 214 (1148846080)]
def wsX4_init : List Cond := .code yX4_init cX4_init 2 none :: ((wsX4_init_r1 ++ (wsX4_init_r2 ++ wsX4_init_r3)) ++ wsX30 ++ wsX40 ++ wsX20 ++ wsX10 ++ wsX00)
def wsX4_addSeller : List Cond := .code yX4_addSeller cX4_addSeller 2 (some .int) :: ([.classLink RX4 45 "java/lang/IndexOutOfBoundsException", .initialized "java/lang/IndexOutOfBoundsException", .classLink RX4 56 "java/lang/IllegalStateException", .initialized "java/lang/IllegalStateException", .fieldLink RX4 10 "Payoutnet" "shops" "LPayoutnet$Shops;", .fieldLink RX4 52 "Payoutnet$Shops" "count" "I", .methodLink RX4 61 yX3_enter, .instanceMethod yX3_enter, .selects RX3 yX3_enter yX3_enter, .initialized RX3, .code yX3_enter cX3_enter 3 (some .int), .fieldLink RX3 36 "Payoutnet$Shops" "count" "I", .fieldLink RX3 9 "Payoutnet$Shops" "owner" "[I", .fieldLink RX3 21 "Payoutnet$Shops" "least" "[I", .fieldLink RX3 27 "Payoutnet$Shops" "reserveDays" "[I"] ++ wsX40 ++ wsX30 ++ (vx_atS RX4 49 "java/lang/IndexOutOfBoundsException" ["java/lang/RuntimeException", "java/lang/Exception"]).filter goodWord ++ (vx_atS RX4 60 "java/lang/IllegalStateException" ["java/lang/RuntimeException", "java/lang/Exception"]).filter goodWord)
def wsX4_requireSeller : List Cond := .code yX4_requireSeller cX4_requireSeller 2 none :: ([.classLink RX4 45 "java/lang/IndexOutOfBoundsException", .initialized "java/lang/IndexOutOfBoundsException", .fieldLink RX4 10 "Payoutnet" "shops" "LPayoutnet$Shops;", .fieldLink RX4 52 "Payoutnet$Shops" "count" "I"] ++ wsX40 ++ wsX30 ++ (vx_atS RX4 49 "java/lang/IndexOutOfBoundsException" ["java/lang/RuntimeException", "java/lang/Exception"]).filter goodWord)
def wsX4_requireBetween : List Cond := .code yX4_requireBetween cX4_requireBetween 3 none :: ([.classLink RX4 112 "java/lang/IllegalArgumentException", .initialized "java/lang/IllegalArgumentException"] ++ (vx_atS RX4 116 "java/lang/IllegalArgumentException" ["java/lang/RuntimeException", "java/lang/Exception"]).filter goodWord)
def wsX4_verify : List Cond := .code yX4_verify cX4_verify 4 (some .int) :: ([.fieldLink RX4 10 "Payoutnet" "shops" "LPayoutnet$Shops;", .fieldLink RX4 73 "Payoutnet$Shops" "step" "[I", .methodLink RX4 65 yX4_requireSeller, .instanceMethod yX4_requireSeller, .selects RX4 yX4_requireSeller yX4_requireSeller, .initialized RX4, .code yX4_requireSeller cX4_requireSeller 2 none, .classLink RX4 45 "java/lang/IndexOutOfBoundsException", .initialized "java/lang/IndexOutOfBoundsException", .fieldLink RX4 52 "Payoutnet$Shops" "count" "I", .methodLink RX4 69 yX4_requireBetween, .static yX4_requireBetween, .code yX4_requireBetween cX4_requireBetween 3 none, .classLink RX4 112 "java/lang/IllegalArgumentException", .initialized "java/lang/IllegalArgumentException"] ++ wsX40 ++ wsX30 ++ (vx_atS RX4 49 "java/lang/IndexOutOfBoundsException" ["java/lang/RuntimeException", "java/lang/Exception"]).filter goodWord ++ (vx_atS RX4 116 "java/lang/IllegalArgumentException" ["java/lang/RuntimeException", "java/lang/Exception"]).filter goodWord)
def wsX4_setPayouts : List Cond := .code yX4_setPayouts cX4_setPayouts 4 none :: ([.constant RX4 77 (1000000), .fieldLink RX4 10 "Payoutnet" "shops" "LPayoutnet$Shops;", .fieldLink RX4 78 "Payoutnet$Shops" "weekday" "[I", .fieldLink RX4 81 "Payoutnet$Shops" "least" "[I", .methodLink RX4 65 yX4_requireSeller, .instanceMethod yX4_requireSeller, .selects RX4 yX4_requireSeller yX4_requireSeller, .initialized RX4, .code yX4_requireSeller cX4_requireSeller 2 none, .classLink RX4 45 "java/lang/IndexOutOfBoundsException", .initialized "java/lang/IndexOutOfBoundsException", .fieldLink RX4 52 "Payoutnet$Shops" "count" "I", .methodLink RX4 69 yX4_requireBetween, .static yX4_requireBetween, .code yX4_requireBetween cX4_requireBetween 3 none, .classLink RX4 112 "java/lang/IllegalArgumentException", .initialized "java/lang/IllegalArgumentException"] ++ wsX40 ++ wsX30 ++ (vx_atS RX4 49 "java/lang/IndexOutOfBoundsException" ["java/lang/RuntimeException", "java/lang/Exception"]).filter goodWord ++ (vx_atS RX4 116 "java/lang/IllegalArgumentException" ["java/lang/RuntimeException", "java/lang/Exception"]).filter goodWord)
def wsX4_setReserve : List Cond := .code yX4_setReserve cX4_setReserve 4 none :: ([.fieldLink RX4 10 "Payoutnet" "shops" "LPayoutnet$Shops;", .fieldLink RX4 84 "Payoutnet$Shops" "reserveThousandths" "[I", .fieldLink RX4 87 "Payoutnet$Shops" "reserveDays" "[I", .methodLink RX4 65 yX4_requireSeller, .instanceMethod yX4_requireSeller, .selects RX4 yX4_requireSeller yX4_requireSeller, .initialized RX4, .code yX4_requireSeller cX4_requireSeller 2 none, .classLink RX4 45 "java/lang/IndexOutOfBoundsException", .initialized "java/lang/IndexOutOfBoundsException", .fieldLink RX4 52 "Payoutnet$Shops" "count" "I", .methodLink RX4 69 yX4_requireBetween, .static yX4_requireBetween, .code yX4_requireBetween cX4_requireBetween 3 none, .classLink RX4 112 "java/lang/IllegalArgumentException", .initialized "java/lang/IllegalArgumentException"] ++ wsX40 ++ wsX30 ++ (vx_atS RX4 49 "java/lang/IndexOutOfBoundsException" ["java/lang/RuntimeException", "java/lang/Exception"]).filter goodWord ++ (vx_atS RX4 116 "java/lang/IllegalArgumentException" ["java/lang/RuntimeException", "java/lang/Exception"]).filter goodWord)
def wsX4_requireKind : List Cond := .code yX4_requireKind cX4_requireKind 1 none :: ([.classLink RX4 45 "java/lang/IndexOutOfBoundsException", .initialized "java/lang/IndexOutOfBoundsException"] ++ (vx_atS RX4 49 "java/lang/IndexOutOfBoundsException" ["java/lang/RuntimeException", "java/lang/Exception"]).filter goodWord)
def wsX4_bitsOf : List Cond := .code yX4_bitsOf cX4_bitsOf 4 (some .int) :: ([.constantFloat RX4 215 (1258291200)])
def wsX4_setShare : List Cond := .code yX4_setShare cX4_setShare 4 (some .int) :: ([.fieldLink RX4 37 "Payoutnet" "shares" "[F", .methodLink RX4 90 yX4_requireKind, .static yX4_requireKind, .initialized RX4, .code yX4_requireKind cX4_requireKind 1 none, .classLink RX4 45 "java/lang/IndexOutOfBoundsException", .initialized "java/lang/IndexOutOfBoundsException", .methodLink RX4 69 yX4_requireBetween, .static yX4_requireBetween, .code yX4_requireBetween cX4_requireBetween 3 none, .classLink RX4 112 "java/lang/IllegalArgumentException", .initialized "java/lang/IllegalArgumentException", .methodLink RX4 41 yX4_shareOf, .static yX4_shareOf, .code yX4_shareOf cX4_shareOf 1 (some .float), .constantFloat RX4 214 (1148846080), .methodLink RX4 93 yX4_bitsOf, .static yX4_bitsOf, .code yX4_bitsOf cX4_bitsOf 4 (some .int), .constantFloat RX4 215 (1258291200)] ++ wsX40 ++ (vx_atS RX4 49 "java/lang/IndexOutOfBoundsException" ["java/lang/RuntimeException", "java/lang/Exception"]).filter goodWord ++ (vx_atS RX4 116 "java/lang/IllegalArgumentException" ["java/lang/RuntimeException", "java/lang/Exception"]).filter goodWord)
def wsX4_setTax : List Cond := .code yX4_setTax cX4_setTax 3 (some .int) :: ([.fieldLink RX4 97 "Payoutnet" "taxThousandths" "I", .methodLink RX4 69 yX4_requireBetween, .static yX4_requireBetween, .initialized RX4, .code yX4_requireBetween cX4_requireBetween 3 none, .classLink RX4 112 "java/lang/IllegalArgumentException", .initialized "java/lang/IllegalArgumentException"] ++ wsX40 ++ (vx_atS RX4 116 "java/lang/IllegalArgumentException" ["java/lang/RuntimeException", "java/lang/Exception"]).filter goodWord)
def wsX4_requireRoomForSales : List Cond := .code yX4_requireRoomForSales cX4_requireRoomForSales 2 none :: ([.classLink RX4 56 "java/lang/IllegalStateException", .initialized "java/lang/IllegalStateException", .fieldLink RX4 19 "Payoutnet" "sales" "LPayoutnet$Sales;", .fieldLink RX4 129 "Payoutnet$Sales" "count" "I"] ++ wsX40 ++ wsX20 ++ (vx_atS RX4 60 "java/lang/IllegalStateException" ["java/lang/RuntimeException", "java/lang/Exception"]).filter goodWord)
def wsX4_partOf : List Cond := .code yX4_partOf cX4_partOf 2 (some .int) :: ([])
def wsX4_feeOn : List Cond := .code yX4_feeOn cX4_feeOn 2 (some .int) :: ([])
def wsX4_post : List Cond := .code yX4_post cX4_post 3 none :: ([.fieldLink RX4 10 "Payoutnet" "shops" "LPayoutnet$Shops;", .fieldLink RX4 168 "Payoutnet$Shops" "balance" "[I", .fieldLink RX4 33 "Payoutnet" "journal" "LPayoutnet$Journal;", .methodLink RX4 224 yX0_enter, .instanceMethod yX0_enter, .selects RX0 yX0_enter yX0_enter, .initialized RX0, .code yX0_enter cX0_enter 3 none, .fieldLink RX0 21 "Payoutnet$Journal" "count" "I", .fieldLink RX0 15 "Payoutnet$Journal" "seller" "[I", .fieldLink RX0 18 "Payoutnet$Journal" "cents" "[I", .methodLink RX0 25 yX0_carryForward, .instanceMethod yX0_carryForward, .selects RX0 yX0_carryForward yX0_carryForward, .code yX0_carryForward cX0_carryForward 2 none, .fieldLink RX0 9 "Payoutnet$Journal" "carried" "[I"] ++ wsX40 ++ wsX30 ++ wsX00)
def wsX4_settle_r1 : List Cond := [Cond.fieldLink RX4 37 "Payoutnet" "shares" "[F", Cond.fieldLink RX4 97 "Payoutnet" "taxThousandths" "I", Cond.methodLink RX4 119 Lib.Math.min.name, Cond.static Lib.Math.min.name, Cond.initialized "java/lang/Math", Cond.code Lib.Math.min.name Lib.Math.min.code 2 (some .int), Cond.fieldLink RX4 10 "Payoutnet" "shops" "LPayoutnet$Shops;", Cond.fieldLink RX4 84 "Payoutnet$Shops" "reserveThousandths" "[I", Cond.fieldLink RX4 19 "Payoutnet" "sales" "LPayoutnet$Sales;", Cond.fieldLink RX4 145 "Payoutnet$Sales" "share" "[F", Cond.fieldLink RX4 140 "Payoutnet$Sales" "taxThousandths" "[I", Cond.fieldLink RX4 152 "Payoutnet$Sales" "feeKept" "[I", Cond.fieldLink RX4 218 "Payoutnet$Sales" "held" "[I", Cond.fieldLink RX4 221 "Payoutnet$Sales" "heldUntil" "[I", Cond.fieldLink RX4 171 "Payoutnet" "today" "I", Cond.fieldLink RX4 87 "Payoutnet$Shops" "reserveDays" "[I", Cond.fieldLink RX4 201 "Payoutnet" "received" "I", Cond.fieldLink RX4 158 "Payoutnet" "taxes" "I", Cond.fieldLink RX4 161 "Payoutnet" "fees" "I", Cond.methodLink RX4 142 yX4_partOf, Cond.static yX4_partOf, Cond.initialized RX4, Cond.code yX4_partOf cX4_partOf 2 (some .int), Cond.methodLink RX4 148 yX4_feeOn]
def wsX4_settle_r2 : List Cond := [Cond.static yX4_feeOn, Cond.code yX4_feeOn cX4_feeOn 2 (some .int), Cond.methodLink RX4 216 yX2_enter, Cond.instanceMethod yX2_enter, Cond.selects RX2 yX2_enter yX2_enter, Cond.initialized RX2, Cond.code yX2_enter cX2_enter 4 (some .int), Cond.fieldLink RX2 34 "Payoutnet$Sales" "count" "I", Cond.fieldLink RX2 9 "Payoutnet$Sales" "seller" "[I", Cond.fieldLink RX2 22 "Payoutnet$Sales" "unrefunded" "[I", Cond.methodLink RX4 164 yX4_post, Cond.instanceMethod yX4_post, Cond.selects RX4 yX4_post yX4_post, Cond.code yX4_post cX4_post 3 none, Cond.fieldLink RX4 168 "Payoutnet$Shops" "balance" "[I", Cond.fieldLink RX4 33 "Payoutnet" "journal" "LPayoutnet$Journal;", Cond.methodLink RX4 224 yX0_enter, Cond.instanceMethod yX0_enter, Cond.selects RX0 yX0_enter yX0_enter, Cond.initialized RX0, Cond.code yX0_enter cX0_enter 3 none, Cond.fieldLink RX0 21 "Payoutnet$Journal" "count" "I", Cond.fieldLink RX0 15 "Payoutnet$Journal" "seller" "[I", Cond.fieldLink RX0 18 "Payoutnet$Journal" "cents" "[I"]
def wsX4_settle_r3 : List Cond := [Cond.methodLink RX0 25 yX0_carryForward, Cond.instanceMethod yX0_carryForward, Cond.selects RX0 yX0_carryForward yX0_carryForward, Cond.code yX0_carryForward cX0_carryForward 2 none, Cond.fieldLink RX0 9 "Payoutnet$Journal" "carried" "[I"]
def wsX4_settle : List Cond := .code yX4_settle cX4_settle 10 (some .int) :: ((wsX4_settle_r1 ++ (wsX4_settle_r2 ++ wsX4_settle_r3)) ++ wsX40 ++ wsX30 ++ wsX20 ++ wsX00)
def wsX4_sell_r1 : List Cond := [Cond.constant RX4 77 (1000000), Cond.methodLink RX4 65 yX4_requireSeller, Cond.instanceMethod yX4_requireSeller, Cond.selects RX4 yX4_requireSeller yX4_requireSeller, Cond.initialized RX4, Cond.code yX4_requireSeller cX4_requireSeller 2 none, Cond.classLink RX4 45 "java/lang/IndexOutOfBoundsException", Cond.initialized "java/lang/IndexOutOfBoundsException", Cond.fieldLink RX4 10 "Payoutnet" "shops" "LPayoutnet$Shops;", Cond.fieldLink RX4 52 "Payoutnet$Shops" "count" "I", Cond.methodLink RX4 90 yX4_requireKind, Cond.static yX4_requireKind, Cond.code yX4_requireKind cX4_requireKind 1 none, Cond.methodLink RX4 69 yX4_requireBetween, Cond.static yX4_requireBetween, Cond.code yX4_requireBetween cX4_requireBetween 3 none, Cond.classLink RX4 112 "java/lang/IllegalArgumentException", Cond.initialized "java/lang/IllegalArgumentException", Cond.methodLink RX4 100 yX4_requireRoomForSales, Cond.instanceMethod yX4_requireRoomForSales, Cond.selects RX4 yX4_requireRoomForSales yX4_requireRoomForSales, Cond.code yX4_requireRoomForSales cX4_requireRoomForSales 2 none, Cond.classLink RX4 56 "java/lang/IllegalStateException", Cond.initialized "java/lang/IllegalStateException"]
def wsX4_sell_r2 : List Cond := [Cond.fieldLink RX4 19 "Payoutnet" "sales" "LPayoutnet$Sales;", Cond.fieldLink RX4 129 "Payoutnet$Sales" "count" "I", Cond.methodLink RX4 103 yX4_settle, Cond.instanceMethod yX4_settle, Cond.selects RX4 yX4_settle yX4_settle, Cond.code yX4_settle cX4_settle 10 (some .int), Cond.fieldLink RX4 37 "Payoutnet" "shares" "[F", Cond.fieldLink RX4 97 "Payoutnet" "taxThousandths" "I", Cond.methodLink RX4 119 Lib.Math.min.name, Cond.static Lib.Math.min.name, Cond.initialized "java/lang/Math", Cond.code Lib.Math.min.name Lib.Math.min.code 2 (some .int), Cond.fieldLink RX4 84 "Payoutnet$Shops" "reserveThousandths" "[I", Cond.fieldLink RX4 145 "Payoutnet$Sales" "share" "[F", Cond.fieldLink RX4 140 "Payoutnet$Sales" "taxThousandths" "[I", Cond.fieldLink RX4 152 "Payoutnet$Sales" "feeKept" "[I", Cond.fieldLink RX4 218 "Payoutnet$Sales" "held" "[I", Cond.fieldLink RX4 221 "Payoutnet$Sales" "heldUntil" "[I", Cond.fieldLink RX4 171 "Payoutnet" "today" "I", Cond.fieldLink RX4 87 "Payoutnet$Shops" "reserveDays" "[I", Cond.fieldLink RX4 201 "Payoutnet" "received" "I", Cond.fieldLink RX4 158 "Payoutnet" "taxes" "I", Cond.fieldLink RX4 161 "Payoutnet" "fees" "I", Cond.methodLink RX4 142 yX4_partOf]
def wsX4_sell_r3 : List Cond := [Cond.static yX4_partOf, Cond.code yX4_partOf cX4_partOf 2 (some .int), Cond.methodLink RX4 148 yX4_feeOn, Cond.static yX4_feeOn, Cond.code yX4_feeOn cX4_feeOn 2 (some .int), Cond.methodLink RX4 216 yX2_enter, Cond.instanceMethod yX2_enter, Cond.selects RX2 yX2_enter yX2_enter, Cond.initialized RX2, Cond.code yX2_enter cX2_enter 4 (some .int), Cond.fieldLink RX2 34 "Payoutnet$Sales" "count" "I", Cond.fieldLink RX2 9 "Payoutnet$Sales" "seller" "[I", Cond.fieldLink RX2 22 "Payoutnet$Sales" "unrefunded" "[I", Cond.methodLink RX4 164 yX4_post, Cond.instanceMethod yX4_post, Cond.selects RX4 yX4_post yX4_post, Cond.code yX4_post cX4_post 3 none, Cond.fieldLink RX4 168 "Payoutnet$Shops" "balance" "[I", Cond.fieldLink RX4 33 "Payoutnet" "journal" "LPayoutnet$Journal;", Cond.methodLink RX4 224 yX0_enter, Cond.instanceMethod yX0_enter, Cond.selects RX0 yX0_enter yX0_enter, Cond.initialized RX0, Cond.code yX0_enter cX0_enter 3 none]
def wsX4_sell_r4 : List Cond := [Cond.fieldLink RX0 21 "Payoutnet$Journal" "count" "I", Cond.fieldLink RX0 15 "Payoutnet$Journal" "seller" "[I", Cond.fieldLink RX0 18 "Payoutnet$Journal" "cents" "[I", Cond.methodLink RX0 25 yX0_carryForward, Cond.instanceMethod yX0_carryForward, Cond.selects RX0 yX0_carryForward yX0_carryForward, Cond.code yX0_carryForward cX0_carryForward 2 none, Cond.fieldLink RX0 9 "Payoutnet$Journal" "carried" "[I"]
def wsX4_sell : List Cond := .code yX4_sell cX4_sell 4 (some .int) :: ((wsX4_sell_r1 ++ (wsX4_sell_r2 ++ (wsX4_sell_r3 ++ wsX4_sell_r4))) ++ wsX40 ++ wsX30 ++ wsX20 ++ wsX00 ++ (vx_atS RX4 49 "java/lang/IndexOutOfBoundsException" ["java/lang/RuntimeException", "java/lang/Exception"]).filter goodWord ++ (vx_atS RX4 116 "java/lang/IllegalArgumentException" ["java/lang/RuntimeException", "java/lang/Exception"]).filter goodWord ++ (vx_atS RX4 60 "java/lang/IllegalStateException" ["java/lang/RuntimeException", "java/lang/Exception"]).filter goodWord)
def wsJ6_bitCount_0f7a4 : List Cond := .code yJ6_bitCount_0f7a4 cJ6_bitCount_0f7a4 1 (some .int) :: ([.constant RJ6 265 (1431655765), .constant RJ6 266 (858993459), .constant RJ6 267 (252645135)])
def wsX4_settleParts_r1 : List Cond := [Cond.fieldLink RX4 10 "Payoutnet" "shops" "LPayoutnet$Shops;", Cond.fieldLink RX4 52 "Payoutnet$Shops" "count" "I", Cond.methodLink RX4 103 yX4_settle, Cond.instanceMethod yX4_settle, Cond.selects RX4 yX4_settle yX4_settle, Cond.initialized RX4, Cond.code yX4_settle cX4_settle 10 (some .int), Cond.fieldLink RX4 37 "Payoutnet" "shares" "[F", Cond.fieldLink RX4 97 "Payoutnet" "taxThousandths" "I", Cond.methodLink RX4 119 Lib.Math.min.name, Cond.static Lib.Math.min.name, Cond.initialized "java/lang/Math", Cond.code Lib.Math.min.name Lib.Math.min.code 2 (some .int), Cond.fieldLink RX4 84 "Payoutnet$Shops" "reserveThousandths" "[I", Cond.fieldLink RX4 19 "Payoutnet" "sales" "LPayoutnet$Sales;", Cond.fieldLink RX4 145 "Payoutnet$Sales" "share" "[F", Cond.fieldLink RX4 140 "Payoutnet$Sales" "taxThousandths" "[I", Cond.fieldLink RX4 152 "Payoutnet$Sales" "feeKept" "[I", Cond.fieldLink RX4 218 "Payoutnet$Sales" "held" "[I", Cond.fieldLink RX4 221 "Payoutnet$Sales" "heldUntil" "[I", Cond.fieldLink RX4 171 "Payoutnet" "today" "I", Cond.fieldLink RX4 87 "Payoutnet$Shops" "reserveDays" "[I", Cond.fieldLink RX4 201 "Payoutnet" "received" "I", Cond.fieldLink RX4 158 "Payoutnet" "taxes" "I"]
def wsX4_settleParts_r2 : List Cond := [Cond.fieldLink RX4 161 "Payoutnet" "fees" "I", Cond.methodLink RX4 142 yX4_partOf, Cond.static yX4_partOf, Cond.code yX4_partOf cX4_partOf 2 (some .int), Cond.methodLink RX4 148 yX4_feeOn, Cond.static yX4_feeOn, Cond.code yX4_feeOn cX4_feeOn 2 (some .int), Cond.methodLink RX4 216 yX2_enter, Cond.instanceMethod yX2_enter, Cond.selects RX2 yX2_enter yX2_enter, Cond.initialized RX2, Cond.code yX2_enter cX2_enter 4 (some .int), Cond.fieldLink RX2 34 "Payoutnet$Sales" "count" "I", Cond.fieldLink RX2 9 "Payoutnet$Sales" "seller" "[I", Cond.fieldLink RX2 22 "Payoutnet$Sales" "unrefunded" "[I", Cond.methodLink RX4 164 yX4_post, Cond.instanceMethod yX4_post, Cond.selects RX4 yX4_post yX4_post, Cond.code yX4_post cX4_post 3 none, Cond.fieldLink RX4 168 "Payoutnet$Shops" "balance" "[I", Cond.fieldLink RX4 33 "Payoutnet" "journal" "LPayoutnet$Journal;", Cond.methodLink RX4 224 yX0_enter, Cond.instanceMethod yX0_enter, Cond.selects RX0 yX0_enter yX0_enter]
def wsX4_settleParts_r3 : List Cond := [Cond.initialized RX0, Cond.code yX0_enter cX0_enter 3 none, Cond.fieldLink RX0 21 "Payoutnet$Journal" "count" "I", Cond.fieldLink RX0 15 "Payoutnet$Journal" "seller" "[I", Cond.fieldLink RX0 18 "Payoutnet$Journal" "cents" "[I", Cond.methodLink RX0 25 yX0_carryForward, Cond.instanceMethod yX0_carryForward, Cond.selects RX0 yX0_carryForward yX0_carryForward, Cond.code yX0_carryForward cX0_carryForward 2 none, Cond.fieldLink RX0 9 "Payoutnet$Journal" "carried" "[I"]
def wsX4_settleParts : List Cond := .code yX4_settleParts cX4_settleParts 8 none :: ((wsX4_settleParts_r1 ++ (wsX4_settleParts_r2 ++ wsX4_settleParts_r3)) ++ wsX40 ++ wsX30 ++ wsX20 ++ wsX00)
def wsX4_order_r1 : List Cond := [Cond.classLink RX4 112 "java/lang/IllegalArgumentException", Cond.initialized "java/lang/IllegalArgumentException", Cond.classLink RX4 56 "java/lang/IllegalStateException", Cond.initialized "java/lang/IllegalStateException", Cond.constant RX4 77 (1000000), Cond.fieldLink RX4 10 "Payoutnet" "shops" "LPayoutnet$Shops;", Cond.fieldLink RX4 52 "Payoutnet$Shops" "count" "I", Cond.methodLink RX4 119 Lib.Math.min.name, Cond.static Lib.Math.min.name, Cond.initialized "java/lang/Math", Cond.code Lib.Math.min.name Lib.Math.min.code 2 (some .int), Cond.methodLink RX4 90 yX4_requireKind, Cond.static yX4_requireKind, Cond.initialized RX4, Cond.code yX4_requireKind cX4_requireKind 1 none, Cond.classLink RX4 45 "java/lang/IndexOutOfBoundsException", Cond.initialized "java/lang/IndexOutOfBoundsException", Cond.methodLink RX4 69 yX4_requireBetween, Cond.static yX4_requireBetween, Cond.code yX4_requireBetween cX4_requireBetween 3 none, Cond.methodLink RX4 107 yJ6_bitCount_0f7a4, Cond.static yJ6_bitCount_0f7a4, Cond.initialized RJ6, Cond.code yJ6_bitCount_0f7a4 cJ6_bitCount_0f7a4 1 (some .int)]
def wsX4_order_r2 : List Cond := [Cond.constant RJ6 265 (1431655765), Cond.constant RJ6 266 (858993459), Cond.constant RJ6 267 (252645135), Cond.methodLink RX4 100 yX4_requireRoomForSales, Cond.instanceMethod yX4_requireRoomForSales, Cond.selects RX4 yX4_requireRoomForSales yX4_requireRoomForSales, Cond.code yX4_requireRoomForSales cX4_requireRoomForSales 2 none, Cond.fieldLink RX4 19 "Payoutnet" "sales" "LPayoutnet$Sales;", Cond.fieldLink RX4 129 "Payoutnet$Sales" "count" "I", Cond.methodLink RX4 125 yX4_settleParts, Cond.instanceMethod yX4_settleParts, Cond.selects RX4 yX4_settleParts yX4_settleParts, Cond.code yX4_settleParts cX4_settleParts 8 none, Cond.methodLink RX4 103 yX4_settle, Cond.instanceMethod yX4_settle, Cond.selects RX4 yX4_settle yX4_settle, Cond.code yX4_settle cX4_settle 10 (some .int), Cond.fieldLink RX4 37 "Payoutnet" "shares" "[F", Cond.fieldLink RX4 97 "Payoutnet" "taxThousandths" "I", Cond.fieldLink RX4 84 "Payoutnet$Shops" "reserveThousandths" "[I", Cond.fieldLink RX4 145 "Payoutnet$Sales" "share" "[F", Cond.fieldLink RX4 140 "Payoutnet$Sales" "taxThousandths" "[I", Cond.fieldLink RX4 152 "Payoutnet$Sales" "feeKept" "[I", Cond.fieldLink RX4 218 "Payoutnet$Sales" "held" "[I"]
def wsX4_order_r3 : List Cond := [Cond.fieldLink RX4 221 "Payoutnet$Sales" "heldUntil" "[I", Cond.fieldLink RX4 171 "Payoutnet" "today" "I", Cond.fieldLink RX4 87 "Payoutnet$Shops" "reserveDays" "[I", Cond.fieldLink RX4 201 "Payoutnet" "received" "I", Cond.fieldLink RX4 158 "Payoutnet" "taxes" "I", Cond.fieldLink RX4 161 "Payoutnet" "fees" "I", Cond.methodLink RX4 142 yX4_partOf, Cond.static yX4_partOf, Cond.code yX4_partOf cX4_partOf 2 (some .int), Cond.methodLink RX4 148 yX4_feeOn, Cond.static yX4_feeOn, Cond.code yX4_feeOn cX4_feeOn 2 (some .int), Cond.methodLink RX4 216 yX2_enter, Cond.instanceMethod yX2_enter, Cond.selects RX2 yX2_enter yX2_enter, Cond.initialized RX2, Cond.code yX2_enter cX2_enter 4 (some .int), Cond.fieldLink RX2 34 "Payoutnet$Sales" "count" "I", Cond.fieldLink RX2 9 "Payoutnet$Sales" "seller" "[I", Cond.fieldLink RX2 22 "Payoutnet$Sales" "unrefunded" "[I", Cond.methodLink RX4 164 yX4_post, Cond.instanceMethod yX4_post, Cond.selects RX4 yX4_post yX4_post, Cond.code yX4_post cX4_post 3 none]
def wsX4_order_r4 : List Cond := [Cond.fieldLink RX4 168 "Payoutnet$Shops" "balance" "[I", Cond.fieldLink RX4 33 "Payoutnet" "journal" "LPayoutnet$Journal;", Cond.methodLink RX4 224 yX0_enter, Cond.instanceMethod yX0_enter, Cond.selects RX0 yX0_enter yX0_enter, Cond.initialized RX0, Cond.code yX0_enter cX0_enter 3 none, Cond.fieldLink RX0 21 "Payoutnet$Journal" "count" "I", Cond.fieldLink RX0 15 "Payoutnet$Journal" "seller" "[I", Cond.fieldLink RX0 18 "Payoutnet$Journal" "cents" "[I", Cond.methodLink RX0 25 yX0_carryForward, Cond.instanceMethod yX0_carryForward, Cond.selects RX0 yX0_carryForward yX0_carryForward, Cond.code yX0_carryForward cX0_carryForward 2 none, Cond.fieldLink RX0 9 "Payoutnet$Journal" "carried" "[I"]
def wsX4_order : List Cond := .code yX4_order cX4_order 6 (some .int) :: ((wsX4_order_r1 ++ (wsX4_order_r2 ++ (wsX4_order_r3 ++ wsX4_order_r4))) ++ wsX40 ++ wsX30 ++ wsX20 ++ wsX00 ++ (vx_atS RX4 116 "java/lang/IllegalArgumentException" ["java/lang/RuntimeException", "java/lang/Exception"]).filter goodWord ++ (vx_atS RX4 60 "java/lang/IllegalStateException" ["java/lang/RuntimeException", "java/lang/Exception"]).filter goodWord ++ (vx_atS RX4 49 "java/lang/IndexOutOfBoundsException" ["java/lang/RuntimeException", "java/lang/Exception"]).filter goodWord)
def wsX4_refund_r1 : List Cond := [Cond.classLink RX4 45 "java/lang/IndexOutOfBoundsException", Cond.initialized "java/lang/IndexOutOfBoundsException", Cond.classLink RX4 56 "java/lang/IllegalStateException", Cond.initialized "java/lang/IllegalStateException", Cond.fieldLink RX4 19 "Payoutnet" "sales" "LPayoutnet$Sales;", Cond.fieldLink RX4 129 "Payoutnet$Sales" "count" "I", Cond.constant RX4 77 (1000000), Cond.fieldLink RX4 132 "Payoutnet$Sales" "unrefunded" "[I", Cond.fieldLink RX4 137 "Payoutnet$Sales" "seller" "[I", Cond.fieldLink RX4 140 "Payoutnet$Sales" "taxThousandths" "[I", Cond.fieldLink RX4 145 "Payoutnet$Sales" "share" "[F", Cond.fieldLink RX4 152 "Payoutnet$Sales" "feeKept" "[I", Cond.methodLink RX4 119 Lib.Math.min.name, Cond.static Lib.Math.min.name, Cond.initialized "java/lang/Math", Cond.code Lib.Math.min.name Lib.Math.min.code 2 (some .int), Cond.fieldLink RX4 155 "Payoutnet" "refunded" "I", Cond.fieldLink RX4 158 "Payoutnet" "taxes" "I", Cond.fieldLink RX4 161 "Payoutnet" "fees" "I", Cond.fieldLink RX4 10 "Payoutnet" "shops" "LPayoutnet$Shops;", Cond.fieldLink RX4 168 "Payoutnet$Shops" "balance" "[I", Cond.methodLink RX4 69 yX4_requireBetween, Cond.static yX4_requireBetween, Cond.initialized RX4]
def wsX4_refund_r2 : List Cond := [Cond.code yX4_requireBetween cX4_requireBetween 3 none, Cond.classLink RX4 112 "java/lang/IllegalArgumentException", Cond.initialized "java/lang/IllegalArgumentException", Cond.methodLink RX4 142 yX4_partOf, Cond.static yX4_partOf, Cond.code yX4_partOf cX4_partOf 2 (some .int), Cond.methodLink RX4 148 yX4_feeOn, Cond.static yX4_feeOn, Cond.code yX4_feeOn cX4_feeOn 2 (some .int), Cond.methodLink RX4 164 yX4_post, Cond.instanceMethod yX4_post, Cond.selects RX4 yX4_post yX4_post, Cond.code yX4_post cX4_post 3 none, Cond.fieldLink RX4 33 "Payoutnet" "journal" "LPayoutnet$Journal;", Cond.methodLink RX4 224 yX0_enter, Cond.instanceMethod yX0_enter, Cond.selects RX0 yX0_enter yX0_enter, Cond.initialized RX0, Cond.code yX0_enter cX0_enter 3 none, Cond.fieldLink RX0 21 "Payoutnet$Journal" "count" "I", Cond.fieldLink RX0 15 "Payoutnet$Journal" "seller" "[I", Cond.fieldLink RX0 18 "Payoutnet$Journal" "cents" "[I", Cond.methodLink RX0 25 yX0_carryForward, Cond.instanceMethod yX0_carryForward]
def wsX4_refund_r3 : List Cond := [Cond.selects RX0 yX0_carryForward yX0_carryForward, Cond.code yX0_carryForward cX0_carryForward 2 none, Cond.fieldLink RX0 9 "Payoutnet$Journal" "carried" "[I"]
def wsX4_refund : List Cond := .code yX4_refund cX4_refund 7 (some .int) :: ((wsX4_refund_r1 ++ (wsX4_refund_r2 ++ wsX4_refund_r3)) ++ wsX40 ++ wsX20 ++ wsX30 ++ wsX00 ++ (vx_atS RX4 49 "java/lang/IndexOutOfBoundsException" ["java/lang/RuntimeException", "java/lang/Exception"]).filter goodWord ++ (vx_atS RX4 60 "java/lang/IllegalStateException" ["java/lang/RuntimeException", "java/lang/Exception"]).filter goodWord ++ (vx_atS RX4 116 "java/lang/IllegalArgumentException" ["java/lang/RuntimeException", "java/lang/Exception"]).filter goodWord)
def wsX4_release : List Cond := .code yX4_release cX4_release 3 none :: ([.fieldLink RX4 19 "Payoutnet" "sales" "LPayoutnet$Sales;", .fieldLink RX4 218 "Payoutnet$Sales" "held" "[I", .fieldLink RX4 137 "Payoutnet$Sales" "seller" "[I", .methodLink RX4 164 yX4_post, .instanceMethod yX4_post, .selects RX4 yX4_post yX4_post, .initialized RX4, .code yX4_post cX4_post 3 none, .fieldLink RX4 10 "Payoutnet" "shops" "LPayoutnet$Shops;", .fieldLink RX4 168 "Payoutnet$Shops" "balance" "[I", .fieldLink RX4 33 "Payoutnet" "journal" "LPayoutnet$Journal;", .methodLink RX4 224 yX0_enter, .instanceMethod yX0_enter, .selects RX0 yX0_enter yX0_enter, .initialized RX0, .code yX0_enter cX0_enter 3 none, .fieldLink RX0 21 "Payoutnet$Journal" "count" "I", .fieldLink RX0 15 "Payoutnet$Journal" "seller" "[I", .fieldLink RX0 18 "Payoutnet$Journal" "cents" "[I", .methodLink RX0 25 yX0_carryForward, .instanceMethod yX0_carryForward, .selects RX0 yX0_carryForward yX0_carryForward, .code yX0_carryForward cX0_carryForward 2 none, .fieldLink RX0 9 "Payoutnet$Journal" "carried" "[I"] ++ wsX40 ++ wsX20 ++ wsX30 ++ wsX00)
def wsX4_releaseReserves_r1 : List Cond := [Cond.fieldLink RX4 19 "Payoutnet" "sales" "LPayoutnet$Sales;", Cond.fieldLink RX4 129 "Payoutnet$Sales" "count" "I", Cond.fieldLink RX4 221 "Payoutnet$Sales" "heldUntil" "[I", Cond.fieldLink RX4 171 "Payoutnet" "today" "I", Cond.fieldLink RX4 218 "Payoutnet$Sales" "held" "[I", Cond.methodLink RX4 238 yX4_release, Cond.instanceMethod yX4_release, Cond.selects RX4 yX4_release yX4_release, Cond.initialized RX4, Cond.code yX4_release cX4_release 3 none, Cond.fieldLink RX4 137 "Payoutnet$Sales" "seller" "[I", Cond.methodLink RX4 164 yX4_post, Cond.instanceMethod yX4_post, Cond.selects RX4 yX4_post yX4_post, Cond.code yX4_post cX4_post 3 none, Cond.fieldLink RX4 10 "Payoutnet" "shops" "LPayoutnet$Shops;", Cond.fieldLink RX4 168 "Payoutnet$Shops" "balance" "[I", Cond.fieldLink RX4 33 "Payoutnet" "journal" "LPayoutnet$Journal;", Cond.methodLink RX4 224 yX0_enter, Cond.instanceMethod yX0_enter, Cond.selects RX0 yX0_enter yX0_enter, Cond.initialized RX0, Cond.code yX0_enter cX0_enter 3 none, Cond.fieldLink RX0 21 "Payoutnet$Journal" "count" "I"]
def wsX4_releaseReserves_r2 : List Cond := [Cond.fieldLink RX0 15 "Payoutnet$Journal" "seller" "[I", Cond.fieldLink RX0 18 "Payoutnet$Journal" "cents" "[I", Cond.methodLink RX0 25 yX0_carryForward, Cond.instanceMethod yX0_carryForward, Cond.selects RX0 yX0_carryForward yX0_carryForward, Cond.code yX0_carryForward cX0_carryForward 2 none, Cond.fieldLink RX0 9 "Payoutnet$Journal" "carried" "[I"]
def wsX4_releaseReserves : List Cond := .code yX4_releaseReserves cX4_releaseReserves 2 none :: ((wsX4_releaseReserves_r1 ++ wsX4_releaseReserves_r2) ++ wsX40 ++ wsX20 ++ wsX30 ++ wsX00)
def wsX4_coverFromReserves_r1 : List Cond := [Cond.fieldLink RX4 19 "Payoutnet" "sales" "LPayoutnet$Sales;", Cond.fieldLink RX4 129 "Payoutnet$Sales" "count" "I", Cond.fieldLink RX4 10 "Payoutnet" "shops" "LPayoutnet$Shops;", Cond.fieldLink RX4 168 "Payoutnet$Shops" "balance" "[I", Cond.fieldLink RX4 137 "Payoutnet$Sales" "seller" "[I", Cond.fieldLink RX4 218 "Payoutnet$Sales" "held" "[I", Cond.methodLink RX4 119 Lib.Math.min.name, Cond.static Lib.Math.min.name, Cond.initialized "java/lang/Math", Cond.code Lib.Math.min.name Lib.Math.min.code 2 (some .int), Cond.methodLink RX4 238 yX4_release, Cond.instanceMethod yX4_release, Cond.selects RX4 yX4_release yX4_release, Cond.initialized RX4, Cond.code yX4_release cX4_release 3 none, Cond.methodLink RX4 164 yX4_post, Cond.instanceMethod yX4_post, Cond.selects RX4 yX4_post yX4_post, Cond.code yX4_post cX4_post 3 none, Cond.fieldLink RX4 33 "Payoutnet" "journal" "LPayoutnet$Journal;", Cond.methodLink RX4 224 yX0_enter, Cond.instanceMethod yX0_enter, Cond.selects RX0 yX0_enter yX0_enter, Cond.initialized RX0]
def wsX4_coverFromReserves_r2 : List Cond := [Cond.code yX0_enter cX0_enter 3 none, Cond.fieldLink RX0 21 "Payoutnet$Journal" "count" "I", Cond.fieldLink RX0 15 "Payoutnet$Journal" "seller" "[I", Cond.fieldLink RX0 18 "Payoutnet$Journal" "cents" "[I", Cond.methodLink RX0 25 yX0_carryForward, Cond.instanceMethod yX0_carryForward, Cond.selects RX0 yX0_carryForward yX0_carryForward, Cond.code yX0_carryForward cX0_carryForward 2 none, Cond.fieldLink RX0 9 "Payoutnet$Journal" "carried" "[I"]
def wsX4_coverFromReserves : List Cond := .code yX4_coverFromReserves cX4_coverFromReserves 3 none :: ((wsX4_coverFromReserves_r1 ++ wsX4_coverFromReserves_r2) ++ wsX40 ++ wsX20 ++ wsX30 ++ wsX00)
def wsX4_coverFromOwner_r1 : List Cond := [Cond.fieldLink RX4 10 "Payoutnet" "shops" "LPayoutnet$Shops;", Cond.fieldLink RX4 52 "Payoutnet$Shops" "count" "I", Cond.fieldLink RX4 168 "Payoutnet$Shops" "balance" "[I", Cond.fieldLink RX4 241 "Payoutnet$Shops" "owner" "[I", Cond.methodLink RX4 119 Lib.Math.min.name, Cond.static Lib.Math.min.name, Cond.initialized "java/lang/Math", Cond.code Lib.Math.min.name Lib.Math.min.code 2 (some .int), Cond.methodLink RX4 164 yX4_post, Cond.instanceMethod yX4_post, Cond.selects RX4 yX4_post yX4_post, Cond.initialized RX4, Cond.code yX4_post cX4_post 3 none, Cond.fieldLink RX4 33 "Payoutnet" "journal" "LPayoutnet$Journal;", Cond.methodLink RX4 224 yX0_enter, Cond.instanceMethod yX0_enter, Cond.selects RX0 yX0_enter yX0_enter, Cond.initialized RX0, Cond.code yX0_enter cX0_enter 3 none, Cond.fieldLink RX0 21 "Payoutnet$Journal" "count" "I", Cond.fieldLink RX0 15 "Payoutnet$Journal" "seller" "[I", Cond.fieldLink RX0 18 "Payoutnet$Journal" "cents" "[I", Cond.methodLink RX0 25 yX0_carryForward, Cond.instanceMethod yX0_carryForward]
def wsX4_coverFromOwner_r2 : List Cond := [Cond.selects RX0 yX0_carryForward yX0_carryForward, Cond.code yX0_carryForward cX0_carryForward 2 none, Cond.fieldLink RX0 9 "Payoutnet$Journal" "carried" "[I"]
def wsX4_coverFromOwner : List Cond := .code yX4_coverFromOwner cX4_coverFromOwner 4 none :: ((wsX4_coverFromOwner_r1 ++ wsX4_coverFromOwner_r2) ++ wsX40 ++ wsX30 ++ wsX00)
def wsX4_dueTo : List Cond := .code yX4_dueTo cX4_dueTo 3 (some .int) :: ([.fieldLink RX4 10 "Payoutnet" "shops" "LPayoutnet$Shops;", .fieldLink RX4 168 "Payoutnet$Shops" "balance" "[I", .fieldLink RX4 73 "Payoutnet$Shops" "step" "[I", .fieldLink RX4 81 "Payoutnet$Shops" "least" "[I", .constant RX4 250 (100000), .fieldLink RX4 192 "Payoutnet$Shops" "paid" "[I", .methodLink RX4 119 Lib.Math.min.name, .static Lib.Math.min.name, .initialized "java/lang/Math", .code Lib.Math.min.name Lib.Math.min.code 2 (some .int)] ++ wsX40 ++ wsX30)
def wsX4_payIfDue_r1 : List Cond := [Cond.fieldLink RX4 26 "Payoutnet" "paidOut" "LPayoutnet$Payouts;", Cond.fieldLink RX4 10 "Payoutnet" "shops" "LPayoutnet$Shops;", Cond.fieldLink RX4 192 "Payoutnet$Shops" "paid" "[I", Cond.methodLink RX4 244 yX4_dueTo, Cond.instanceMethod yX4_dueTo, Cond.selects RX4 yX4_dueTo yX4_dueTo, Cond.initialized RX4, Cond.code yX4_dueTo cX4_dueTo 3 (some .int), Cond.fieldLink RX4 168 "Payoutnet$Shops" "balance" "[I", Cond.fieldLink RX4 73 "Payoutnet$Shops" "step" "[I", Cond.fieldLink RX4 81 "Payoutnet$Shops" "least" "[I", Cond.constant RX4 250 (100000), Cond.methodLink RX4 119 Lib.Math.min.name, Cond.static Lib.Math.min.name, Cond.initialized "java/lang/Math", Cond.code Lib.Math.min.name Lib.Math.min.code 2 (some .int), Cond.methodLink RX4 247 yX1_enter, Cond.instanceMethod yX1_enter, Cond.selects RX1 yX1_enter yX1_enter, Cond.initialized RX1, Cond.code yX1_enter cX1_enter 3 (some .boolean), Cond.fieldLink RX1 19 "Payoutnet$Payouts" "count" "I", Cond.fieldLink RX1 13 "Payoutnet$Payouts" "cents" "[I", Cond.fieldLink RX1 7 "Payoutnet$Payouts" "seller" "[I"]
def wsX4_payIfDue_r2 : List Cond := [Cond.methodLink RX1 23 yX1_grow, Cond.instanceMethod yX1_grow, Cond.selects RX1 yX1_grow yX1_grow, Cond.code yX1_grow cX1_grow 2 none, Cond.fieldLink RX1 16 "Payoutnet$Payouts" "failed" "[I", Cond.methodLink RX1 26 yJ7_copyOf_59c91, Cond.static yJ7_copyOf_59c91, Cond.initialized RJ7, Cond.code yJ7_copyOf_59c91 cJ7_copyOf_59c91 3 (some (.array .int)), Cond.methodLink RJ7 316 ⟨"[I", "clone", "()Ljava/lang/Object;"⟩, Cond.sameMethod "[I" "java/lang/Object" "clone" "()Ljava/lang/Object;", Cond.native ⟨"java/lang/Object", "clone", "()Ljava/lang/Object;"⟩, Cond.instanceMethod ⟨"java/lang/Object", "clone", "()Ljava/lang/Object;"⟩, Cond.selects "[I" ⟨"[I", "clone", "()Ljava/lang/Object;"⟩ ⟨"java/lang/Object", "clone", "()Ljava/lang/Object;"⟩, Cond.classLink RJ7 317 "[I", Cond.arrayClass .int, Cond.methodLink RJ7 304 Lib.Math.min.name, Cond.methodLink RJ7 150 arraycopyName, Cond.native arraycopyName, Cond.static arraycopyName, Cond.initialized "java/lang/System", Cond.methodLink RX4 164 yX4_post, Cond.instanceMethod yX4_post, Cond.selects RX4 yX4_post yX4_post]
def wsX4_payIfDue_r3 : List Cond := [Cond.code yX4_post cX4_post 3 none, Cond.fieldLink RX4 33 "Payoutnet" "journal" "LPayoutnet$Journal;", Cond.methodLink RX4 224 yX0_enter, Cond.instanceMethod yX0_enter, Cond.selects RX0 yX0_enter yX0_enter, Cond.initialized RX0, Cond.code yX0_enter cX0_enter 3 none, Cond.fieldLink RX0 21 "Payoutnet$Journal" "count" "I", Cond.fieldLink RX0 15 "Payoutnet$Journal" "seller" "[I", Cond.fieldLink RX0 18 "Payoutnet$Journal" "cents" "[I", Cond.methodLink RX0 25 yX0_carryForward, Cond.instanceMethod yX0_carryForward, Cond.selects RX0 yX0_carryForward yX0_carryForward, Cond.code yX0_carryForward cX0_carryForward 2 none, Cond.fieldLink RX0 9 "Payoutnet$Journal" "carried" "[I"]
def wsX4_payIfDue : List Cond := .code yX4_payIfDue cX4_payIfDue 3 none :: ((wsX4_payIfDue_r1 ++ (wsX4_payIfDue_r2 ++ wsX4_payIfDue_r3)) ++ wsX40 ++ wsX30 ++ wsX10 ++ wsX00)
def wsX4_endDay_r1 : List Cond := [Cond.fieldLink RX4 10 "Payoutnet" "shops" "LPayoutnet$Shops;", Cond.fieldLink RX4 52 "Payoutnet$Shops" "count" "I", Cond.fieldLink RX4 78 "Payoutnet$Shops" "weekday" "[I", Cond.fieldLink RX4 171 "Payoutnet" "today" "I", Cond.methodLink RX4 226 yX4_releaseReserves, Cond.instanceMethod yX4_releaseReserves, Cond.selects RX4 yX4_releaseReserves yX4_releaseReserves, Cond.initialized RX4, Cond.code yX4_releaseReserves cX4_releaseReserves 2 none, Cond.fieldLink RX4 19 "Payoutnet" "sales" "LPayoutnet$Sales;", Cond.fieldLink RX4 129 "Payoutnet$Sales" "count" "I", Cond.fieldLink RX4 221 "Payoutnet$Sales" "heldUntil" "[I", Cond.fieldLink RX4 218 "Payoutnet$Sales" "held" "[I", Cond.methodLink RX4 238 yX4_release, Cond.instanceMethod yX4_release, Cond.selects RX4 yX4_release yX4_release, Cond.code yX4_release cX4_release 3 none, Cond.fieldLink RX4 137 "Payoutnet$Sales" "seller" "[I", Cond.methodLink RX4 164 yX4_post, Cond.instanceMethod yX4_post, Cond.selects RX4 yX4_post yX4_post, Cond.code yX4_post cX4_post 3 none, Cond.fieldLink RX4 168 "Payoutnet$Shops" "balance" "[I", Cond.fieldLink RX4 33 "Payoutnet" "journal" "LPayoutnet$Journal;"]
def wsX4_endDay_r2 : List Cond := [Cond.methodLink RX4 224 yX0_enter, Cond.instanceMethod yX0_enter, Cond.selects RX0 yX0_enter yX0_enter, Cond.initialized RX0, Cond.code yX0_enter cX0_enter 3 none, Cond.fieldLink RX0 21 "Payoutnet$Journal" "count" "I", Cond.fieldLink RX0 15 "Payoutnet$Journal" "seller" "[I", Cond.fieldLink RX0 18 "Payoutnet$Journal" "cents" "[I", Cond.methodLink RX0 25 yX0_carryForward, Cond.instanceMethod yX0_carryForward, Cond.selects RX0 yX0_carryForward yX0_carryForward, Cond.code yX0_carryForward cX0_carryForward 2 none, Cond.fieldLink RX0 9 "Payoutnet$Journal" "carried" "[I", Cond.methodLink RX4 229 yX4_coverFromReserves, Cond.instanceMethod yX4_coverFromReserves, Cond.selects RX4 yX4_coverFromReserves yX4_coverFromReserves, Cond.code yX4_coverFromReserves cX4_coverFromReserves 3 none, Cond.methodLink RX4 119 Lib.Math.min.name, Cond.static Lib.Math.min.name, Cond.initialized "java/lang/Math", Cond.code Lib.Math.min.name Lib.Math.min.code 2 (some .int), Cond.methodLink RX4 232 yX4_coverFromOwner, Cond.instanceMethod yX4_coverFromOwner, Cond.selects RX4 yX4_coverFromOwner yX4_coverFromOwner]
def wsX4_endDay_r3 : List Cond := [Cond.code yX4_coverFromOwner cX4_coverFromOwner 4 none, Cond.fieldLink RX4 241 "Payoutnet$Shops" "owner" "[I", Cond.methodLink RX4 235 yX4_payIfDue, Cond.instanceMethod yX4_payIfDue, Cond.selects RX4 yX4_payIfDue yX4_payIfDue, Cond.code yX4_payIfDue cX4_payIfDue 3 none, Cond.fieldLink RX4 26 "Payoutnet" "paidOut" "LPayoutnet$Payouts;", Cond.fieldLink RX4 192 "Payoutnet$Shops" "paid" "[I", Cond.methodLink RX4 244 yX4_dueTo, Cond.instanceMethod yX4_dueTo, Cond.selects RX4 yX4_dueTo yX4_dueTo, Cond.code yX4_dueTo cX4_dueTo 3 (some .int), Cond.fieldLink RX4 73 "Payoutnet$Shops" "step" "[I", Cond.fieldLink RX4 81 "Payoutnet$Shops" "least" "[I", Cond.constant RX4 250 (100000), Cond.methodLink RX4 247 yX1_enter, Cond.instanceMethod yX1_enter, Cond.selects RX1 yX1_enter yX1_enter, Cond.initialized RX1, Cond.code yX1_enter cX1_enter 3 (some .boolean), Cond.fieldLink RX1 19 "Payoutnet$Payouts" "count" "I", Cond.fieldLink RX1 13 "Payoutnet$Payouts" "cents" "[I", Cond.fieldLink RX1 7 "Payoutnet$Payouts" "seller" "[I", Cond.methodLink RX1 23 yX1_grow]
def wsX4_endDay_r4 : List Cond := [Cond.instanceMethod yX1_grow, Cond.selects RX1 yX1_grow yX1_grow, Cond.code yX1_grow cX1_grow 2 none, Cond.fieldLink RX1 16 "Payoutnet$Payouts" "failed" "[I", Cond.methodLink RX1 26 yJ7_copyOf_59c91, Cond.static yJ7_copyOf_59c91, Cond.initialized RJ7, Cond.code yJ7_copyOf_59c91 cJ7_copyOf_59c91 3 (some (.array .int)), Cond.methodLink RJ7 316 ⟨"[I", "clone", "()Ljava/lang/Object;"⟩, Cond.sameMethod "[I" "java/lang/Object" "clone" "()Ljava/lang/Object;", Cond.native ⟨"java/lang/Object", "clone", "()Ljava/lang/Object;"⟩, Cond.instanceMethod ⟨"java/lang/Object", "clone", "()Ljava/lang/Object;"⟩, Cond.selects "[I" ⟨"[I", "clone", "()Ljava/lang/Object;"⟩ ⟨"java/lang/Object", "clone", "()Ljava/lang/Object;"⟩, Cond.classLink RJ7 317 "[I", Cond.arrayClass .int, Cond.methodLink RJ7 304 Lib.Math.min.name, Cond.methodLink RJ7 150 arraycopyName, Cond.native arraycopyName, Cond.static arraycopyName, Cond.initialized "java/lang/System"]
def wsX4_endDay : List Cond := .code yX4_endDay cX4_endDay 2 none :: ((wsX4_endDay_r1 ++ (wsX4_endDay_r2 ++ (wsX4_endDay_r3 ++ wsX4_endDay_r4))) ++ wsX40 ++ wsX30 ++ wsX20 ++ wsX00 ++ wsX10)
def wsX4_pass_r1 : List Cond := [Cond.classLink RX4 56 "java/lang/IllegalStateException", Cond.initialized "java/lang/IllegalStateException", Cond.fieldLink RX4 171 "Payoutnet" "today" "I", Cond.fieldLink RX4 26 "Payoutnet" "paidOut" "LPayoutnet$Payouts;", Cond.fieldLink RX4 176 "Payoutnet$Payouts" "count" "I", Cond.methodLink RX4 69 yX4_requireBetween, Cond.static yX4_requireBetween, Cond.initialized RX4, Cond.code yX4_requireBetween cX4_requireBetween 3 none, Cond.classLink RX4 112 "java/lang/IllegalArgumentException", Cond.initialized "java/lang/IllegalArgumentException", Cond.methodLink RX4 177 yX4_endDay, Cond.instanceMethod yX4_endDay, Cond.selects RX4 yX4_endDay yX4_endDay, Cond.code yX4_endDay cX4_endDay 2 none, Cond.fieldLink RX4 10 "Payoutnet" "shops" "LPayoutnet$Shops;", Cond.fieldLink RX4 52 "Payoutnet$Shops" "count" "I", Cond.fieldLink RX4 78 "Payoutnet$Shops" "weekday" "[I", Cond.methodLink RX4 226 yX4_releaseReserves, Cond.instanceMethod yX4_releaseReserves, Cond.selects RX4 yX4_releaseReserves yX4_releaseReserves, Cond.code yX4_releaseReserves cX4_releaseReserves 2 none, Cond.fieldLink RX4 19 "Payoutnet" "sales" "LPayoutnet$Sales;", Cond.fieldLink RX4 129 "Payoutnet$Sales" "count" "I"]
def wsX4_pass_r2 : List Cond := [Cond.fieldLink RX4 221 "Payoutnet$Sales" "heldUntil" "[I", Cond.fieldLink RX4 218 "Payoutnet$Sales" "held" "[I", Cond.methodLink RX4 238 yX4_release, Cond.instanceMethod yX4_release, Cond.selects RX4 yX4_release yX4_release, Cond.code yX4_release cX4_release 3 none, Cond.fieldLink RX4 137 "Payoutnet$Sales" "seller" "[I", Cond.methodLink RX4 164 yX4_post, Cond.instanceMethod yX4_post, Cond.selects RX4 yX4_post yX4_post, Cond.code yX4_post cX4_post 3 none, Cond.fieldLink RX4 168 "Payoutnet$Shops" "balance" "[I", Cond.fieldLink RX4 33 "Payoutnet" "journal" "LPayoutnet$Journal;", Cond.methodLink RX4 224 yX0_enter, Cond.instanceMethod yX0_enter, Cond.selects RX0 yX0_enter yX0_enter, Cond.initialized RX0, Cond.code yX0_enter cX0_enter 3 none, Cond.fieldLink RX0 21 "Payoutnet$Journal" "count" "I", Cond.fieldLink RX0 15 "Payoutnet$Journal" "seller" "[I", Cond.fieldLink RX0 18 "Payoutnet$Journal" "cents" "[I", Cond.methodLink RX0 25 yX0_carryForward, Cond.instanceMethod yX0_carryForward, Cond.selects RX0 yX0_carryForward yX0_carryForward]
def wsX4_pass_r3 : List Cond := [Cond.code yX0_carryForward cX0_carryForward 2 none, Cond.fieldLink RX0 9 "Payoutnet$Journal" "carried" "[I", Cond.methodLink RX4 229 yX4_coverFromReserves, Cond.instanceMethod yX4_coverFromReserves, Cond.selects RX4 yX4_coverFromReserves yX4_coverFromReserves, Cond.code yX4_coverFromReserves cX4_coverFromReserves 3 none, Cond.methodLink RX4 119 Lib.Math.min.name, Cond.static Lib.Math.min.name, Cond.initialized "java/lang/Math", Cond.code Lib.Math.min.name Lib.Math.min.code 2 (some .int), Cond.methodLink RX4 232 yX4_coverFromOwner, Cond.instanceMethod yX4_coverFromOwner, Cond.selects RX4 yX4_coverFromOwner yX4_coverFromOwner, Cond.code yX4_coverFromOwner cX4_coverFromOwner 4 none, Cond.fieldLink RX4 241 "Payoutnet$Shops" "owner" "[I", Cond.methodLink RX4 235 yX4_payIfDue, Cond.instanceMethod yX4_payIfDue, Cond.selects RX4 yX4_payIfDue yX4_payIfDue, Cond.code yX4_payIfDue cX4_payIfDue 3 none, Cond.fieldLink RX4 192 "Payoutnet$Shops" "paid" "[I", Cond.methodLink RX4 244 yX4_dueTo, Cond.instanceMethod yX4_dueTo, Cond.selects RX4 yX4_dueTo yX4_dueTo, Cond.code yX4_dueTo cX4_dueTo 3 (some .int)]
def wsX4_pass_r4 : List Cond := [Cond.fieldLink RX4 73 "Payoutnet$Shops" "step" "[I", Cond.fieldLink RX4 81 "Payoutnet$Shops" "least" "[I", Cond.constant RX4 250 (100000), Cond.methodLink RX4 247 yX1_enter, Cond.instanceMethod yX1_enter, Cond.selects RX1 yX1_enter yX1_enter, Cond.initialized RX1, Cond.code yX1_enter cX1_enter 3 (some .boolean), Cond.fieldLink RX1 19 "Payoutnet$Payouts" "count" "I", Cond.fieldLink RX1 13 "Payoutnet$Payouts" "cents" "[I", Cond.fieldLink RX1 7 "Payoutnet$Payouts" "seller" "[I", Cond.methodLink RX1 23 yX1_grow, Cond.instanceMethod yX1_grow, Cond.selects RX1 yX1_grow yX1_grow, Cond.code yX1_grow cX1_grow 2 none, Cond.fieldLink RX1 16 "Payoutnet$Payouts" "failed" "[I", Cond.methodLink RX1 26 yJ7_copyOf_59c91, Cond.static yJ7_copyOf_59c91, Cond.initialized RJ7, Cond.code yJ7_copyOf_59c91 cJ7_copyOf_59c91 3 (some (.array .int)), Cond.methodLink RJ7 316 ⟨"[I", "clone", "()Ljava/lang/Object;"⟩, Cond.sameMethod "[I" "java/lang/Object" "clone" "()Ljava/lang/Object;", Cond.native ⟨"java/lang/Object", "clone", "()Ljava/lang/Object;"⟩, Cond.instanceMethod ⟨"java/lang/Object", "clone", "()Ljava/lang/Object;"⟩]
def wsX4_pass_r5 : List Cond := [Cond.selects "[I" ⟨"[I", "clone", "()Ljava/lang/Object;"⟩ ⟨"java/lang/Object", "clone", "()Ljava/lang/Object;"⟩, Cond.classLink RJ7 317 "[I", Cond.arrayClass .int, Cond.methodLink RJ7 304 Lib.Math.min.name, Cond.methodLink RJ7 150 arraycopyName, Cond.native arraycopyName, Cond.static arraycopyName, Cond.initialized "java/lang/System"]
def wsX4_pass : List Cond := .code yX4_pass cX4_pass 4 (some .int) :: ((wsX4_pass_r1 ++ (wsX4_pass_r2 ++ (wsX4_pass_r3 ++ (wsX4_pass_r4 ++ wsX4_pass_r5)))) ++ wsX40 ++ wsX10 ++ wsX30 ++ wsX20 ++ wsX00 ++ (vx_atS RX4 60 "java/lang/IllegalStateException" ["java/lang/RuntimeException", "java/lang/Exception"]).filter goodWord ++ (vx_atS RX4 116 "java/lang/IllegalArgumentException" ["java/lang/RuntimeException", "java/lang/Exception"]).filter goodWord)
def wsX4_requirePayout : List Cond := .code yX4_requirePayout cX4_requirePayout 2 none :: ([.classLink RX4 45 "java/lang/IndexOutOfBoundsException", .initialized "java/lang/IndexOutOfBoundsException", .fieldLink RX4 26 "Payoutnet" "paidOut" "LPayoutnet$Payouts;", .fieldLink RX4 176 "Payoutnet$Payouts" "count" "I"] ++ wsX40 ++ wsX10 ++ (vx_atS RX4 49 "java/lang/IndexOutOfBoundsException" ["java/lang/RuntimeException", "java/lang/Exception"]).filter goodWord)
def wsX4_fail_r1 : List Cond := [Cond.classLink RX4 56 "java/lang/IllegalStateException", Cond.initialized "java/lang/IllegalStateException", Cond.fieldLink RX4 26 "Payoutnet" "paidOut" "LPayoutnet$Payouts;", Cond.fieldLink RX4 183 "Payoutnet$Payouts" "failed" "[I", Cond.fieldLink RX4 188 "Payoutnet$Payouts" "seller" "[I", Cond.fieldLink RX4 189 "Payoutnet$Payouts" "cents" "[I", Cond.fieldLink RX4 10 "Payoutnet" "shops" "LPayoutnet$Shops;", Cond.fieldLink RX4 192 "Payoutnet$Shops" "paid" "[I", Cond.fieldLink RX4 168 "Payoutnet$Shops" "balance" "[I", Cond.methodLink RX4 180 yX4_requirePayout, Cond.instanceMethod yX4_requirePayout, Cond.selects RX4 yX4_requirePayout yX4_requirePayout, Cond.initialized RX4, Cond.code yX4_requirePayout cX4_requirePayout 2 none, Cond.classLink RX4 45 "java/lang/IndexOutOfBoundsException", Cond.initialized "java/lang/IndexOutOfBoundsException", Cond.fieldLink RX4 176 "Payoutnet$Payouts" "count" "I", Cond.methodLink RX4 164 yX4_post, Cond.instanceMethod yX4_post, Cond.selects RX4 yX4_post yX4_post, Cond.code yX4_post cX4_post 3 none, Cond.fieldLink RX4 33 "Payoutnet" "journal" "LPayoutnet$Journal;", Cond.methodLink RX4 224 yX0_enter, Cond.instanceMethod yX0_enter]
def wsX4_fail_r2 : List Cond := [Cond.selects RX0 yX0_enter yX0_enter, Cond.initialized RX0, Cond.code yX0_enter cX0_enter 3 none, Cond.fieldLink RX0 21 "Payoutnet$Journal" "count" "I", Cond.fieldLink RX0 15 "Payoutnet$Journal" "seller" "[I", Cond.fieldLink RX0 18 "Payoutnet$Journal" "cents" "[I", Cond.methodLink RX0 25 yX0_carryForward, Cond.instanceMethod yX0_carryForward, Cond.selects RX0 yX0_carryForward yX0_carryForward, Cond.code yX0_carryForward cX0_carryForward 2 none, Cond.fieldLink RX0 9 "Payoutnet$Journal" "carried" "[I"]
def wsX4_fail : List Cond := .code yX4_fail cX4_fail 4 (some .int) :: ((wsX4_fail_r1 ++ wsX4_fail_r2) ++ wsX40 ++ wsX10 ++ wsX30 ++ wsX00 ++ (vx_atS RX4 60 "java/lang/IllegalStateException" ["java/lang/RuntimeException", "java/lang/Exception"]).filter goodWord ++ (vx_atS RX4 49 "java/lang/IndexOutOfBoundsException" ["java/lang/RuntimeException", "java/lang/Exception"]).filter goodWord)
def wsX4_today : List Cond := .code yX4_today cX4_today 1 (some .int) :: ([.fieldLink RX4 171 "Payoutnet" "today" "I"] ++ wsX40)
def wsX4_payouts : List Cond := .code yX4_payouts cX4_payouts 1 (some .int) :: ([.fieldLink RX4 26 "Payoutnet" "paidOut" "LPayoutnet$Payouts;", .fieldLink RX4 176 "Payoutnet$Payouts" "count" "I"] ++ wsX40 ++ wsX10)
def wsX4_payout : List Cond := .code yX4_payout cX4_payout 2 (some .int) :: ([.fieldLink RX4 26 "Payoutnet" "paidOut" "LPayoutnet$Payouts;", .fieldLink RX4 189 "Payoutnet$Payouts" "cents" "[I", .methodLink RX4 180 yX4_requirePayout, .instanceMethod yX4_requirePayout, .selects RX4 yX4_requirePayout yX4_requirePayout, .initialized RX4, .code yX4_requirePayout cX4_requirePayout 2 none, .classLink RX4 45 "java/lang/IndexOutOfBoundsException", .initialized "java/lang/IndexOutOfBoundsException", .fieldLink RX4 176 "Payoutnet$Payouts" "count" "I"] ++ wsX40 ++ wsX10 ++ (vx_atS RX4 49 "java/lang/IndexOutOfBoundsException" ["java/lang/RuntimeException", "java/lang/Exception"]).filter goodWord)
def wsX4_sellerOf : List Cond := .code yX4_sellerOf cX4_sellerOf 2 (some .int) :: ([.fieldLink RX4 26 "Payoutnet" "paidOut" "LPayoutnet$Payouts;", .fieldLink RX4 188 "Payoutnet$Payouts" "seller" "[I", .methodLink RX4 180 yX4_requirePayout, .instanceMethod yX4_requirePayout, .selects RX4 yX4_requirePayout yX4_requirePayout, .initialized RX4, .code yX4_requirePayout cX4_requirePayout 2 none, .classLink RX4 45 "java/lang/IndexOutOfBoundsException", .initialized "java/lang/IndexOutOfBoundsException", .fieldLink RX4 176 "Payoutnet$Payouts" "count" "I"] ++ wsX40 ++ wsX10 ++ (vx_atS RX4 49 "java/lang/IndexOutOfBoundsException" ["java/lang/RuntimeException", "java/lang/Exception"]).filter goodWord)
def wsX4_balance : List Cond := .code yX4_balance cX4_balance 2 (some .int) :: ([.fieldLink RX4 10 "Payoutnet" "shops" "LPayoutnet$Shops;", .fieldLink RX4 168 "Payoutnet$Shops" "balance" "[I", .methodLink RX4 65 yX4_requireSeller, .instanceMethod yX4_requireSeller, .selects RX4 yX4_requireSeller yX4_requireSeller, .initialized RX4, .code yX4_requireSeller cX4_requireSeller 2 none, .classLink RX4 45 "java/lang/IndexOutOfBoundsException", .initialized "java/lang/IndexOutOfBoundsException", .fieldLink RX4 52 "Payoutnet$Shops" "count" "I"] ++ wsX40 ++ wsX30 ++ (vx_atS RX4 49 "java/lang/IndexOutOfBoundsException" ["java/lang/RuntimeException", "java/lang/Exception"]).filter goodWord)
def wsX4_balanceByEntries : List Cond := .code yX4_balanceByEntries cX4_balanceByEntries 2 (some .int) :: ([.fieldLink RX4 33 "Payoutnet" "journal" "LPayoutnet$Journal;", .methodLink RX4 65 yX4_requireSeller, .instanceMethod yX4_requireSeller, .selects RX4 yX4_requireSeller yX4_requireSeller, .initialized RX4, .code yX4_requireSeller cX4_requireSeller 2 none, .classLink RX4 45 "java/lang/IndexOutOfBoundsException", .initialized "java/lang/IndexOutOfBoundsException", .fieldLink RX4 10 "Payoutnet" "shops" "LPayoutnet$Shops;", .fieldLink RX4 52 "Payoutnet$Shops" "count" "I", .methodLink RX4 195 yX0_sumOf, .instanceMethod yX0_sumOf, .selects RX0 yX0_sumOf yX0_sumOf, .initialized RX0, .code yX0_sumOf cX0_sumOf 4 (some .int), .fieldLink RX0 9 "Payoutnet$Journal" "carried" "[I", .fieldLink RX0 21 "Payoutnet$Journal" "count" "I", .fieldLink RX0 15 "Payoutnet$Journal" "seller" "[I", .fieldLink RX0 18 "Payoutnet$Journal" "cents" "[I"] ++ wsX40 ++ wsX30 ++ wsX00 ++ (vx_atS RX4 49 "java/lang/IndexOutOfBoundsException" ["java/lang/RuntimeException", "java/lang/Exception"]).filter goodWord)
def wsX4_reserve : List Cond := .code yX4_reserve cX4_reserve 2 (some .int) :: ([.fieldLink RX4 19 "Payoutnet" "sales" "LPayoutnet$Sales;", .methodLink RX4 65 yX4_requireSeller, .instanceMethod yX4_requireSeller, .selects RX4 yX4_requireSeller yX4_requireSeller, .initialized RX4, .code yX4_requireSeller cX4_requireSeller 2 none, .classLink RX4 45 "java/lang/IndexOutOfBoundsException", .initialized "java/lang/IndexOutOfBoundsException", .fieldLink RX4 10 "Payoutnet" "shops" "LPayoutnet$Shops;", .fieldLink RX4 52 "Payoutnet$Shops" "count" "I", .methodLink RX4 198 yX2_heldFor, .instanceMethod yX2_heldFor, .selects RX2 yX2_heldFor yX2_heldFor, .initialized RX2, .code yX2_heldFor cX2_heldFor 4 (some .int), .fieldLink RX2 34 "Payoutnet$Sales" "count" "I", .fieldLink RX2 9 "Payoutnet$Sales" "seller" "[I", .fieldLink RX2 28 "Payoutnet$Sales" "held" "[I"] ++ wsX40 ++ wsX30 ++ wsX20 ++ (vx_atS RX4 49 "java/lang/IndexOutOfBoundsException" ["java/lang/RuntimeException", "java/lang/Exception"]).filter goodWord)
def wsX4_paidTo : List Cond := .code yX4_paidTo cX4_paidTo 2 (some .int) :: ([.fieldLink RX4 10 "Payoutnet" "shops" "LPayoutnet$Shops;", .fieldLink RX4 192 "Payoutnet$Shops" "paid" "[I", .methodLink RX4 65 yX4_requireSeller, .instanceMethod yX4_requireSeller, .selects RX4 yX4_requireSeller yX4_requireSeller, .initialized RX4, .code yX4_requireSeller cX4_requireSeller 2 none, .classLink RX4 45 "java/lang/IndexOutOfBoundsException", .initialized "java/lang/IndexOutOfBoundsException", .fieldLink RX4 52 "Payoutnet$Shops" "count" "I"] ++ wsX40 ++ wsX30 ++ (vx_atS RX4 49 "java/lang/IndexOutOfBoundsException" ["java/lang/RuntimeException", "java/lang/Exception"]).filter goodWord)
def wsX4_received : List Cond := .code yX4_received cX4_received 1 (some .int) :: ([.fieldLink RX4 201 "Payoutnet" "received" "I"] ++ wsX40)
def wsX4_refunded : List Cond := .code yX4_refunded cX4_refunded 1 (some .int) :: ([.fieldLink RX4 155 "Payoutnet" "refunded" "I"] ++ wsX40)
def wsX4_fees : List Cond := .code yX4_fees cX4_fees 1 (some .int) :: ([.fieldLink RX4 161 "Payoutnet" "fees" "I"] ++ wsX40)
def wsX4_taxes : List Cond := .code yX4_taxes cX4_taxes 1 (some .int) :: ([.fieldLink RX4 158 "Payoutnet" "taxes" "I"] ++ wsX40)
def wsX5_init_r1 : List Cond := [Cond.methodLink RX5 1 objectInit, Cond.instanceMethod objectInit, Cond.code objectInit ⟨#[0xb1]⟩ 1 none, Cond.arrayClass .int, Cond.fieldLink RX5 7 "PayoutnetModel" "owners" "[I", Cond.fieldLink RX5 13 "PayoutnetModel" "steps" "[I", Cond.fieldLink RX5 16 "PayoutnetModel" "weekdays" "[I", Cond.fieldLink RX5 19 "PayoutnetModel" "leasts" "[I", Cond.fieldLink RX5 22 "PayoutnetModel" "thousandths" "[I", Cond.fieldLink RX5 25 "PayoutnetModel" "reserveDays" "[I", Cond.fieldLink RX5 28 "PayoutnetModel" "balances" "[I", Cond.fieldLink RX5 31 "PayoutnetModel" "paidTo" "[I", Cond.arrayClass .float, Cond.fieldLink RX5 34 "PayoutnetModel" "shares" "[F", Cond.fieldLink RX5 38 "PayoutnetModel" "saleSellers" "[I", Cond.fieldLink RX5 41 "PayoutnetModel" "amounts" "[I", Cond.fieldLink RX5 44 "PayoutnetModel" "backs" "[I", Cond.fieldLink RX5 47 "PayoutnetModel" "saleShares" "[F", Cond.fieldLink RX5 50 "PayoutnetModel" "saleTaxes" "[I", Cond.fieldLink RX5 53 "PayoutnetModel" "feesTaken" "[I", Cond.fieldLink RX5 56 "PayoutnetModel" "feesBack" "[I", Cond.fieldLink RX5 59 "PayoutnetModel" "held" "[I", Cond.fieldLink RX5 62 "PayoutnetModel" "until" "[I", Cond.fieldLink RX5 65 "PayoutnetModel" "sums" "[I"]
def wsX5_init_r2 : List Cond := [Cond.fieldLink RX5 68 "PayoutnetModel" "paidSellers" "[I", Cond.arrayClass .boolean, Cond.fieldLink RX5 71 "PayoutnetModel" "areFailed" "[Z", Cond.constantFloat RX5 75 (1036831949)]
def wsX5_init : List Cond := .code yX5_init cX5_init 2 none :: ((wsX5_init_r1 ++ wsX5_init_r2) ++ wsX50)
def wsX5_thrown : List Cond := .code yX5_thrown cX5_thrown 1 (some .int) :: ([.fieldLink RX5 76 "PayoutnetModel" "thrown" "I"] ++ wsX50)
def wsX5_holds : List Cond := .code yX5_holds cX5_holds 2 (some .boolean) :: ([.fieldLink RX5 76 "PayoutnetModel" "thrown" "I"] ++ wsX50)
def wsX5_in : List Cond := .code yX5_in cX5_in 3 (some .boolean) :: ([])
def wsX5_isSeller : List Cond := .code yX5_isSeller cX5_isSeller 2 (some .boolean) :: ([.fieldLink RX5 80 "PayoutnetModel" "sellers" "I", .methodLink RX5 83 yX5_in, .static yX5_in, .initialized RX5, .code yX5_in cX5_in 3 (some .boolean)] ++ wsX50)
def wsX5_isKind : List Cond := .code yX5_isKind cX5_isKind 1 (some .boolean) :: ([.methodLink RX5 83 yX5_in, .static yX5_in, .initialized RX5, .code yX5_in cX5_in 3 (some .boolean)])
def wsX5_addSeller : List Cond := .code yX5_addSeller cX5_addSeller 2 (some .int) :: ([.fieldLink RX5 80 "PayoutnetModel" "sellers" "I", .fieldLink RX5 7 "PayoutnetModel" "owners" "[I", .fieldLink RX5 19 "PayoutnetModel" "leasts" "[I", .fieldLink RX5 25 "PayoutnetModel" "reserveDays" "[I", .methodLink RX5 83 yX5_in, .static yX5_in, .initialized RX5, .code yX5_in cX5_in 3 (some .boolean), .methodLink RX5 87 yX5_holds, .instanceMethod yX5_holds, .selects RX5 yX5_holds yX5_holds, .code yX5_holds cX5_holds 2 (some .boolean), .fieldLink RX5 76 "PayoutnetModel" "thrown" "I"] ++ wsX50)
def wsX5_verify : List Cond := .code yX5_verify cX5_verify 4 (some .int) :: ([.fieldLink RX5 13 "PayoutnetModel" "steps" "[I", .methodLink RX5 91 yX5_isSeller, .instanceMethod yX5_isSeller, .selects RX5 yX5_isSeller yX5_isSeller, .initialized RX5, .code yX5_isSeller cX5_isSeller 2 (some .boolean), .fieldLink RX5 80 "PayoutnetModel" "sellers" "I", .methodLink RX5 83 yX5_in, .static yX5_in, .code yX5_in cX5_in 3 (some .boolean), .methodLink RX5 87 yX5_holds, .instanceMethod yX5_holds, .selects RX5 yX5_holds yX5_holds, .code yX5_holds cX5_holds 2 (some .boolean), .fieldLink RX5 76 "PayoutnetModel" "thrown" "I"] ++ wsX50)
def wsX5_setPayouts : List Cond := .code yX5_setPayouts cX5_setPayouts 4 none :: ([.constant RX5 94 (1000000), .fieldLink RX5 16 "PayoutnetModel" "weekdays" "[I", .fieldLink RX5 19 "PayoutnetModel" "leasts" "[I", .methodLink RX5 91 yX5_isSeller, .instanceMethod yX5_isSeller, .selects RX5 yX5_isSeller yX5_isSeller, .initialized RX5, .code yX5_isSeller cX5_isSeller 2 (some .boolean), .fieldLink RX5 80 "PayoutnetModel" "sellers" "I", .methodLink RX5 83 yX5_in, .static yX5_in, .code yX5_in cX5_in 3 (some .boolean), .methodLink RX5 87 yX5_holds, .instanceMethod yX5_holds, .selects RX5 yX5_holds yX5_holds, .code yX5_holds cX5_holds 2 (some .boolean), .fieldLink RX5 76 "PayoutnetModel" "thrown" "I"] ++ wsX50)
def wsX5_setReserve : List Cond := .code yX5_setReserve cX5_setReserve 4 none :: ([.fieldLink RX5 22 "PayoutnetModel" "thousandths" "[I", .fieldLink RX5 25 "PayoutnetModel" "reserveDays" "[I", .methodLink RX5 91 yX5_isSeller, .instanceMethod yX5_isSeller, .selects RX5 yX5_isSeller yX5_isSeller, .initialized RX5, .code yX5_isSeller cX5_isSeller 2 (some .boolean), .fieldLink RX5 80 "PayoutnetModel" "sellers" "I", .methodLink RX5 83 yX5_in, .static yX5_in, .code yX5_in cX5_in 3 (some .boolean), .methodLink RX5 87 yX5_holds, .instanceMethod yX5_holds, .selects RX5 yX5_holds yX5_holds, .code yX5_holds cX5_holds 2 (some .boolean), .fieldLink RX5 76 "PayoutnetModel" "thrown" "I"] ++ wsX50)
def wsJxf58ca_isNaN_12338 : List Cond := .code yJxf58ca_isNaN_12338 cJxf58ca_isNaN_12338 1 (some .boolean) :: ([])
def wsJxf58ca_floatToIntBits_5c35a : List Cond := .code yJxf58ca_floatToIntBits_5c35a cJxf58ca_floatToIntBits_5c35a 1 (some .int) :: ([.methodLink RJxf58ca 74 ⟨"java/lang/Float", "floatToRawIntBits", "(F)I"⟩, .native ⟨"java/lang/Float", "floatToRawIntBits", "(F)I"⟩, .static ⟨"java/lang/Float", "floatToRawIntBits", "(F)I"⟩, .initialized "java/lang/Float", .constant RJxf58ca 77 (2143289344), .methodLink RJxf58ca 59 yJxf58ca_isNaN_12338, .static yJxf58ca_isNaN_12338, .initialized RJxf58ca, .code yJxf58ca_isNaN_12338 cJxf58ca_isNaN_12338 1 (some .boolean)])
def wsX5_setShare_r1 : List Cond := [Cond.fieldLink RX5 34 "PayoutnetModel" "shares" "[F", Cond.constantFloat RX5 98 (1148846080), Cond.methodLink RX5 95 yX5_isKind, Cond.static yX5_isKind, Cond.initialized RX5, Cond.code yX5_isKind cX5_isKind 1 (some .boolean), Cond.methodLink RX5 83 yX5_in, Cond.static yX5_in, Cond.code yX5_in cX5_in 3 (some .boolean), Cond.methodLink RX5 87 yX5_holds, Cond.instanceMethod yX5_holds, Cond.selects RX5 yX5_holds yX5_holds, Cond.code yX5_holds cX5_holds 2 (some .boolean), Cond.fieldLink RX5 76 "PayoutnetModel" "thrown" "I", Cond.methodLink RX5 99 yJxf58ca_floatToIntBits_5c35a, Cond.static yJxf58ca_floatToIntBits_5c35a, Cond.initialized RJxf58ca, Cond.code yJxf58ca_floatToIntBits_5c35a cJxf58ca_floatToIntBits_5c35a 1 (some .int), Cond.methodLink RJxf58ca 74 ⟨"java/lang/Float", "floatToRawIntBits", "(F)I"⟩, Cond.native ⟨"java/lang/Float", "floatToRawIntBits", "(F)I"⟩, Cond.static ⟨"java/lang/Float", "floatToRawIntBits", "(F)I"⟩, Cond.initialized "java/lang/Float", Cond.constant RJxf58ca 77 (2143289344), Cond.methodLink RJxf58ca 59 yJxf58ca_isNaN_12338]
def wsX5_setShare_r2 : List Cond := [Cond.static yJxf58ca_isNaN_12338, Cond.code yJxf58ca_isNaN_12338 cJxf58ca_isNaN_12338 1 (some .boolean)]
def wsX5_setShare : List Cond := .code yX5_setShare cX5_setShare 3 (some .int) :: ((wsX5_setShare_r1 ++ wsX5_setShare_r2) ++ wsX50)
def wsX5_setTax : List Cond := .code yX5_setTax cX5_setTax 3 (some .int) :: ([.fieldLink RX5 105 "PayoutnetModel" "tax" "I", .methodLink RX5 83 yX5_in, .static yX5_in, .initialized RX5, .code yX5_in cX5_in 3 (some .boolean), .methodLink RX5 87 yX5_holds, .instanceMethod yX5_holds, .selects RX5 yX5_holds yX5_holds, .code yX5_holds cX5_holds 2 (some .boolean), .fieldLink RX5 76 "PayoutnetModel" "thrown" "I"] ++ wsX50)
def wsX5_feeOn : List Cond := .code yX5_feeOn cX5_feeOn 2 (some .int) :: ([])
def wsX5_settles : List Cond := .code yX5_settles cX5_settles 8 none :: ([.fieldLink RX5 105 "PayoutnetModel" "tax" "I", .fieldLink RX5 34 "PayoutnetModel" "shares" "[F", .fieldLink RX5 22 "PayoutnetModel" "thousandths" "[I", .constantLong RX5 112 (1000), .fieldLink RX5 38 "PayoutnetModel" "saleSellers" "[I", .fieldLink RX5 114 "PayoutnetModel" "sales" "I", .fieldLink RX5 41 "PayoutnetModel" "amounts" "[I", .fieldLink RX5 47 "PayoutnetModel" "saleShares" "[F", .fieldLink RX5 50 "PayoutnetModel" "saleTaxes" "[I", .fieldLink RX5 53 "PayoutnetModel" "feesTaken" "[I", .fieldLink RX5 59 "PayoutnetModel" "held" "[I", .fieldLink RX5 62 "PayoutnetModel" "until" "[I", .fieldLink RX5 117 "PayoutnetModel" "today" "I", .fieldLink RX5 25 "PayoutnetModel" "reserveDays" "[I", .fieldLink RX5 28 "PayoutnetModel" "balances" "[I", .fieldLink RX5 120 "PayoutnetModel" "received" "I", .fieldLink RX5 123 "PayoutnetModel" "fees" "I", .fieldLink RX5 126 "PayoutnetModel" "taxes" "I", .methodLink RX5 108 yX5_feeOn, .static yX5_feeOn, .initialized RX5, .code yX5_feeOn cX5_feeOn 2 (some .int)] ++ wsX50)
def wsX5_sell_r1 : List Cond := [Cond.constant RX5 94 (1000000), Cond.fieldLink RX5 114 "PayoutnetModel" "sales" "I", Cond.methodLink RX5 91 yX5_isSeller, Cond.instanceMethod yX5_isSeller, Cond.selects RX5 yX5_isSeller yX5_isSeller, Cond.initialized RX5, Cond.code yX5_isSeller cX5_isSeller 2 (some .boolean), Cond.fieldLink RX5 80 "PayoutnetModel" "sellers" "I", Cond.methodLink RX5 83 yX5_in, Cond.static yX5_in, Cond.code yX5_in cX5_in 3 (some .boolean), Cond.methodLink RX5 95 yX5_isKind, Cond.static yX5_isKind, Cond.code yX5_isKind cX5_isKind 1 (some .boolean), Cond.methodLink RX5 87 yX5_holds, Cond.instanceMethod yX5_holds, Cond.selects RX5 yX5_holds yX5_holds, Cond.code yX5_holds cX5_holds 2 (some .boolean), Cond.fieldLink RX5 76 "PayoutnetModel" "thrown" "I", Cond.methodLink RX5 129 yX5_settles, Cond.instanceMethod yX5_settles, Cond.selects RX5 yX5_settles yX5_settles, Cond.code yX5_settles cX5_settles 8 none, Cond.fieldLink RX5 105 "PayoutnetModel" "tax" "I"]
def wsX5_sell_r2 : List Cond := [Cond.fieldLink RX5 34 "PayoutnetModel" "shares" "[F", Cond.fieldLink RX5 22 "PayoutnetModel" "thousandths" "[I", Cond.constantLong RX5 112 (1000), Cond.fieldLink RX5 38 "PayoutnetModel" "saleSellers" "[I", Cond.fieldLink RX5 41 "PayoutnetModel" "amounts" "[I", Cond.fieldLink RX5 47 "PayoutnetModel" "saleShares" "[F", Cond.fieldLink RX5 50 "PayoutnetModel" "saleTaxes" "[I", Cond.fieldLink RX5 53 "PayoutnetModel" "feesTaken" "[I", Cond.fieldLink RX5 59 "PayoutnetModel" "held" "[I", Cond.fieldLink RX5 62 "PayoutnetModel" "until" "[I", Cond.fieldLink RX5 117 "PayoutnetModel" "today" "I", Cond.fieldLink RX5 25 "PayoutnetModel" "reserveDays" "[I", Cond.fieldLink RX5 28 "PayoutnetModel" "balances" "[I", Cond.fieldLink RX5 120 "PayoutnetModel" "received" "I", Cond.fieldLink RX5 123 "PayoutnetModel" "fees" "I", Cond.fieldLink RX5 126 "PayoutnetModel" "taxes" "I", Cond.methodLink RX5 108 yX5_feeOn, Cond.static yX5_feeOn, Cond.code yX5_feeOn cX5_feeOn 2 (some .int)]
def wsX5_sell : List Cond := .code yX5_sell cX5_sell 5 (some .int) :: ((wsX5_sell_r1 ++ wsX5_sell_r2) ++ wsX50)
def wsX5_many : List Cond := .code yX5_many cX5_many 3 (some .int) :: ([])
def wsX5_order_r1 : List Cond := [Cond.constant RX5 94 (1000000), Cond.fieldLink RX5 80 "PayoutnetModel" "sellers" "I", Cond.fieldLink RX5 114 "PayoutnetModel" "sales" "I", Cond.methodLink RX5 83 yX5_in, Cond.static yX5_in, Cond.initialized RX5, Cond.code yX5_in cX5_in 3 (some .boolean), Cond.methodLink RX5 133 yX5_many, Cond.static yX5_many, Cond.code yX5_many cX5_many 3 (some .int), Cond.methodLink RX5 95 yX5_isKind, Cond.static yX5_isKind, Cond.code yX5_isKind cX5_isKind 1 (some .boolean), Cond.methodLink RX5 87 yX5_holds, Cond.instanceMethod yX5_holds, Cond.selects RX5 yX5_holds yX5_holds, Cond.code yX5_holds cX5_holds 2 (some .boolean), Cond.fieldLink RX5 76 "PayoutnetModel" "thrown" "I", Cond.methodLink RX5 129 yX5_settles, Cond.instanceMethod yX5_settles, Cond.selects RX5 yX5_settles yX5_settles, Cond.code yX5_settles cX5_settles 8 none, Cond.fieldLink RX5 105 "PayoutnetModel" "tax" "I", Cond.fieldLink RX5 34 "PayoutnetModel" "shares" "[F"]
def wsX5_order_r2 : List Cond := [Cond.fieldLink RX5 22 "PayoutnetModel" "thousandths" "[I", Cond.constantLong RX5 112 (1000), Cond.fieldLink RX5 38 "PayoutnetModel" "saleSellers" "[I", Cond.fieldLink RX5 41 "PayoutnetModel" "amounts" "[I", Cond.fieldLink RX5 47 "PayoutnetModel" "saleShares" "[F", Cond.fieldLink RX5 50 "PayoutnetModel" "saleTaxes" "[I", Cond.fieldLink RX5 53 "PayoutnetModel" "feesTaken" "[I", Cond.fieldLink RX5 59 "PayoutnetModel" "held" "[I", Cond.fieldLink RX5 62 "PayoutnetModel" "until" "[I", Cond.fieldLink RX5 117 "PayoutnetModel" "today" "I", Cond.fieldLink RX5 25 "PayoutnetModel" "reserveDays" "[I", Cond.fieldLink RX5 28 "PayoutnetModel" "balances" "[I", Cond.fieldLink RX5 120 "PayoutnetModel" "received" "I", Cond.fieldLink RX5 123 "PayoutnetModel" "fees" "I", Cond.fieldLink RX5 126 "PayoutnetModel" "taxes" "I", Cond.methodLink RX5 108 yX5_feeOn, Cond.static yX5_feeOn, Cond.code yX5_feeOn cX5_feeOn 2 (some .int)]
def wsX5_order : List Cond := .code yX5_order cX5_order 11 (some .int) :: ((wsX5_order_r1 ++ wsX5_order_r2) ++ wsX50)
def wsX5_refund_r1 : List Cond := [Cond.fieldLink RX5 114 "PayoutnetModel" "sales" "I", Cond.constant RX5 94 (1000000), Cond.fieldLink RX5 41 "PayoutnetModel" "amounts" "[I", Cond.fieldLink RX5 44 "PayoutnetModel" "backs" "[I", Cond.fieldLink RX5 50 "PayoutnetModel" "saleTaxes" "[I", Cond.fieldLink RX5 47 "PayoutnetModel" "saleShares" "[F", Cond.fieldLink RX5 56 "PayoutnetModel" "feesBack" "[I", Cond.fieldLink RX5 53 "PayoutnetModel" "feesTaken" "[I", Cond.fieldLink RX5 137 "PayoutnetModel" "refunded" "I", Cond.fieldLink RX5 126 "PayoutnetModel" "taxes" "I", Cond.fieldLink RX5 123 "PayoutnetModel" "fees" "I", Cond.fieldLink RX5 28 "PayoutnetModel" "balances" "[I", Cond.fieldLink RX5 38 "PayoutnetModel" "saleSellers" "[I", Cond.methodLink RX5 83 yX5_in, Cond.static yX5_in, Cond.initialized RX5, Cond.code yX5_in cX5_in 3 (some .boolean), Cond.methodLink RX5 87 yX5_holds, Cond.instanceMethod yX5_holds, Cond.selects RX5 yX5_holds yX5_holds, Cond.code yX5_holds cX5_holds 2 (some .boolean), Cond.fieldLink RX5 76 "PayoutnetModel" "thrown" "I", Cond.methodLink RX5 108 yX5_feeOn, Cond.static yX5_feeOn]
def wsX5_refund_r2 : List Cond := [Cond.code yX5_feeOn cX5_feeOn 2 (some .int)]
def wsX5_refund : List Cond := .code yX5_refund cX5_refund 7 (some .int) :: ((wsX5_refund_r1 ++ wsX5_refund_r2) ++ wsX50)
def wsX5_releases : List Cond := .code yX5_releases cX5_releases 2 none :: ([.fieldLink RX5 114 "PayoutnetModel" "sales" "I", .fieldLink RX5 62 "PayoutnetModel" "until" "[I", .fieldLink RX5 117 "PayoutnetModel" "today" "I", .fieldLink RX5 28 "PayoutnetModel" "balances" "[I", .fieldLink RX5 38 "PayoutnetModel" "saleSellers" "[I", .fieldLink RX5 59 "PayoutnetModel" "held" "[I"] ++ wsX50)
def wsX5_least : List Cond := .code yX5_least cX5_least 2 (some .int) :: ([])
def wsX5_coversByReserves : List Cond := .code yX5_coversByReserves cX5_coversByReserves 4 none :: ([.fieldLink RX5 114 "PayoutnetModel" "sales" "I", .fieldLink RX5 28 "PayoutnetModel" "balances" "[I", .fieldLink RX5 38 "PayoutnetModel" "saleSellers" "[I", .fieldLink RX5 59 "PayoutnetModel" "held" "[I", .methodLink RX5 140 yX5_least, .static yX5_least, .initialized RX5, .code yX5_least cX5_least 2 (some .int)] ++ wsX50)
def wsX5_coversByOthers : List Cond := .code yX5_coversByOthers cX5_coversByOthers 5 none :: ([.fieldLink RX5 80 "PayoutnetModel" "sellers" "I", .fieldLink RX5 28 "PayoutnetModel" "balances" "[I", .fieldLink RX5 7 "PayoutnetModel" "owners" "[I", .methodLink RX5 140 yX5_least, .static yX5_least, .initialized RX5, .code yX5_least cX5_least 2 (some .int)] ++ wsX50)
def wsX5_pays : List Cond := .code yX5_pays cX5_pays 3 none :: ([.fieldLink RX5 28 "PayoutnetModel" "balances" "[I", .fieldLink RX5 19 "PayoutnetModel" "leasts" "[I", .fieldLink RX5 13 "PayoutnetModel" "steps" "[I", .constant RX5 144 (100000), .fieldLink RX5 31 "PayoutnetModel" "paidTo" "[I", .fieldLink RX5 65 "PayoutnetModel" "sums" "[I", .fieldLink RX5 145 "PayoutnetModel" "payouts" "I", .fieldLink RX5 68 "PayoutnetModel" "paidSellers" "[I", .methodLink RX5 140 yX5_least, .static yX5_least, .initialized RX5, .code yX5_least cX5_least 2 (some .int)] ++ wsX50)
def wsX5_ends_r1 : List Cond := [Cond.fieldLink RX5 80 "PayoutnetModel" "sellers" "I", Cond.fieldLink RX5 16 "PayoutnetModel" "weekdays" "[I", Cond.fieldLink RX5 117 "PayoutnetModel" "today" "I", Cond.methodLink RX5 148 yX5_releases, Cond.instanceMethod yX5_releases, Cond.selects RX5 yX5_releases yX5_releases, Cond.initialized RX5, Cond.code yX5_releases cX5_releases 2 none, Cond.fieldLink RX5 114 "PayoutnetModel" "sales" "I", Cond.fieldLink RX5 62 "PayoutnetModel" "until" "[I", Cond.fieldLink RX5 28 "PayoutnetModel" "balances" "[I", Cond.fieldLink RX5 38 "PayoutnetModel" "saleSellers" "[I", Cond.fieldLink RX5 59 "PayoutnetModel" "held" "[I", Cond.methodLink RX5 151 yX5_coversByReserves, Cond.instanceMethod yX5_coversByReserves, Cond.selects RX5 yX5_coversByReserves yX5_coversByReserves, Cond.code yX5_coversByReserves cX5_coversByReserves 4 none, Cond.methodLink RX5 140 yX5_least, Cond.static yX5_least, Cond.code yX5_least cX5_least 2 (some .int), Cond.methodLink RX5 155 yX5_coversByOthers, Cond.instanceMethod yX5_coversByOthers, Cond.selects RX5 yX5_coversByOthers yX5_coversByOthers, Cond.code yX5_coversByOthers cX5_coversByOthers 5 none]
def wsX5_ends_r2 : List Cond := [Cond.fieldLink RX5 7 "PayoutnetModel" "owners" "[I", Cond.methodLink RX5 158 yX5_pays, Cond.instanceMethod yX5_pays, Cond.selects RX5 yX5_pays yX5_pays, Cond.code yX5_pays cX5_pays 3 none, Cond.fieldLink RX5 19 "PayoutnetModel" "leasts" "[I", Cond.fieldLink RX5 13 "PayoutnetModel" "steps" "[I", Cond.constant RX5 144 (100000), Cond.fieldLink RX5 31 "PayoutnetModel" "paidTo" "[I", Cond.fieldLink RX5 65 "PayoutnetModel" "sums" "[I", Cond.fieldLink RX5 145 "PayoutnetModel" "payouts" "I", Cond.fieldLink RX5 68 "PayoutnetModel" "paidSellers" "[I"]
def wsX5_ends : List Cond := .code yX5_ends cX5_ends 2 none :: ((wsX5_ends_r1 ++ wsX5_ends_r2) ++ wsX50)
def wsX5_pass_r1 : List Cond := [Cond.fieldLink RX5 117 "PayoutnetModel" "today" "I", Cond.fieldLink RX5 145 "PayoutnetModel" "payouts" "I", Cond.methodLink RX5 83 yX5_in, Cond.static yX5_in, Cond.initialized RX5, Cond.code yX5_in cX5_in 3 (some .boolean), Cond.methodLink RX5 87 yX5_holds, Cond.instanceMethod yX5_holds, Cond.selects RX5 yX5_holds yX5_holds, Cond.code yX5_holds cX5_holds 2 (some .boolean), Cond.fieldLink RX5 76 "PayoutnetModel" "thrown" "I", Cond.methodLink RX5 161 yX5_ends, Cond.instanceMethod yX5_ends, Cond.selects RX5 yX5_ends yX5_ends, Cond.code yX5_ends cX5_ends 2 none, Cond.fieldLink RX5 80 "PayoutnetModel" "sellers" "I", Cond.fieldLink RX5 16 "PayoutnetModel" "weekdays" "[I", Cond.methodLink RX5 148 yX5_releases, Cond.instanceMethod yX5_releases, Cond.selects RX5 yX5_releases yX5_releases, Cond.code yX5_releases cX5_releases 2 none, Cond.fieldLink RX5 114 "PayoutnetModel" "sales" "I", Cond.fieldLink RX5 62 "PayoutnetModel" "until" "[I", Cond.fieldLink RX5 28 "PayoutnetModel" "balances" "[I"]
def wsX5_pass_r2 : List Cond := [Cond.fieldLink RX5 38 "PayoutnetModel" "saleSellers" "[I", Cond.fieldLink RX5 59 "PayoutnetModel" "held" "[I", Cond.methodLink RX5 151 yX5_coversByReserves, Cond.instanceMethod yX5_coversByReserves, Cond.selects RX5 yX5_coversByReserves yX5_coversByReserves, Cond.code yX5_coversByReserves cX5_coversByReserves 4 none, Cond.methodLink RX5 140 yX5_least, Cond.static yX5_least, Cond.code yX5_least cX5_least 2 (some .int), Cond.methodLink RX5 155 yX5_coversByOthers, Cond.instanceMethod yX5_coversByOthers, Cond.selects RX5 yX5_coversByOthers yX5_coversByOthers, Cond.code yX5_coversByOthers cX5_coversByOthers 5 none, Cond.fieldLink RX5 7 "PayoutnetModel" "owners" "[I", Cond.methodLink RX5 158 yX5_pays, Cond.instanceMethod yX5_pays, Cond.selects RX5 yX5_pays yX5_pays, Cond.code yX5_pays cX5_pays 3 none, Cond.fieldLink RX5 19 "PayoutnetModel" "leasts" "[I", Cond.fieldLink RX5 13 "PayoutnetModel" "steps" "[I", Cond.constant RX5 144 (100000), Cond.fieldLink RX5 31 "PayoutnetModel" "paidTo" "[I", Cond.fieldLink RX5 65 "PayoutnetModel" "sums" "[I", Cond.fieldLink RX5 68 "PayoutnetModel" "paidSellers" "[I"]
def wsX5_pass : List Cond := .code yX5_pass cX5_pass 4 (some .int) :: ((wsX5_pass_r1 ++ wsX5_pass_r2) ++ wsX50)
def wsX5_isPayout : List Cond := .code yX5_isPayout cX5_isPayout 2 (some .boolean) :: ([.fieldLink RX5 145 "PayoutnetModel" "payouts" "I", .methodLink RX5 83 yX5_in, .static yX5_in, .initialized RX5, .code yX5_in cX5_in 3 (some .boolean)] ++ wsX50)
def wsX5_fail : List Cond := .code yX5_fail cX5_fail 3 (some .int) :: ([.fieldLink RX5 71 "PayoutnetModel" "areFailed" "[Z", .fieldLink RX5 68 "PayoutnetModel" "paidSellers" "[I", .fieldLink RX5 28 "PayoutnetModel" "balances" "[I", .fieldLink RX5 65 "PayoutnetModel" "sums" "[I", .fieldLink RX5 31 "PayoutnetModel" "paidTo" "[I", .methodLink RX5 164 yX5_isPayout, .instanceMethod yX5_isPayout, .selects RX5 yX5_isPayout yX5_isPayout, .initialized RX5, .code yX5_isPayout cX5_isPayout 2 (some .boolean), .fieldLink RX5 145 "PayoutnetModel" "payouts" "I", .methodLink RX5 83 yX5_in, .static yX5_in, .code yX5_in cX5_in 3 (some .boolean), .methodLink RX5 87 yX5_holds, .instanceMethod yX5_holds, .selects RX5 yX5_holds yX5_holds, .code yX5_holds cX5_holds 2 (some .boolean), .fieldLink RX5 76 "PayoutnetModel" "thrown" "I"] ++ wsX50)
def wsX5_today : List Cond := .code yX5_today cX5_today 1 (some .int) :: ([.fieldLink RX5 76 "PayoutnetModel" "thrown" "I", .fieldLink RX5 117 "PayoutnetModel" "today" "I"] ++ wsX50)
def wsX5_payouts : List Cond := .code yX5_payouts cX5_payouts 1 (some .int) :: ([.fieldLink RX5 76 "PayoutnetModel" "thrown" "I", .fieldLink RX5 145 "PayoutnetModel" "payouts" "I"] ++ wsX50)
def wsX5_payout : List Cond := .code yX5_payout cX5_payout 2 (some .int) :: ([.fieldLink RX5 65 "PayoutnetModel" "sums" "[I", .methodLink RX5 164 yX5_isPayout, .instanceMethod yX5_isPayout, .selects RX5 yX5_isPayout yX5_isPayout, .initialized RX5, .code yX5_isPayout cX5_isPayout 2 (some .boolean), .fieldLink RX5 145 "PayoutnetModel" "payouts" "I", .methodLink RX5 83 yX5_in, .static yX5_in, .code yX5_in cX5_in 3 (some .boolean), .methodLink RX5 87 yX5_holds, .instanceMethod yX5_holds, .selects RX5 yX5_holds yX5_holds, .code yX5_holds cX5_holds 2 (some .boolean), .fieldLink RX5 76 "PayoutnetModel" "thrown" "I"] ++ wsX50)
def wsX5_sellerOf : List Cond := .code yX5_sellerOf cX5_sellerOf 2 (some .int) :: ([.fieldLink RX5 68 "PayoutnetModel" "paidSellers" "[I", .methodLink RX5 164 yX5_isPayout, .instanceMethod yX5_isPayout, .selects RX5 yX5_isPayout yX5_isPayout, .initialized RX5, .code yX5_isPayout cX5_isPayout 2 (some .boolean), .fieldLink RX5 145 "PayoutnetModel" "payouts" "I", .methodLink RX5 83 yX5_in, .static yX5_in, .code yX5_in cX5_in 3 (some .boolean), .methodLink RX5 87 yX5_holds, .instanceMethod yX5_holds, .selects RX5 yX5_holds yX5_holds, .code yX5_holds cX5_holds 2 (some .boolean), .fieldLink RX5 76 "PayoutnetModel" "thrown" "I"] ++ wsX50)
def wsX5_balance : List Cond := .code yX5_balance cX5_balance 2 (some .int) :: ([.fieldLink RX5 28 "PayoutnetModel" "balances" "[I", .methodLink RX5 91 yX5_isSeller, .instanceMethod yX5_isSeller, .selects RX5 yX5_isSeller yX5_isSeller, .initialized RX5, .code yX5_isSeller cX5_isSeller 2 (some .boolean), .fieldLink RX5 80 "PayoutnetModel" "sellers" "I", .methodLink RX5 83 yX5_in, .static yX5_in, .code yX5_in cX5_in 3 (some .boolean), .methodLink RX5 87 yX5_holds, .instanceMethod yX5_holds, .selects RX5 yX5_holds yX5_holds, .code yX5_holds cX5_holds 2 (some .boolean), .fieldLink RX5 76 "PayoutnetModel" "thrown" "I"] ++ wsX50)
def wsX5_balanceByEntries : List Cond := .code yX5_balanceByEntries cX5_balanceByEntries 2 (some .int) :: ([.fieldLink RX5 28 "PayoutnetModel" "balances" "[I", .methodLink RX5 91 yX5_isSeller, .instanceMethod yX5_isSeller, .selects RX5 yX5_isSeller yX5_isSeller, .initialized RX5, .code yX5_isSeller cX5_isSeller 2 (some .boolean), .fieldLink RX5 80 "PayoutnetModel" "sellers" "I", .methodLink RX5 83 yX5_in, .static yX5_in, .code yX5_in cX5_in 3 (some .boolean), .methodLink RX5 87 yX5_holds, .instanceMethod yX5_holds, .selects RX5 yX5_holds yX5_holds, .code yX5_holds cX5_holds 2 (some .boolean), .fieldLink RX5 76 "PayoutnetModel" "thrown" "I"] ++ wsX50)
def wsX5_reserve : List Cond := .code yX5_reserve cX5_reserve 4 (some .int) :: ([.fieldLink RX5 114 "PayoutnetModel" "sales" "I", .fieldLink RX5 38 "PayoutnetModel" "saleSellers" "[I", .fieldLink RX5 59 "PayoutnetModel" "held" "[I", .methodLink RX5 91 yX5_isSeller, .instanceMethod yX5_isSeller, .selects RX5 yX5_isSeller yX5_isSeller, .initialized RX5, .code yX5_isSeller cX5_isSeller 2 (some .boolean), .fieldLink RX5 80 "PayoutnetModel" "sellers" "I", .methodLink RX5 83 yX5_in, .static yX5_in, .code yX5_in cX5_in 3 (some .boolean), .methodLink RX5 87 yX5_holds, .instanceMethod yX5_holds, .selects RX5 yX5_holds yX5_holds, .code yX5_holds cX5_holds 2 (some .boolean), .fieldLink RX5 76 "PayoutnetModel" "thrown" "I"] ++ wsX50)
def wsX5_paidTo : List Cond := .code yX5_paidTo cX5_paidTo 2 (some .int) :: ([.fieldLink RX5 31 "PayoutnetModel" "paidTo" "[I", .methodLink RX5 91 yX5_isSeller, .instanceMethod yX5_isSeller, .selects RX5 yX5_isSeller yX5_isSeller, .initialized RX5, .code yX5_isSeller cX5_isSeller 2 (some .boolean), .fieldLink RX5 80 "PayoutnetModel" "sellers" "I", .methodLink RX5 83 yX5_in, .static yX5_in, .code yX5_in cX5_in 3 (some .boolean), .methodLink RX5 87 yX5_holds, .instanceMethod yX5_holds, .selects RX5 yX5_holds yX5_holds, .code yX5_holds cX5_holds 2 (some .boolean), .fieldLink RX5 76 "PayoutnetModel" "thrown" "I"] ++ wsX50)
def wsX5_received : List Cond := .code yX5_received cX5_received 1 (some .int) :: ([.fieldLink RX5 76 "PayoutnetModel" "thrown" "I", .fieldLink RX5 120 "PayoutnetModel" "received" "I"] ++ wsX50)
def wsX5_refunded : List Cond := .code yX5_refunded cX5_refunded 1 (some .int) :: ([.fieldLink RX5 76 "PayoutnetModel" "thrown" "I", .fieldLink RX5 137 "PayoutnetModel" "refunded" "I"] ++ wsX50)
def wsX5_fees : List Cond := .code yX5_fees cX5_fees 1 (some .int) :: ([.fieldLink RX5 76 "PayoutnetModel" "thrown" "I", .fieldLink RX5 123 "PayoutnetModel" "fees" "I"] ++ wsX50)
def wsX5_taxes : List Cond := .code yX5_taxes cX5_taxes 1 (some .int) :: ([.fieldLink RX5 76 "PayoutnetModel" "thrown" "I", .fieldLink RX5 126 "PayoutnetModel" "taxes" "I"] ++ wsX50)
def wsJ9_min_7cf53 : List Cond := .code yJ9_min_7cf53 cJ9_min_7cf53 2 (some .int) :: ([])
def wsL_addSeller : List Cond := .codeWith yL_addSeller cL_addSeller 4 (some .int) [(0, 9, 12, 13), (0, 9, 15, 15)] :: ([.classLink RL 13 "java/lang/IndexOutOfBoundsException", .classLink RL 15 "java/lang/IllegalStateException", .methodLink RL 7 yX4_addSeller, .instanceMethod yX4_addSeller, .selects RX4 yX4_addSeller yX4_addSeller, .initialized RX4, .code yX4_addSeller cX4_addSeller 2 (some .int), .classLink RX4 45 "java/lang/IndexOutOfBoundsException", .initialized "java/lang/IndexOutOfBoundsException", .classLink RX4 56 "java/lang/IllegalStateException", .initialized "java/lang/IllegalStateException", .fieldLink RX4 10 "Payoutnet" "shops" "LPayoutnet$Shops;", .fieldLink RX4 52 "Payoutnet$Shops" "count" "I", .methodLink RX4 61 yX3_enter, .instanceMethod yX3_enter, .selects RX3 yX3_enter yX3_enter, .initialized RX3, .code yX3_enter cX3_enter 3 (some .int), .fieldLink RX3 36 "Payoutnet$Shops" "count" "I", .fieldLink RX3 9 "Payoutnet$Shops" "owner" "[I", .fieldLink RX3 21 "Payoutnet$Shops" "least" "[I", .fieldLink RX3 27 "Payoutnet$Shops" "reserveDays" "[I"] ++ wsX40 ++ wsX30 ++ (vx_atS RX4 49 "java/lang/IndexOutOfBoundsException" ["java/lang/RuntimeException", "java/lang/Exception"]).filter goodWord ++ (vx_atS RX4 60 "java/lang/IllegalStateException" ["java/lang/RuntimeException", "java/lang/Exception"]).filter goodWord)
def wsL_verify : List Cond := .codeWith yL_verify cL_verify 5 (some .int) [(0, 10, 13, 13), (0, 10, 17, 21)] :: ([.classLink RL 13 "java/lang/IndexOutOfBoundsException", .classLink RL 21 "java/lang/IllegalArgumentException", .methodLink RL 17 yX4_verify, .instanceMethod yX4_verify, .selects RX4 yX4_verify yX4_verify, .initialized RX4, .code yX4_verify cX4_verify 4 (some .int), .fieldLink RX4 10 "Payoutnet" "shops" "LPayoutnet$Shops;", .fieldLink RX4 73 "Payoutnet$Shops" "step" "[I", .methodLink RX4 65 yX4_requireSeller, .instanceMethod yX4_requireSeller, .selects RX4 yX4_requireSeller yX4_requireSeller, .code yX4_requireSeller cX4_requireSeller 2 none, .classLink RX4 45 "java/lang/IndexOutOfBoundsException", .initialized "java/lang/IndexOutOfBoundsException", .fieldLink RX4 52 "Payoutnet$Shops" "count" "I", .methodLink RX4 69 yX4_requireBetween, .static yX4_requireBetween, .code yX4_requireBetween cX4_requireBetween 3 none, .classLink RX4 112 "java/lang/IllegalArgumentException", .initialized "java/lang/IllegalArgumentException"] ++ wsX40 ++ wsX30 ++ (vx_atS RX4 49 "java/lang/IndexOutOfBoundsException" ["java/lang/RuntimeException", "java/lang/Exception"]).filter goodWord ++ (vx_atS RX4 116 "java/lang/IllegalArgumentException" ["java/lang/RuntimeException", "java/lang/Exception"]).filter goodWord)
def wsL_setPayouts : List Cond := .codeWith yL_setPayouts cL_setPayouts 5 (some .int) [(0, 7, 10, 13), (0, 7, 14, 21)] :: ([.classLink RL 13 "java/lang/IndexOutOfBoundsException", .classLink RL 21 "java/lang/IllegalArgumentException", .methodLink RL 23 yX4_setPayouts, .instanceMethod yX4_setPayouts, .selects RX4 yX4_setPayouts yX4_setPayouts, .initialized RX4, .code yX4_setPayouts cX4_setPayouts 4 none, .constant RX4 77 (1000000), .fieldLink RX4 10 "Payoutnet" "shops" "LPayoutnet$Shops;", .fieldLink RX4 78 "Payoutnet$Shops" "weekday" "[I", .fieldLink RX4 81 "Payoutnet$Shops" "least" "[I", .methodLink RX4 65 yX4_requireSeller, .instanceMethod yX4_requireSeller, .selects RX4 yX4_requireSeller yX4_requireSeller, .code yX4_requireSeller cX4_requireSeller 2 none, .classLink RX4 45 "java/lang/IndexOutOfBoundsException", .initialized "java/lang/IndexOutOfBoundsException", .fieldLink RX4 52 "Payoutnet$Shops" "count" "I", .methodLink RX4 69 yX4_requireBetween, .static yX4_requireBetween, .code yX4_requireBetween cX4_requireBetween 3 none, .classLink RX4 112 "java/lang/IllegalArgumentException", .initialized "java/lang/IllegalArgumentException"] ++ wsX40 ++ wsX30 ++ (vx_atS RX4 49 "java/lang/IndexOutOfBoundsException" ["java/lang/RuntimeException", "java/lang/Exception"]).filter goodWord ++ (vx_atS RX4 116 "java/lang/IllegalArgumentException" ["java/lang/RuntimeException", "java/lang/Exception"]).filter goodWord)
def wsL_setReserve : List Cond := .codeWith yL_setReserve cL_setReserve 5 (some .int) [(0, 7, 10, 13), (0, 7, 14, 21)] :: ([.classLink RL 13 "java/lang/IndexOutOfBoundsException", .classLink RL 21 "java/lang/IllegalArgumentException", .methodLink RL 27 yX4_setReserve, .instanceMethod yX4_setReserve, .selects RX4 yX4_setReserve yX4_setReserve, .initialized RX4, .code yX4_setReserve cX4_setReserve 4 none, .fieldLink RX4 10 "Payoutnet" "shops" "LPayoutnet$Shops;", .fieldLink RX4 84 "Payoutnet$Shops" "reserveThousandths" "[I", .fieldLink RX4 87 "Payoutnet$Shops" "reserveDays" "[I", .methodLink RX4 65 yX4_requireSeller, .instanceMethod yX4_requireSeller, .selects RX4 yX4_requireSeller yX4_requireSeller, .code yX4_requireSeller cX4_requireSeller 2 none, .classLink RX4 45 "java/lang/IndexOutOfBoundsException", .initialized "java/lang/IndexOutOfBoundsException", .fieldLink RX4 52 "Payoutnet$Shops" "count" "I", .methodLink RX4 69 yX4_requireBetween, .static yX4_requireBetween, .code yX4_requireBetween cX4_requireBetween 3 none, .classLink RX4 112 "java/lang/IllegalArgumentException", .initialized "java/lang/IllegalArgumentException"] ++ wsX40 ++ wsX30 ++ (vx_atS RX4 49 "java/lang/IndexOutOfBoundsException" ["java/lang/RuntimeException", "java/lang/Exception"]).filter goodWord ++ (vx_atS RX4 116 "java/lang/IllegalArgumentException" ["java/lang/RuntimeException", "java/lang/Exception"]).filter goodWord)
def wsL_setShare_r1 : List Cond := [Cond.classLink RL 13 "java/lang/IndexOutOfBoundsException", Cond.classLink RL 21 "java/lang/IllegalArgumentException", Cond.methodLink RL 30 yX4_setShare, Cond.instanceMethod yX4_setShare, Cond.selects RX4 yX4_setShare yX4_setShare, Cond.initialized RX4, Cond.code yX4_setShare cX4_setShare 4 (some .int), Cond.fieldLink RX4 37 "Payoutnet" "shares" "[F", Cond.methodLink RX4 90 yX4_requireKind, Cond.static yX4_requireKind, Cond.code yX4_requireKind cX4_requireKind 1 none, Cond.classLink RX4 45 "java/lang/IndexOutOfBoundsException", Cond.initialized "java/lang/IndexOutOfBoundsException", Cond.methodLink RX4 69 yX4_requireBetween, Cond.static yX4_requireBetween, Cond.code yX4_requireBetween cX4_requireBetween 3 none, Cond.classLink RX4 112 "java/lang/IllegalArgumentException", Cond.initialized "java/lang/IllegalArgumentException", Cond.methodLink RX4 41 yX4_shareOf, Cond.static yX4_shareOf, Cond.code yX4_shareOf cX4_shareOf 1 (some .float), Cond.constantFloat RX4 214 (1148846080), Cond.methodLink RX4 93 yX4_bitsOf, Cond.static yX4_bitsOf]
def wsL_setShare_r2 : List Cond := [Cond.code yX4_bitsOf cX4_bitsOf 4 (some .int), Cond.constantFloat RX4 215 (1258291200)]
def wsL_setShare : List Cond := .codeWith yL_setShare cL_setShare 5 (some .int) [(0, 10, 13, 13), (0, 10, 17, 21)] :: ((wsL_setShare_r1 ++ wsL_setShare_r2) ++ wsX40 ++ (vx_atS RX4 49 "java/lang/IndexOutOfBoundsException" ["java/lang/RuntimeException", "java/lang/Exception"]).filter goodWord ++ (vx_atS RX4 116 "java/lang/IllegalArgumentException" ["java/lang/RuntimeException", "java/lang/Exception"]).filter goodWord)
def wsL_setTax : List Cond := .codeWith yL_setTax cL_setTax 4 (some .int) [(0, 9, 12, 21)] :: ([.classLink RL 21 "java/lang/IllegalArgumentException", .methodLink RL 33 yX4_setTax, .instanceMethod yX4_setTax, .selects RX4 yX4_setTax yX4_setTax, .initialized RX4, .code yX4_setTax cX4_setTax 3 (some .int), .fieldLink RX4 97 "Payoutnet" "taxThousandths" "I", .methodLink RX4 69 yX4_requireBetween, .static yX4_requireBetween, .code yX4_requireBetween cX4_requireBetween 3 none, .classLink RX4 112 "java/lang/IllegalArgumentException", .initialized "java/lang/IllegalArgumentException"] ++ wsX40 ++ (vx_atS RX4 116 "java/lang/IllegalArgumentException" ["java/lang/RuntimeException", "java/lang/Exception"]).filter goodWord)
def wsL_sell_r1 : List Cond := [Cond.classLink RL 13 "java/lang/IndexOutOfBoundsException", Cond.classLink RL 21 "java/lang/IllegalArgumentException", Cond.classLink RL 15 "java/lang/IllegalStateException", Cond.methodLink RL 36 yX4_sell, Cond.instanceMethod yX4_sell, Cond.selects RX4 yX4_sell yX4_sell, Cond.initialized RX4, Cond.code yX4_sell cX4_sell 4 (some .int), Cond.constant RX4 77 (1000000), Cond.methodLink RX4 65 yX4_requireSeller, Cond.instanceMethod yX4_requireSeller, Cond.selects RX4 yX4_requireSeller yX4_requireSeller, Cond.code yX4_requireSeller cX4_requireSeller 2 none, Cond.classLink RX4 45 "java/lang/IndexOutOfBoundsException", Cond.initialized "java/lang/IndexOutOfBoundsException", Cond.fieldLink RX4 10 "Payoutnet" "shops" "LPayoutnet$Shops;", Cond.fieldLink RX4 52 "Payoutnet$Shops" "count" "I", Cond.methodLink RX4 90 yX4_requireKind, Cond.static yX4_requireKind, Cond.code yX4_requireKind cX4_requireKind 1 none, Cond.methodLink RX4 69 yX4_requireBetween, Cond.static yX4_requireBetween, Cond.code yX4_requireBetween cX4_requireBetween 3 none, Cond.classLink RX4 112 "java/lang/IllegalArgumentException"]
def wsL_sell_r2 : List Cond := [Cond.initialized "java/lang/IllegalArgumentException", Cond.methodLink RX4 100 yX4_requireRoomForSales, Cond.instanceMethod yX4_requireRoomForSales, Cond.selects RX4 yX4_requireRoomForSales yX4_requireRoomForSales, Cond.code yX4_requireRoomForSales cX4_requireRoomForSales 2 none, Cond.classLink RX4 56 "java/lang/IllegalStateException", Cond.initialized "java/lang/IllegalStateException", Cond.fieldLink RX4 19 "Payoutnet" "sales" "LPayoutnet$Sales;", Cond.fieldLink RX4 129 "Payoutnet$Sales" "count" "I", Cond.methodLink RX4 103 yX4_settle, Cond.instanceMethod yX4_settle, Cond.selects RX4 yX4_settle yX4_settle, Cond.code yX4_settle cX4_settle 10 (some .int), Cond.fieldLink RX4 37 "Payoutnet" "shares" "[F", Cond.fieldLink RX4 97 "Payoutnet" "taxThousandths" "I", Cond.methodLink RX4 119 Lib.Math.min.name, Cond.static Lib.Math.min.name, Cond.initialized "java/lang/Math", Cond.code Lib.Math.min.name Lib.Math.min.code 2 (some .int), Cond.fieldLink RX4 84 "Payoutnet$Shops" "reserveThousandths" "[I", Cond.fieldLink RX4 145 "Payoutnet$Sales" "share" "[F", Cond.fieldLink RX4 140 "Payoutnet$Sales" "taxThousandths" "[I", Cond.fieldLink RX4 152 "Payoutnet$Sales" "feeKept" "[I", Cond.fieldLink RX4 218 "Payoutnet$Sales" "held" "[I"]
def wsL_sell_r3 : List Cond := [Cond.fieldLink RX4 221 "Payoutnet$Sales" "heldUntil" "[I", Cond.fieldLink RX4 171 "Payoutnet" "today" "I", Cond.fieldLink RX4 87 "Payoutnet$Shops" "reserveDays" "[I", Cond.fieldLink RX4 201 "Payoutnet" "received" "I", Cond.fieldLink RX4 158 "Payoutnet" "taxes" "I", Cond.fieldLink RX4 161 "Payoutnet" "fees" "I", Cond.methodLink RX4 142 yX4_partOf, Cond.static yX4_partOf, Cond.code yX4_partOf cX4_partOf 2 (some .int), Cond.methodLink RX4 148 yX4_feeOn, Cond.static yX4_feeOn, Cond.code yX4_feeOn cX4_feeOn 2 (some .int), Cond.methodLink RX4 216 yX2_enter, Cond.instanceMethod yX2_enter, Cond.selects RX2 yX2_enter yX2_enter, Cond.initialized RX2, Cond.code yX2_enter cX2_enter 4 (some .int), Cond.fieldLink RX2 34 "Payoutnet$Sales" "count" "I", Cond.fieldLink RX2 9 "Payoutnet$Sales" "seller" "[I", Cond.fieldLink RX2 22 "Payoutnet$Sales" "unrefunded" "[I", Cond.methodLink RX4 164 yX4_post, Cond.instanceMethod yX4_post, Cond.selects RX4 yX4_post yX4_post, Cond.code yX4_post cX4_post 3 none]
def wsL_sell_r4 : List Cond := [Cond.fieldLink RX4 168 "Payoutnet$Shops" "balance" "[I", Cond.fieldLink RX4 33 "Payoutnet" "journal" "LPayoutnet$Journal;", Cond.methodLink RX4 224 yX0_enter, Cond.instanceMethod yX0_enter, Cond.selects RX0 yX0_enter yX0_enter, Cond.initialized RX0, Cond.code yX0_enter cX0_enter 3 none, Cond.fieldLink RX0 21 "Payoutnet$Journal" "count" "I", Cond.fieldLink RX0 15 "Payoutnet$Journal" "seller" "[I", Cond.fieldLink RX0 18 "Payoutnet$Journal" "cents" "[I", Cond.methodLink RX0 25 yX0_carryForward, Cond.instanceMethod yX0_carryForward, Cond.selects RX0 yX0_carryForward yX0_carryForward, Cond.code yX0_carryForward cX0_carryForward 2 none, Cond.fieldLink RX0 9 "Payoutnet$Journal" "carried" "[I"]
def wsL_sell : List Cond := .codeWith yL_sell cL_sell 6 (some .int) [(0, 12, 15, 13), (0, 12, 19, 21), (0, 12, 23, 15)] :: ((wsL_sell_r1 ++ (wsL_sell_r2 ++ (wsL_sell_r3 ++ wsL_sell_r4))) ++ wsX40 ++ wsX30 ++ wsX20 ++ wsX00 ++ (vx_atS RX4 49 "java/lang/IndexOutOfBoundsException" ["java/lang/RuntimeException", "java/lang/Exception"]).filter goodWord ++ (vx_atS RX4 116 "java/lang/IllegalArgumentException" ["java/lang/RuntimeException", "java/lang/Exception"]).filter goodWord ++ (vx_atS RX4 60 "java/lang/IllegalStateException" ["java/lang/RuntimeException", "java/lang/Exception"]).filter goodWord)
def wsL_order_r1 : List Cond := [Cond.classLink RL 13 "java/lang/IndexOutOfBoundsException", Cond.classLink RL 21 "java/lang/IllegalArgumentException", Cond.classLink RL 15 "java/lang/IllegalStateException", Cond.methodLink RL 40 yX4_order, Cond.instanceMethod yX4_order, Cond.selects RX4 yX4_order yX4_order, Cond.initialized RX4, Cond.code yX4_order cX4_order 6 (some .int), Cond.classLink RX4 112 "java/lang/IllegalArgumentException", Cond.initialized "java/lang/IllegalArgumentException", Cond.classLink RX4 56 "java/lang/IllegalStateException", Cond.initialized "java/lang/IllegalStateException", Cond.constant RX4 77 (1000000), Cond.fieldLink RX4 10 "Payoutnet" "shops" "LPayoutnet$Shops;", Cond.fieldLink RX4 52 "Payoutnet$Shops" "count" "I", Cond.methodLink RX4 119 Lib.Math.min.name, Cond.static Lib.Math.min.name, Cond.initialized "java/lang/Math", Cond.code Lib.Math.min.name Lib.Math.min.code 2 (some .int), Cond.methodLink RX4 90 yX4_requireKind, Cond.static yX4_requireKind, Cond.code yX4_requireKind cX4_requireKind 1 none, Cond.classLink RX4 45 "java/lang/IndexOutOfBoundsException", Cond.initialized "java/lang/IndexOutOfBoundsException"]
def wsL_order_r2 : List Cond := [Cond.methodLink RX4 69 yX4_requireBetween, Cond.static yX4_requireBetween, Cond.code yX4_requireBetween cX4_requireBetween 3 none, Cond.methodLink RX4 107 yJ6_bitCount_0f7a4, Cond.static yJ6_bitCount_0f7a4, Cond.initialized RJ6, Cond.code yJ6_bitCount_0f7a4 cJ6_bitCount_0f7a4 1 (some .int), Cond.constant RJ6 265 (1431655765), Cond.constant RJ6 266 (858993459), Cond.constant RJ6 267 (252645135), Cond.methodLink RX4 100 yX4_requireRoomForSales, Cond.instanceMethod yX4_requireRoomForSales, Cond.selects RX4 yX4_requireRoomForSales yX4_requireRoomForSales, Cond.code yX4_requireRoomForSales cX4_requireRoomForSales 2 none, Cond.fieldLink RX4 19 "Payoutnet" "sales" "LPayoutnet$Sales;", Cond.fieldLink RX4 129 "Payoutnet$Sales" "count" "I", Cond.methodLink RX4 125 yX4_settleParts, Cond.instanceMethod yX4_settleParts, Cond.selects RX4 yX4_settleParts yX4_settleParts, Cond.code yX4_settleParts cX4_settleParts 8 none, Cond.methodLink RX4 103 yX4_settle, Cond.instanceMethod yX4_settle, Cond.selects RX4 yX4_settle yX4_settle, Cond.code yX4_settle cX4_settle 10 (some .int)]
def wsL_order_r3 : List Cond := [Cond.fieldLink RX4 37 "Payoutnet" "shares" "[F", Cond.fieldLink RX4 97 "Payoutnet" "taxThousandths" "I", Cond.fieldLink RX4 84 "Payoutnet$Shops" "reserveThousandths" "[I", Cond.fieldLink RX4 145 "Payoutnet$Sales" "share" "[F", Cond.fieldLink RX4 140 "Payoutnet$Sales" "taxThousandths" "[I", Cond.fieldLink RX4 152 "Payoutnet$Sales" "feeKept" "[I", Cond.fieldLink RX4 218 "Payoutnet$Sales" "held" "[I", Cond.fieldLink RX4 221 "Payoutnet$Sales" "heldUntil" "[I", Cond.fieldLink RX4 171 "Payoutnet" "today" "I", Cond.fieldLink RX4 87 "Payoutnet$Shops" "reserveDays" "[I", Cond.fieldLink RX4 201 "Payoutnet" "received" "I", Cond.fieldLink RX4 158 "Payoutnet" "taxes" "I", Cond.fieldLink RX4 161 "Payoutnet" "fees" "I", Cond.methodLink RX4 142 yX4_partOf, Cond.static yX4_partOf, Cond.code yX4_partOf cX4_partOf 2 (some .int), Cond.methodLink RX4 148 yX4_feeOn, Cond.static yX4_feeOn, Cond.code yX4_feeOn cX4_feeOn 2 (some .int), Cond.methodLink RX4 216 yX2_enter, Cond.instanceMethod yX2_enter, Cond.selects RX2 yX2_enter yX2_enter, Cond.initialized RX2, Cond.code yX2_enter cX2_enter 4 (some .int)]
def wsL_order_r4 : List Cond := [Cond.fieldLink RX2 34 "Payoutnet$Sales" "count" "I", Cond.fieldLink RX2 9 "Payoutnet$Sales" "seller" "[I", Cond.fieldLink RX2 22 "Payoutnet$Sales" "unrefunded" "[I", Cond.methodLink RX4 164 yX4_post, Cond.instanceMethod yX4_post, Cond.selects RX4 yX4_post yX4_post, Cond.code yX4_post cX4_post 3 none, Cond.fieldLink RX4 168 "Payoutnet$Shops" "balance" "[I", Cond.fieldLink RX4 33 "Payoutnet" "journal" "LPayoutnet$Journal;", Cond.methodLink RX4 224 yX0_enter, Cond.instanceMethod yX0_enter, Cond.selects RX0 yX0_enter yX0_enter, Cond.initialized RX0, Cond.code yX0_enter cX0_enter 3 none, Cond.fieldLink RX0 21 "Payoutnet$Journal" "count" "I", Cond.fieldLink RX0 15 "Payoutnet$Journal" "seller" "[I", Cond.fieldLink RX0 18 "Payoutnet$Journal" "cents" "[I", Cond.methodLink RX0 25 yX0_carryForward, Cond.instanceMethod yX0_carryForward, Cond.selects RX0 yX0_carryForward yX0_carryForward, Cond.code yX0_carryForward cX0_carryForward 2 none, Cond.fieldLink RX0 9 "Payoutnet$Journal" "carried" "[I"]
def wsL_order : List Cond := .codeWith yL_order cL_order 6 (some .int) [(0, 12, 15, 13), (0, 12, 19, 21), (0, 12, 23, 15)] :: ((wsL_order_r1 ++ (wsL_order_r2 ++ (wsL_order_r3 ++ wsL_order_r4))) ++ wsX40 ++ wsX30 ++ wsX20 ++ wsX00 ++ (vx_atS RX4 116 "java/lang/IllegalArgumentException" ["java/lang/RuntimeException", "java/lang/Exception"]).filter goodWord ++ (vx_atS RX4 60 "java/lang/IllegalStateException" ["java/lang/RuntimeException", "java/lang/Exception"]).filter goodWord ++ (vx_atS RX4 49 "java/lang/IndexOutOfBoundsException" ["java/lang/RuntimeException", "java/lang/Exception"]).filter goodWord)
def wsL_refund_r1 : List Cond := [Cond.classLink RL 13 "java/lang/IndexOutOfBoundsException", Cond.classLink RL 21 "java/lang/IllegalArgumentException", Cond.classLink RL 15 "java/lang/IllegalStateException", Cond.methodLink RL 43 yX4_refund, Cond.instanceMethod yX4_refund, Cond.selects RX4 yX4_refund yX4_refund, Cond.initialized RX4, Cond.code yX4_refund cX4_refund 7 (some .int), Cond.classLink RX4 45 "java/lang/IndexOutOfBoundsException", Cond.initialized "java/lang/IndexOutOfBoundsException", Cond.classLink RX4 56 "java/lang/IllegalStateException", Cond.initialized "java/lang/IllegalStateException", Cond.fieldLink RX4 19 "Payoutnet" "sales" "LPayoutnet$Sales;", Cond.fieldLink RX4 129 "Payoutnet$Sales" "count" "I", Cond.constant RX4 77 (1000000), Cond.fieldLink RX4 132 "Payoutnet$Sales" "unrefunded" "[I", Cond.fieldLink RX4 137 "Payoutnet$Sales" "seller" "[I", Cond.fieldLink RX4 140 "Payoutnet$Sales" "taxThousandths" "[I", Cond.fieldLink RX4 145 "Payoutnet$Sales" "share" "[F", Cond.fieldLink RX4 152 "Payoutnet$Sales" "feeKept" "[I", Cond.methodLink RX4 119 Lib.Math.min.name, Cond.static Lib.Math.min.name, Cond.initialized "java/lang/Math", Cond.code Lib.Math.min.name Lib.Math.min.code 2 (some .int)]
def wsL_refund_r2 : List Cond := [Cond.fieldLink RX4 155 "Payoutnet" "refunded" "I", Cond.fieldLink RX4 158 "Payoutnet" "taxes" "I", Cond.fieldLink RX4 161 "Payoutnet" "fees" "I", Cond.fieldLink RX4 10 "Payoutnet" "shops" "LPayoutnet$Shops;", Cond.fieldLink RX4 168 "Payoutnet$Shops" "balance" "[I", Cond.methodLink RX4 69 yX4_requireBetween, Cond.static yX4_requireBetween, Cond.code yX4_requireBetween cX4_requireBetween 3 none, Cond.classLink RX4 112 "java/lang/IllegalArgumentException", Cond.initialized "java/lang/IllegalArgumentException", Cond.methodLink RX4 142 yX4_partOf, Cond.static yX4_partOf, Cond.code yX4_partOf cX4_partOf 2 (some .int), Cond.methodLink RX4 148 yX4_feeOn, Cond.static yX4_feeOn, Cond.code yX4_feeOn cX4_feeOn 2 (some .int), Cond.methodLink RX4 164 yX4_post, Cond.instanceMethod yX4_post, Cond.selects RX4 yX4_post yX4_post, Cond.code yX4_post cX4_post 3 none, Cond.fieldLink RX4 33 "Payoutnet" "journal" "LPayoutnet$Journal;", Cond.methodLink RX4 224 yX0_enter, Cond.instanceMethod yX0_enter, Cond.selects RX0 yX0_enter yX0_enter]
def wsL_refund_r3 : List Cond := [Cond.initialized RX0, Cond.code yX0_enter cX0_enter 3 none, Cond.fieldLink RX0 21 "Payoutnet$Journal" "count" "I", Cond.fieldLink RX0 15 "Payoutnet$Journal" "seller" "[I", Cond.fieldLink RX0 18 "Payoutnet$Journal" "cents" "[I", Cond.methodLink RX0 25 yX0_carryForward, Cond.instanceMethod yX0_carryForward, Cond.selects RX0 yX0_carryForward yX0_carryForward, Cond.code yX0_carryForward cX0_carryForward 2 none, Cond.fieldLink RX0 9 "Payoutnet$Journal" "carried" "[I"]
def wsL_refund : List Cond := .codeWith yL_refund cL_refund 6 (some .int) [(0, 12, 15, 13), (0, 12, 19, 21), (0, 12, 23, 15)] :: ((wsL_refund_r1 ++ (wsL_refund_r2 ++ wsL_refund_r3)) ++ wsX40 ++ wsX20 ++ wsX30 ++ wsX00 ++ (vx_atS RX4 49 "java/lang/IndexOutOfBoundsException" ["java/lang/RuntimeException", "java/lang/Exception"]).filter goodWord ++ (vx_atS RX4 60 "java/lang/IllegalStateException" ["java/lang/RuntimeException", "java/lang/Exception"]).filter goodWord ++ (vx_atS RX4 116 "java/lang/IllegalArgumentException" ["java/lang/RuntimeException", "java/lang/Exception"]).filter goodWord)
def wsL_pass_r1 : List Cond := [Cond.classLink RL 21 "java/lang/IllegalArgumentException", Cond.classLink RL 15 "java/lang/IllegalStateException", Cond.methodLink RL 47 yX4_pass, Cond.instanceMethod yX4_pass, Cond.selects RX4 yX4_pass yX4_pass, Cond.initialized RX4, Cond.code yX4_pass cX4_pass 4 (some .int), Cond.classLink RX4 56 "java/lang/IllegalStateException", Cond.initialized "java/lang/IllegalStateException", Cond.fieldLink RX4 171 "Payoutnet" "today" "I", Cond.fieldLink RX4 26 "Payoutnet" "paidOut" "LPayoutnet$Payouts;", Cond.fieldLink RX4 176 "Payoutnet$Payouts" "count" "I", Cond.methodLink RX4 69 yX4_requireBetween, Cond.static yX4_requireBetween, Cond.code yX4_requireBetween cX4_requireBetween 3 none, Cond.classLink RX4 112 "java/lang/IllegalArgumentException", Cond.initialized "java/lang/IllegalArgumentException", Cond.methodLink RX4 177 yX4_endDay, Cond.instanceMethod yX4_endDay, Cond.selects RX4 yX4_endDay yX4_endDay, Cond.code yX4_endDay cX4_endDay 2 none, Cond.fieldLink RX4 10 "Payoutnet" "shops" "LPayoutnet$Shops;", Cond.fieldLink RX4 52 "Payoutnet$Shops" "count" "I", Cond.fieldLink RX4 78 "Payoutnet$Shops" "weekday" "[I"]
def wsL_pass_r2 : List Cond := [Cond.methodLink RX4 226 yX4_releaseReserves, Cond.instanceMethod yX4_releaseReserves, Cond.selects RX4 yX4_releaseReserves yX4_releaseReserves, Cond.code yX4_releaseReserves cX4_releaseReserves 2 none, Cond.fieldLink RX4 19 "Payoutnet" "sales" "LPayoutnet$Sales;", Cond.fieldLink RX4 129 "Payoutnet$Sales" "count" "I", Cond.fieldLink RX4 221 "Payoutnet$Sales" "heldUntil" "[I", Cond.fieldLink RX4 218 "Payoutnet$Sales" "held" "[I", Cond.methodLink RX4 238 yX4_release, Cond.instanceMethod yX4_release, Cond.selects RX4 yX4_release yX4_release, Cond.code yX4_release cX4_release 3 none, Cond.fieldLink RX4 137 "Payoutnet$Sales" "seller" "[I", Cond.methodLink RX4 164 yX4_post, Cond.instanceMethod yX4_post, Cond.selects RX4 yX4_post yX4_post, Cond.code yX4_post cX4_post 3 none, Cond.fieldLink RX4 168 "Payoutnet$Shops" "balance" "[I", Cond.fieldLink RX4 33 "Payoutnet" "journal" "LPayoutnet$Journal;", Cond.methodLink RX4 224 yX0_enter, Cond.instanceMethod yX0_enter, Cond.selects RX0 yX0_enter yX0_enter, Cond.initialized RX0, Cond.code yX0_enter cX0_enter 3 none]
def wsL_pass_r3 : List Cond := [Cond.fieldLink RX0 21 "Payoutnet$Journal" "count" "I", Cond.fieldLink RX0 15 "Payoutnet$Journal" "seller" "[I", Cond.fieldLink RX0 18 "Payoutnet$Journal" "cents" "[I", Cond.methodLink RX0 25 yX0_carryForward, Cond.instanceMethod yX0_carryForward, Cond.selects RX0 yX0_carryForward yX0_carryForward, Cond.code yX0_carryForward cX0_carryForward 2 none, Cond.fieldLink RX0 9 "Payoutnet$Journal" "carried" "[I", Cond.methodLink RX4 229 yX4_coverFromReserves, Cond.instanceMethod yX4_coverFromReserves, Cond.selects RX4 yX4_coverFromReserves yX4_coverFromReserves, Cond.code yX4_coverFromReserves cX4_coverFromReserves 3 none, Cond.methodLink RX4 119 Lib.Math.min.name, Cond.static Lib.Math.min.name, Cond.initialized "java/lang/Math", Cond.code Lib.Math.min.name Lib.Math.min.code 2 (some .int), Cond.methodLink RX4 232 yX4_coverFromOwner, Cond.instanceMethod yX4_coverFromOwner, Cond.selects RX4 yX4_coverFromOwner yX4_coverFromOwner, Cond.code yX4_coverFromOwner cX4_coverFromOwner 4 none, Cond.fieldLink RX4 241 "Payoutnet$Shops" "owner" "[I", Cond.methodLink RX4 235 yX4_payIfDue, Cond.instanceMethod yX4_payIfDue, Cond.selects RX4 yX4_payIfDue yX4_payIfDue]
def wsL_pass_r4 : List Cond := [Cond.code yX4_payIfDue cX4_payIfDue 3 none, Cond.fieldLink RX4 192 "Payoutnet$Shops" "paid" "[I", Cond.methodLink RX4 244 yX4_dueTo, Cond.instanceMethod yX4_dueTo, Cond.selects RX4 yX4_dueTo yX4_dueTo, Cond.code yX4_dueTo cX4_dueTo 3 (some .int), Cond.fieldLink RX4 73 "Payoutnet$Shops" "step" "[I", Cond.fieldLink RX4 81 "Payoutnet$Shops" "least" "[I", Cond.constant RX4 250 (100000), Cond.methodLink RX4 247 yX1_enter, Cond.instanceMethod yX1_enter, Cond.selects RX1 yX1_enter yX1_enter, Cond.initialized RX1, Cond.code yX1_enter cX1_enter 3 (some .boolean), Cond.fieldLink RX1 19 "Payoutnet$Payouts" "count" "I", Cond.fieldLink RX1 13 "Payoutnet$Payouts" "cents" "[I", Cond.fieldLink RX1 7 "Payoutnet$Payouts" "seller" "[I", Cond.methodLink RX1 23 yX1_grow, Cond.instanceMethod yX1_grow, Cond.selects RX1 yX1_grow yX1_grow, Cond.code yX1_grow cX1_grow 2 none, Cond.fieldLink RX1 16 "Payoutnet$Payouts" "failed" "[I", Cond.methodLink RX1 26 yJ7_copyOf_59c91, Cond.static yJ7_copyOf_59c91]
def wsL_pass_r5 : List Cond := [Cond.initialized RJ7, Cond.code yJ7_copyOf_59c91 cJ7_copyOf_59c91 3 (some (.array .int)), Cond.methodLink RJ7 316 ⟨"[I", "clone", "()Ljava/lang/Object;"⟩, Cond.sameMethod "[I" "java/lang/Object" "clone" "()Ljava/lang/Object;", Cond.native ⟨"java/lang/Object", "clone", "()Ljava/lang/Object;"⟩, Cond.instanceMethod ⟨"java/lang/Object", "clone", "()Ljava/lang/Object;"⟩, Cond.selects "[I" ⟨"[I", "clone", "()Ljava/lang/Object;"⟩ ⟨"java/lang/Object", "clone", "()Ljava/lang/Object;"⟩, Cond.classLink RJ7 317 "[I", Cond.arrayClass .int, Cond.methodLink RJ7 304 Lib.Math.min.name, Cond.methodLink RJ7 150 arraycopyName, Cond.native arraycopyName, Cond.static arraycopyName, Cond.initialized "java/lang/System"]
def wsL_pass : List Cond := .codeWith yL_pass cL_pass 4 (some .int) [(0, 9, 12, 21), (0, 9, 15, 15)] :: ((wsL_pass_r1 ++ (wsL_pass_r2 ++ (wsL_pass_r3 ++ (wsL_pass_r4 ++ wsL_pass_r5)))) ++ wsX40 ++ wsX10 ++ wsX30 ++ wsX20 ++ wsX00 ++ (vx_atS RX4 60 "java/lang/IllegalStateException" ["java/lang/RuntimeException", "java/lang/Exception"]).filter goodWord ++ (vx_atS RX4 116 "java/lang/IllegalArgumentException" ["java/lang/RuntimeException", "java/lang/Exception"]).filter goodWord)
def wsL_fail_r1 : List Cond := [Cond.classLink RL 13 "java/lang/IndexOutOfBoundsException", Cond.classLink RL 15 "java/lang/IllegalStateException", Cond.methodLink RL 50 yX4_fail, Cond.instanceMethod yX4_fail, Cond.selects RX4 yX4_fail yX4_fail, Cond.initialized RX4, Cond.code yX4_fail cX4_fail 4 (some .int), Cond.classLink RX4 56 "java/lang/IllegalStateException", Cond.initialized "java/lang/IllegalStateException", Cond.fieldLink RX4 26 "Payoutnet" "paidOut" "LPayoutnet$Payouts;", Cond.fieldLink RX4 183 "Payoutnet$Payouts" "failed" "[I", Cond.fieldLink RX4 188 "Payoutnet$Payouts" "seller" "[I", Cond.fieldLink RX4 189 "Payoutnet$Payouts" "cents" "[I", Cond.fieldLink RX4 10 "Payoutnet" "shops" "LPayoutnet$Shops;", Cond.fieldLink RX4 192 "Payoutnet$Shops" "paid" "[I", Cond.fieldLink RX4 168 "Payoutnet$Shops" "balance" "[I", Cond.methodLink RX4 180 yX4_requirePayout, Cond.instanceMethod yX4_requirePayout, Cond.selects RX4 yX4_requirePayout yX4_requirePayout, Cond.code yX4_requirePayout cX4_requirePayout 2 none, Cond.classLink RX4 45 "java/lang/IndexOutOfBoundsException", Cond.initialized "java/lang/IndexOutOfBoundsException", Cond.fieldLink RX4 176 "Payoutnet$Payouts" "count" "I", Cond.methodLink RX4 164 yX4_post]
def wsL_fail_r2 : List Cond := [Cond.instanceMethod yX4_post, Cond.selects RX4 yX4_post yX4_post, Cond.code yX4_post cX4_post 3 none, Cond.fieldLink RX4 33 "Payoutnet" "journal" "LPayoutnet$Journal;", Cond.methodLink RX4 224 yX0_enter, Cond.instanceMethod yX0_enter, Cond.selects RX0 yX0_enter yX0_enter, Cond.initialized RX0, Cond.code yX0_enter cX0_enter 3 none, Cond.fieldLink RX0 21 "Payoutnet$Journal" "count" "I", Cond.fieldLink RX0 15 "Payoutnet$Journal" "seller" "[I", Cond.fieldLink RX0 18 "Payoutnet$Journal" "cents" "[I", Cond.methodLink RX0 25 yX0_carryForward, Cond.instanceMethod yX0_carryForward, Cond.selects RX0 yX0_carryForward yX0_carryForward, Cond.code yX0_carryForward cX0_carryForward 2 none, Cond.fieldLink RX0 9 "Payoutnet$Journal" "carried" "[I"]
def wsL_fail : List Cond := .codeWith yL_fail cL_fail 4 (some .int) [(0, 9, 12, 13), (0, 9, 15, 15)] :: ((wsL_fail_r1 ++ wsL_fail_r2) ++ wsX40 ++ wsX10 ++ wsX30 ++ wsX00 ++ (vx_atS RX4 60 "java/lang/IllegalStateException" ["java/lang/RuntimeException", "java/lang/Exception"]).filter goodWord ++ (vx_atS RX4 49 "java/lang/IndexOutOfBoundsException" ["java/lang/RuntimeException", "java/lang/Exception"]).filter goodWord)
def wsL_payout : List Cond := .codeWith yL_payout cL_payout 4 (some .int) [(0, 9, 12, 13)] :: ([.classLink RL 13 "java/lang/IndexOutOfBoundsException", .methodLink RL 53 yX4_payout, .instanceMethod yX4_payout, .selects RX4 yX4_payout yX4_payout, .initialized RX4, .code yX4_payout cX4_payout 2 (some .int), .fieldLink RX4 26 "Payoutnet" "paidOut" "LPayoutnet$Payouts;", .fieldLink RX4 189 "Payoutnet$Payouts" "cents" "[I", .methodLink RX4 180 yX4_requirePayout, .instanceMethod yX4_requirePayout, .selects RX4 yX4_requirePayout yX4_requirePayout, .code yX4_requirePayout cX4_requirePayout 2 none, .classLink RX4 45 "java/lang/IndexOutOfBoundsException", .initialized "java/lang/IndexOutOfBoundsException", .fieldLink RX4 176 "Payoutnet$Payouts" "count" "I"] ++ wsX40 ++ wsX10 ++ (vx_atS RX4 49 "java/lang/IndexOutOfBoundsException" ["java/lang/RuntimeException", "java/lang/Exception"]).filter goodWord)
def wsL_sellerOf : List Cond := .codeWith yL_sellerOf cL_sellerOf 4 (some .int) [(0, 9, 12, 13)] :: ([.classLink RL 13 "java/lang/IndexOutOfBoundsException", .methodLink RL 56 yX4_sellerOf, .instanceMethod yX4_sellerOf, .selects RX4 yX4_sellerOf yX4_sellerOf, .initialized RX4, .code yX4_sellerOf cX4_sellerOf 2 (some .int), .fieldLink RX4 26 "Payoutnet" "paidOut" "LPayoutnet$Payouts;", .fieldLink RX4 188 "Payoutnet$Payouts" "seller" "[I", .methodLink RX4 180 yX4_requirePayout, .instanceMethod yX4_requirePayout, .selects RX4 yX4_requirePayout yX4_requirePayout, .code yX4_requirePayout cX4_requirePayout 2 none, .classLink RX4 45 "java/lang/IndexOutOfBoundsException", .initialized "java/lang/IndexOutOfBoundsException", .fieldLink RX4 176 "Payoutnet$Payouts" "count" "I"] ++ wsX40 ++ wsX10 ++ (vx_atS RX4 49 "java/lang/IndexOutOfBoundsException" ["java/lang/RuntimeException", "java/lang/Exception"]).filter goodWord)
def wsL_balance : List Cond := .codeWith yL_balance cL_balance 4 (some .int) [(0, 9, 12, 13)] :: ([.classLink RL 13 "java/lang/IndexOutOfBoundsException", .methodLink RL 59 yX4_balance, .instanceMethod yX4_balance, .selects RX4 yX4_balance yX4_balance, .initialized RX4, .code yX4_balance cX4_balance 2 (some .int), .fieldLink RX4 10 "Payoutnet" "shops" "LPayoutnet$Shops;", .fieldLink RX4 168 "Payoutnet$Shops" "balance" "[I", .methodLink RX4 65 yX4_requireSeller, .instanceMethod yX4_requireSeller, .selects RX4 yX4_requireSeller yX4_requireSeller, .code yX4_requireSeller cX4_requireSeller 2 none, .classLink RX4 45 "java/lang/IndexOutOfBoundsException", .initialized "java/lang/IndexOutOfBoundsException", .fieldLink RX4 52 "Payoutnet$Shops" "count" "I"] ++ wsX40 ++ wsX30 ++ (vx_atS RX4 49 "java/lang/IndexOutOfBoundsException" ["java/lang/RuntimeException", "java/lang/Exception"]).filter goodWord)
def wsL_balanceByEntries : List Cond := .codeWith yL_balanceByEntries cL_balanceByEntries 4 (some .int) [(0, 9, 12, 13)] :: ([.classLink RL 13 "java/lang/IndexOutOfBoundsException", .methodLink RL 62 yX4_balanceByEntries, .instanceMethod yX4_balanceByEntries, .selects RX4 yX4_balanceByEntries yX4_balanceByEntries, .initialized RX4, .code yX4_balanceByEntries cX4_balanceByEntries 2 (some .int), .fieldLink RX4 33 "Payoutnet" "journal" "LPayoutnet$Journal;", .methodLink RX4 65 yX4_requireSeller, .instanceMethod yX4_requireSeller, .selects RX4 yX4_requireSeller yX4_requireSeller, .code yX4_requireSeller cX4_requireSeller 2 none, .classLink RX4 45 "java/lang/IndexOutOfBoundsException", .initialized "java/lang/IndexOutOfBoundsException", .fieldLink RX4 10 "Payoutnet" "shops" "LPayoutnet$Shops;", .fieldLink RX4 52 "Payoutnet$Shops" "count" "I", .methodLink RX4 195 yX0_sumOf, .instanceMethod yX0_sumOf, .selects RX0 yX0_sumOf yX0_sumOf, .initialized RX0, .code yX0_sumOf cX0_sumOf 4 (some .int), .fieldLink RX0 9 "Payoutnet$Journal" "carried" "[I", .fieldLink RX0 21 "Payoutnet$Journal" "count" "I", .fieldLink RX0 15 "Payoutnet$Journal" "seller" "[I", .fieldLink RX0 18 "Payoutnet$Journal" "cents" "[I"] ++ wsX40 ++ wsX30 ++ wsX00 ++ (vx_atS RX4 49 "java/lang/IndexOutOfBoundsException" ["java/lang/RuntimeException", "java/lang/Exception"]).filter goodWord)
def wsL_reserve : List Cond := .codeWith yL_reserve cL_reserve 4 (some .int) [(0, 9, 12, 13)] :: ([.classLink RL 13 "java/lang/IndexOutOfBoundsException", .methodLink RL 65 yX4_reserve, .instanceMethod yX4_reserve, .selects RX4 yX4_reserve yX4_reserve, .initialized RX4, .code yX4_reserve cX4_reserve 2 (some .int), .fieldLink RX4 19 "Payoutnet" "sales" "LPayoutnet$Sales;", .methodLink RX4 65 yX4_requireSeller, .instanceMethod yX4_requireSeller, .selects RX4 yX4_requireSeller yX4_requireSeller, .code yX4_requireSeller cX4_requireSeller 2 none, .classLink RX4 45 "java/lang/IndexOutOfBoundsException", .initialized "java/lang/IndexOutOfBoundsException", .fieldLink RX4 10 "Payoutnet" "shops" "LPayoutnet$Shops;", .fieldLink RX4 52 "Payoutnet$Shops" "count" "I", .methodLink RX4 198 yX2_heldFor, .instanceMethod yX2_heldFor, .selects RX2 yX2_heldFor yX2_heldFor, .initialized RX2, .code yX2_heldFor cX2_heldFor 4 (some .int), .fieldLink RX2 34 "Payoutnet$Sales" "count" "I", .fieldLink RX2 9 "Payoutnet$Sales" "seller" "[I", .fieldLink RX2 28 "Payoutnet$Sales" "held" "[I"] ++ wsX40 ++ wsX30 ++ wsX20 ++ (vx_atS RX4 49 "java/lang/IndexOutOfBoundsException" ["java/lang/RuntimeException", "java/lang/Exception"]).filter goodWord)
def wsL_paidTo : List Cond := .codeWith yL_paidTo cL_paidTo 4 (some .int) [(0, 9, 12, 13)] :: ([.classLink RL 13 "java/lang/IndexOutOfBoundsException", .methodLink RL 68 yX4_paidTo, .instanceMethod yX4_paidTo, .selects RX4 yX4_paidTo yX4_paidTo, .initialized RX4, .code yX4_paidTo cX4_paidTo 2 (some .int), .fieldLink RX4 10 "Payoutnet" "shops" "LPayoutnet$Shops;", .fieldLink RX4 192 "Payoutnet$Shops" "paid" "[I", .methodLink RX4 65 yX4_requireSeller, .instanceMethod yX4_requireSeller, .selects RX4 yX4_requireSeller yX4_requireSeller, .code yX4_requireSeller cX4_requireSeller 2 none, .classLink RX4 45 "java/lang/IndexOutOfBoundsException", .initialized "java/lang/IndexOutOfBoundsException", .fieldLink RX4 52 "Payoutnet$Shops" "count" "I"] ++ wsX40 ++ wsX30 ++ (vx_atS RX4 49 "java/lang/IndexOutOfBoundsException" ["java/lang/RuntimeException", "java/lang/Exception"]).filter goodWord)
def wsL_law0_r1 : List Cond := [Cond.classLink RL 8 RX4, Cond.instantiable RX4 11, Cond.initialized RX4, Cond.classLink RL 72 RX5, Cond.instantiable RX5 31, Cond.initialized RX5, Cond.arrayClass .long, Cond.methodLink RL 71 yX4_init, Cond.instanceMethod yX4_init, Cond.code yX4_init cX4_init 2 none, Cond.methodLink RX4 1 objectInit, Cond.instanceMethod objectInit, Cond.code objectInit ⟨#[0xb1]⟩ 1 none, Cond.classLink RX4 7 RX3, Cond.instantiable RX3 9, Cond.initialized RX3, Cond.fieldLink RX4 10 "Payoutnet" "shops" "LPayoutnet$Shops;", Cond.classLink RX4 16 RX2, Cond.instantiable RX2 8, Cond.initialized RX2, Cond.fieldLink RX4 19 "Payoutnet" "sales" "LPayoutnet$Sales;", Cond.classLink RX4 23 RX1, Cond.instantiable RX1 4, Cond.initialized RX1]
def wsL_law0_r2 : List Cond := [Cond.fieldLink RX4 26 "Payoutnet" "paidOut" "LPayoutnet$Payouts;", Cond.classLink RX4 30 RX0, Cond.instantiable RX0 4, Cond.initialized RX0, Cond.fieldLink RX4 33 "Payoutnet" "journal" "LPayoutnet$Journal;", Cond.arrayClass .float, Cond.fieldLink RX4 37 "Payoutnet" "shares" "[F", Cond.instanceMethod yX3_init, Cond.code yX3_init cX3_init 1 none, Cond.methodLink RX3 3 objectInit, Cond.arrayClass .int, Cond.fieldLink RX3 9 "Payoutnet$Shops" "owner" "[I", Cond.fieldLink RX3 15 "Payoutnet$Shops" "step" "[I", Cond.fieldLink RX3 18 "Payoutnet$Shops" "weekday" "[I", Cond.fieldLink RX3 21 "Payoutnet$Shops" "least" "[I", Cond.fieldLink RX3 24 "Payoutnet$Shops" "reserveThousandths" "[I", Cond.fieldLink RX3 27 "Payoutnet$Shops" "reserveDays" "[I", Cond.fieldLink RX3 30 "Payoutnet$Shops" "balance" "[I", Cond.fieldLink RX3 33 "Payoutnet$Shops" "paid" "[I", Cond.instanceMethod yX2_init, Cond.code yX2_init cX2_init 1 none, Cond.methodLink RX2 3 objectInit, Cond.fieldLink RX2 9 "Payoutnet$Sales" "seller" "[I", Cond.fieldLink RX2 15 "Payoutnet$Sales" "share" "[F"]
def wsL_law0_r3 : List Cond := [Cond.fieldLink RX2 19 "Payoutnet$Sales" "taxThousandths" "[I", Cond.fieldLink RX2 22 "Payoutnet$Sales" "unrefunded" "[I", Cond.fieldLink RX2 25 "Payoutnet$Sales" "feeKept" "[I", Cond.fieldLink RX2 28 "Payoutnet$Sales" "held" "[I", Cond.fieldLink RX2 31 "Payoutnet$Sales" "heldUntil" "[I", Cond.instanceMethod yX1_init, Cond.code yX1_init cX1_init 1 none, Cond.methodLink RX1 1 objectInit, Cond.fieldLink RX1 7 "Payoutnet$Payouts" "seller" "[I", Cond.fieldLink RX1 13 "Payoutnet$Payouts" "cents" "[I", Cond.fieldLink RX1 16 "Payoutnet$Payouts" "failed" "[I", Cond.instanceMethod yX0_init, Cond.code yX0_init cX0_init 1 none, Cond.methodLink RX0 3 objectInit, Cond.fieldLink RX0 9 "Payoutnet$Journal" "carried" "[I", Cond.fieldLink RX0 15 "Payoutnet$Journal" "seller" "[I", Cond.fieldLink RX0 18 "Payoutnet$Journal" "cents" "[I", Cond.methodLink RX4 41 yX4_shareOf, Cond.static yX4_shareOf, Cond.code yX4_shareOf cX4_shareOf 1 (some .float), Cond.constantFloat RX4 214 (1148846080), Cond.methodLink RL 74 yX5_init, Cond.instanceMethod yX5_init, Cond.code yX5_init cX5_init 2 none]
def wsL_law0_r4 : List Cond := [Cond.methodLink RX5 1 objectInit, Cond.fieldLink RX5 7 "PayoutnetModel" "owners" "[I", Cond.fieldLink RX5 13 "PayoutnetModel" "steps" "[I", Cond.fieldLink RX5 16 "PayoutnetModel" "weekdays" "[I", Cond.fieldLink RX5 19 "PayoutnetModel" "leasts" "[I", Cond.fieldLink RX5 22 "PayoutnetModel" "thousandths" "[I", Cond.fieldLink RX5 25 "PayoutnetModel" "reserveDays" "[I", Cond.fieldLink RX5 28 "PayoutnetModel" "balances" "[I", Cond.fieldLink RX5 31 "PayoutnetModel" "paidTo" "[I", Cond.fieldLink RX5 34 "PayoutnetModel" "shares" "[F", Cond.fieldLink RX5 38 "PayoutnetModel" "saleSellers" "[I", Cond.fieldLink RX5 41 "PayoutnetModel" "amounts" "[I", Cond.fieldLink RX5 44 "PayoutnetModel" "backs" "[I", Cond.fieldLink RX5 47 "PayoutnetModel" "saleShares" "[F", Cond.fieldLink RX5 50 "PayoutnetModel" "saleTaxes" "[I", Cond.fieldLink RX5 53 "PayoutnetModel" "feesTaken" "[I", Cond.fieldLink RX5 56 "PayoutnetModel" "feesBack" "[I", Cond.fieldLink RX5 59 "PayoutnetModel" "held" "[I", Cond.fieldLink RX5 62 "PayoutnetModel" "until" "[I", Cond.fieldLink RX5 65 "PayoutnetModel" "sums" "[I", Cond.fieldLink RX5 68 "PayoutnetModel" "paidSellers" "[I", Cond.arrayClass .boolean, Cond.fieldLink RX5 71 "PayoutnetModel" "areFailed" "[Z", Cond.constantFloat RX5 75 (1036831949)]
def wsL_law0_r5 : List Cond := [Cond.methodLink RL 75 yL_addSeller, Cond.static yL_addSeller, Cond.initialized RL, Cond.codeWith yL_addSeller cL_addSeller 4 (some .int) [(0, 9, 12, 13), (0, 9, 15, 15)], Cond.classLink RL 13 "java/lang/IndexOutOfBoundsException", Cond.classLink RL 15 "java/lang/IllegalStateException", Cond.methodLink RL 7 yX4_addSeller, Cond.instanceMethod yX4_addSeller, Cond.selects RX4 yX4_addSeller yX4_addSeller, Cond.code yX4_addSeller cX4_addSeller 2 (some .int), Cond.classLink RX4 45 "java/lang/IndexOutOfBoundsException", Cond.initialized "java/lang/IndexOutOfBoundsException", Cond.classLink RX4 56 "java/lang/IllegalStateException", Cond.initialized "java/lang/IllegalStateException", Cond.fieldLink RX4 52 "Payoutnet$Shops" "count" "I", Cond.methodLink RX4 61 yX3_enter, Cond.instanceMethod yX3_enter, Cond.selects RX3 yX3_enter yX3_enter, Cond.code yX3_enter cX3_enter 3 (some .int), Cond.fieldLink RX3 36 "Payoutnet$Shops" "count" "I", Cond.methodLink RL 80 yX5_addSeller, Cond.instanceMethod yX5_addSeller, Cond.selects RX5 yX5_addSeller yX5_addSeller, Cond.code yX5_addSeller cX5_addSeller 2 (some .int)]
def wsL_law0_r6 : List Cond := [Cond.fieldLink RX5 80 "PayoutnetModel" "sellers" "I", Cond.methodLink RX5 83 yX5_in, Cond.static yX5_in, Cond.code yX5_in cX5_in 3 (some .boolean), Cond.methodLink RX5 87 yX5_holds, Cond.instanceMethod yX5_holds, Cond.selects RX5 yX5_holds yX5_holds, Cond.code yX5_holds cX5_holds 2 (some .boolean), Cond.fieldLink RX5 76 "PayoutnetModel" "thrown" "I", Cond.methodLink RL 81 yX5_thrown, Cond.instanceMethod yX5_thrown, Cond.selects RX5 yX5_thrown yX5_thrown, Cond.code yX5_thrown cX5_thrown 1 (some .int), Cond.methodLink RL 85 yL_verify, Cond.static yL_verify, Cond.codeWith yL_verify cL_verify 5 (some .int) [(0, 10, 13, 13), (0, 10, 17, 21)], Cond.classLink RL 21 "java/lang/IllegalArgumentException", Cond.methodLink RL 17 yX4_verify, Cond.instanceMethod yX4_verify, Cond.selects RX4 yX4_verify yX4_verify, Cond.code yX4_verify cX4_verify 4 (some .int), Cond.fieldLink RX4 73 "Payoutnet$Shops" "step" "[I", Cond.methodLink RX4 65 yX4_requireSeller, Cond.instanceMethod yX4_requireSeller]
def wsL_law0_r7 : List Cond := [Cond.selects RX4 yX4_requireSeller yX4_requireSeller, Cond.code yX4_requireSeller cX4_requireSeller 2 none, Cond.methodLink RX4 69 yX4_requireBetween, Cond.static yX4_requireBetween, Cond.code yX4_requireBetween cX4_requireBetween 3 none, Cond.classLink RX4 112 "java/lang/IllegalArgumentException", Cond.initialized "java/lang/IllegalArgumentException", Cond.methodLink RL 88 yX5_verify, Cond.instanceMethod yX5_verify, Cond.selects RX5 yX5_verify yX5_verify, Cond.code yX5_verify cX5_verify 4 (some .int), Cond.methodLink RX5 91 yX5_isSeller, Cond.instanceMethod yX5_isSeller, Cond.selects RX5 yX5_isSeller yX5_isSeller, Cond.code yX5_isSeller cX5_isSeller 2 (some .boolean), Cond.methodLink RL 89 yL_setPayouts, Cond.static yL_setPayouts, Cond.codeWith yL_setPayouts cL_setPayouts 5 (some .int) [(0, 7, 10, 13), (0, 7, 14, 21)], Cond.methodLink RL 23 yX4_setPayouts, Cond.instanceMethod yX4_setPayouts, Cond.selects RX4 yX4_setPayouts yX4_setPayouts, Cond.code yX4_setPayouts cX4_setPayouts 4 none, Cond.constant RX4 77 (1000000), Cond.fieldLink RX4 78 "Payoutnet$Shops" "weekday" "[I"]
def wsL_law0_r8 : List Cond := [Cond.fieldLink RX4 81 "Payoutnet$Shops" "least" "[I", Cond.methodLink RL 92 yX5_setPayouts, Cond.instanceMethod yX5_setPayouts, Cond.selects RX5 yX5_setPayouts yX5_setPayouts, Cond.code yX5_setPayouts cX5_setPayouts 4 none, Cond.constant RX5 94 (1000000), Cond.methodLink RL 93 yL_setReserve, Cond.static yL_setReserve, Cond.codeWith yL_setReserve cL_setReserve 5 (some .int) [(0, 7, 10, 13), (0, 7, 14, 21)], Cond.methodLink RL 27 yX4_setReserve, Cond.instanceMethod yX4_setReserve, Cond.selects RX4 yX4_setReserve yX4_setReserve, Cond.code yX4_setReserve cX4_setReserve 4 none, Cond.fieldLink RX4 84 "Payoutnet$Shops" "reserveThousandths" "[I", Cond.fieldLink RX4 87 "Payoutnet$Shops" "reserveDays" "[I", Cond.methodLink RL 95 yX5_setReserve, Cond.instanceMethod yX5_setReserve, Cond.selects RX5 yX5_setReserve yX5_setReserve, Cond.code yX5_setReserve cX5_setReserve 4 none, Cond.methodLink RL 96 yL_setShare, Cond.static yL_setShare, Cond.codeWith yL_setShare cL_setShare 5 (some .int) [(0, 10, 13, 13), (0, 10, 17, 21)], Cond.methodLink RL 30 yX4_setShare, Cond.instanceMethod yX4_setShare]
def wsL_law0_r9 : List Cond := [Cond.selects RX4 yX4_setShare yX4_setShare, Cond.code yX4_setShare cX4_setShare 4 (some .int), Cond.methodLink RX4 90 yX4_requireKind, Cond.static yX4_requireKind, Cond.code yX4_requireKind cX4_requireKind 1 none, Cond.methodLink RX4 93 yX4_bitsOf, Cond.static yX4_bitsOf, Cond.code yX4_bitsOf cX4_bitsOf 4 (some .int), Cond.constantFloat RX4 215 (1258291200), Cond.methodLink RL 98 yX5_setShare, Cond.instanceMethod yX5_setShare, Cond.selects RX5 yX5_setShare yX5_setShare, Cond.code yX5_setShare cX5_setShare 3 (some .int), Cond.constantFloat RX5 98 (1148846080), Cond.methodLink RX5 95 yX5_isKind, Cond.static yX5_isKind, Cond.code yX5_isKind cX5_isKind 1 (some .boolean), Cond.methodLink RX5 99 yJxf58ca_floatToIntBits_5c35a, Cond.static yJxf58ca_floatToIntBits_5c35a, Cond.initialized RJxf58ca, Cond.code yJxf58ca_floatToIntBits_5c35a cJxf58ca_floatToIntBits_5c35a 1 (some .int), Cond.methodLink RJxf58ca 74 ⟨"java/lang/Float", "floatToRawIntBits", "(F)I"⟩, Cond.native ⟨"java/lang/Float", "floatToRawIntBits", "(F)I"⟩, Cond.static ⟨"java/lang/Float", "floatToRawIntBits", "(F)I"⟩]
def wsL_law0_r10 : List Cond := [Cond.initialized "java/lang/Float", Cond.constant RJxf58ca 77 (2143289344), Cond.methodLink RJxf58ca 59 yJxf58ca_isNaN_12338, Cond.static yJxf58ca_isNaN_12338, Cond.code yJxf58ca_isNaN_12338 cJxf58ca_isNaN_12338 1 (some .boolean), Cond.methodLink RL 99 yL_setTax, Cond.static yL_setTax, Cond.codeWith yL_setTax cL_setTax 4 (some .int) [(0, 9, 12, 21)], Cond.methodLink RL 33 yX4_setTax, Cond.instanceMethod yX4_setTax, Cond.selects RX4 yX4_setTax yX4_setTax, Cond.code yX4_setTax cX4_setTax 3 (some .int), Cond.fieldLink RX4 97 "Payoutnet" "taxThousandths" "I", Cond.methodLink RL 101 yX5_setTax, Cond.instanceMethod yX5_setTax, Cond.selects RX5 yX5_setTax yX5_setTax, Cond.code yX5_setTax cX5_setTax 3 (some .int), Cond.fieldLink RX5 105 "PayoutnetModel" "tax" "I", Cond.methodLink RL 102 yL_sell, Cond.static yL_sell, Cond.codeWith yL_sell cL_sell 6 (some .int) [(0, 12, 15, 13), (0, 12, 19, 21), (0, 12, 23, 15)], Cond.methodLink RL 36 yX4_sell, Cond.instanceMethod yX4_sell, Cond.selects RX4 yX4_sell yX4_sell]
def wsL_law0_r11 : List Cond := [Cond.code yX4_sell cX4_sell 4 (some .int), Cond.methodLink RX4 100 yX4_requireRoomForSales, Cond.instanceMethod yX4_requireRoomForSales, Cond.selects RX4 yX4_requireRoomForSales yX4_requireRoomForSales, Cond.code yX4_requireRoomForSales cX4_requireRoomForSales 2 none, Cond.fieldLink RX4 129 "Payoutnet$Sales" "count" "I", Cond.methodLink RX4 103 yX4_settle, Cond.instanceMethod yX4_settle, Cond.selects RX4 yX4_settle yX4_settle, Cond.code yX4_settle cX4_settle 10 (some .int), Cond.methodLink RX4 119 Lib.Math.min.name, Cond.static Lib.Math.min.name, Cond.initialized "java/lang/Math", Cond.code Lib.Math.min.name Lib.Math.min.code 2 (some .int), Cond.fieldLink RX4 145 "Payoutnet$Sales" "share" "[F", Cond.fieldLink RX4 140 "Payoutnet$Sales" "taxThousandths" "[I", Cond.fieldLink RX4 152 "Payoutnet$Sales" "feeKept" "[I", Cond.fieldLink RX4 218 "Payoutnet$Sales" "held" "[I", Cond.fieldLink RX4 221 "Payoutnet$Sales" "heldUntil" "[I", Cond.fieldLink RX4 171 "Payoutnet" "today" "I", Cond.fieldLink RX4 201 "Payoutnet" "received" "I", Cond.fieldLink RX4 158 "Payoutnet" "taxes" "I", Cond.fieldLink RX4 161 "Payoutnet" "fees" "I", Cond.methodLink RX4 142 yX4_partOf]
def wsL_law0_r12 : List Cond := [Cond.static yX4_partOf, Cond.code yX4_partOf cX4_partOf 2 (some .int), Cond.methodLink RX4 148 yX4_feeOn, Cond.static yX4_feeOn, Cond.code yX4_feeOn cX4_feeOn 2 (some .int), Cond.methodLink RX4 216 yX2_enter, Cond.instanceMethod yX2_enter, Cond.selects RX2 yX2_enter yX2_enter, Cond.code yX2_enter cX2_enter 4 (some .int), Cond.fieldLink RX2 34 "Payoutnet$Sales" "count" "I", Cond.methodLink RX4 164 yX4_post, Cond.instanceMethod yX4_post, Cond.selects RX4 yX4_post yX4_post, Cond.code yX4_post cX4_post 3 none, Cond.fieldLink RX4 168 "Payoutnet$Shops" "balance" "[I", Cond.methodLink RX4 224 yX0_enter, Cond.instanceMethod yX0_enter, Cond.selects RX0 yX0_enter yX0_enter, Cond.code yX0_enter cX0_enter 3 none, Cond.fieldLink RX0 21 "Payoutnet$Journal" "count" "I", Cond.methodLink RX0 25 yX0_carryForward, Cond.instanceMethod yX0_carryForward, Cond.selects RX0 yX0_carryForward yX0_carryForward, Cond.code yX0_carryForward cX0_carryForward 2 none]
def wsL_law0_r13 : List Cond := [Cond.methodLink RL 105 yX5_sell, Cond.instanceMethod yX5_sell, Cond.selects RX5 yX5_sell yX5_sell, Cond.code yX5_sell cX5_sell 5 (some .int), Cond.fieldLink RX5 114 "PayoutnetModel" "sales" "I", Cond.methodLink RX5 129 yX5_settles, Cond.instanceMethod yX5_settles, Cond.selects RX5 yX5_settles yX5_settles, Cond.code yX5_settles cX5_settles 8 none, Cond.constantLong RX5 112 (1000), Cond.fieldLink RX5 117 "PayoutnetModel" "today" "I", Cond.fieldLink RX5 120 "PayoutnetModel" "received" "I", Cond.fieldLink RX5 123 "PayoutnetModel" "fees" "I", Cond.fieldLink RX5 126 "PayoutnetModel" "taxes" "I", Cond.methodLink RX5 108 yX5_feeOn, Cond.static yX5_feeOn, Cond.code yX5_feeOn cX5_feeOn 2 (some .int), Cond.methodLink RL 106 yL_order, Cond.static yL_order, Cond.codeWith yL_order cL_order 6 (some .int) [(0, 12, 15, 13), (0, 12, 19, 21), (0, 12, 23, 15)], Cond.methodLink RL 40 yX4_order, Cond.instanceMethod yX4_order, Cond.selects RX4 yX4_order yX4_order, Cond.code yX4_order cX4_order 6 (some .int)]
def wsL_law0_r14 : List Cond := [Cond.methodLink RX4 107 yJ6_bitCount_0f7a4, Cond.static yJ6_bitCount_0f7a4, Cond.initialized RJ6, Cond.code yJ6_bitCount_0f7a4 cJ6_bitCount_0f7a4 1 (some .int), Cond.constant RJ6 265 (1431655765), Cond.constant RJ6 266 (858993459), Cond.constant RJ6 267 (252645135), Cond.methodLink RX4 125 yX4_settleParts, Cond.instanceMethod yX4_settleParts, Cond.selects RX4 yX4_settleParts yX4_settleParts, Cond.code yX4_settleParts cX4_settleParts 8 none, Cond.methodLink RL 108 yX5_order, Cond.instanceMethod yX5_order, Cond.selects RX5 yX5_order yX5_order, Cond.code yX5_order cX5_order 11 (some .int), Cond.methodLink RX5 133 yX5_many, Cond.static yX5_many, Cond.code yX5_many cX5_many 3 (some .int), Cond.methodLink RL 109 yL_refund, Cond.static yL_refund, Cond.codeWith yL_refund cL_refund 6 (some .int) [(0, 12, 15, 13), (0, 12, 19, 21), (0, 12, 23, 15)], Cond.methodLink RL 43 yX4_refund, Cond.instanceMethod yX4_refund, Cond.selects RX4 yX4_refund yX4_refund]
def wsL_law0_r15 : List Cond := [Cond.code yX4_refund cX4_refund 7 (some .int), Cond.fieldLink RX4 132 "Payoutnet$Sales" "unrefunded" "[I", Cond.fieldLink RX4 137 "Payoutnet$Sales" "seller" "[I", Cond.fieldLink RX4 155 "Payoutnet" "refunded" "I", Cond.methodLink RL 112 yX5_refund, Cond.instanceMethod yX5_refund, Cond.selects RX5 yX5_refund yX5_refund, Cond.code yX5_refund cX5_refund 7 (some .int), Cond.fieldLink RX5 137 "PayoutnetModel" "refunded" "I", Cond.methodLink RL 113 yL_pass, Cond.static yL_pass, Cond.codeWith yL_pass cL_pass 4 (some .int) [(0, 9, 12, 21), (0, 9, 15, 15)], Cond.methodLink RL 47 yX4_pass, Cond.instanceMethod yX4_pass, Cond.selects RX4 yX4_pass yX4_pass, Cond.code yX4_pass cX4_pass 4 (some .int), Cond.fieldLink RX4 176 "Payoutnet$Payouts" "count" "I", Cond.methodLink RX4 177 yX4_endDay, Cond.instanceMethod yX4_endDay, Cond.selects RX4 yX4_endDay yX4_endDay, Cond.code yX4_endDay cX4_endDay 2 none, Cond.methodLink RX4 226 yX4_releaseReserves, Cond.instanceMethod yX4_releaseReserves, Cond.selects RX4 yX4_releaseReserves yX4_releaseReserves]
def wsL_law0_r16 : List Cond := [Cond.code yX4_releaseReserves cX4_releaseReserves 2 none, Cond.methodLink RX4 238 yX4_release, Cond.instanceMethod yX4_release, Cond.selects RX4 yX4_release yX4_release, Cond.code yX4_release cX4_release 3 none, Cond.methodLink RX4 229 yX4_coverFromReserves, Cond.instanceMethod yX4_coverFromReserves, Cond.selects RX4 yX4_coverFromReserves yX4_coverFromReserves, Cond.code yX4_coverFromReserves cX4_coverFromReserves 3 none, Cond.methodLink RX4 232 yX4_coverFromOwner, Cond.instanceMethod yX4_coverFromOwner, Cond.selects RX4 yX4_coverFromOwner yX4_coverFromOwner, Cond.code yX4_coverFromOwner cX4_coverFromOwner 4 none, Cond.fieldLink RX4 241 "Payoutnet$Shops" "owner" "[I", Cond.methodLink RX4 235 yX4_payIfDue, Cond.instanceMethod yX4_payIfDue, Cond.selects RX4 yX4_payIfDue yX4_payIfDue, Cond.code yX4_payIfDue cX4_payIfDue 3 none, Cond.fieldLink RX4 192 "Payoutnet$Shops" "paid" "[I", Cond.methodLink RX4 244 yX4_dueTo, Cond.instanceMethod yX4_dueTo, Cond.selects RX4 yX4_dueTo yX4_dueTo, Cond.code yX4_dueTo cX4_dueTo 3 (some .int), Cond.constant RX4 250 (100000)]
def wsL_law0_r17 : List Cond := [Cond.methodLink RX4 247 yX1_enter, Cond.instanceMethod yX1_enter, Cond.selects RX1 yX1_enter yX1_enter, Cond.code yX1_enter cX1_enter 3 (some .boolean), Cond.fieldLink RX1 19 "Payoutnet$Payouts" "count" "I", Cond.methodLink RX1 23 yX1_grow, Cond.instanceMethod yX1_grow, Cond.selects RX1 yX1_grow yX1_grow, Cond.code yX1_grow cX1_grow 2 none, Cond.methodLink RX1 26 yJ7_copyOf_59c91, Cond.static yJ7_copyOf_59c91, Cond.initialized RJ7, Cond.code yJ7_copyOf_59c91 cJ7_copyOf_59c91 3 (some (.array .int)), Cond.methodLink RJ7 316 ⟨"[I", "clone", "()Ljava/lang/Object;"⟩, Cond.sameMethod "[I" "java/lang/Object" "clone" "()Ljava/lang/Object;", Cond.native ⟨"java/lang/Object", "clone", "()Ljava/lang/Object;"⟩, Cond.instanceMethod ⟨"java/lang/Object", "clone", "()Ljava/lang/Object;"⟩, Cond.selects "[I" ⟨"[I", "clone", "()Ljava/lang/Object;"⟩ ⟨"java/lang/Object", "clone", "()Ljava/lang/Object;"⟩, Cond.classLink RJ7 317 "[I", Cond.methodLink RJ7 304 Lib.Math.min.name, Cond.methodLink RJ7 150 arraycopyName, Cond.native arraycopyName, Cond.static arraycopyName, Cond.initialized "java/lang/System"]
def wsL_law0_r18 : List Cond := [Cond.methodLink RL 115 yX5_pass, Cond.instanceMethod yX5_pass, Cond.selects RX5 yX5_pass yX5_pass, Cond.code yX5_pass cX5_pass 4 (some .int), Cond.fieldLink RX5 145 "PayoutnetModel" "payouts" "I", Cond.methodLink RX5 161 yX5_ends, Cond.instanceMethod yX5_ends, Cond.selects RX5 yX5_ends yX5_ends, Cond.code yX5_ends cX5_ends 2 none, Cond.methodLink RX5 148 yX5_releases, Cond.instanceMethod yX5_releases, Cond.selects RX5 yX5_releases yX5_releases, Cond.code yX5_releases cX5_releases 2 none, Cond.methodLink RX5 151 yX5_coversByReserves, Cond.instanceMethod yX5_coversByReserves, Cond.selects RX5 yX5_coversByReserves yX5_coversByReserves, Cond.code yX5_coversByReserves cX5_coversByReserves 4 none, Cond.methodLink RX5 140 yX5_least, Cond.static yX5_least, Cond.code yX5_least cX5_least 2 (some .int), Cond.methodLink RX5 155 yX5_coversByOthers, Cond.instanceMethod yX5_coversByOthers, Cond.selects RX5 yX5_coversByOthers yX5_coversByOthers, Cond.code yX5_coversByOthers cX5_coversByOthers 5 none]
def wsL_law0_r19 : List Cond := [Cond.methodLink RX5 158 yX5_pays, Cond.instanceMethod yX5_pays, Cond.selects RX5 yX5_pays yX5_pays, Cond.code yX5_pays cX5_pays 3 none, Cond.constant RX5 144 (100000), Cond.methodLink RL 116 yL_fail, Cond.static yL_fail, Cond.codeWith yL_fail cL_fail 4 (some .int) [(0, 9, 12, 13), (0, 9, 15, 15)], Cond.methodLink RL 50 yX4_fail, Cond.instanceMethod yX4_fail, Cond.selects RX4 yX4_fail yX4_fail, Cond.code yX4_fail cX4_fail 4 (some .int), Cond.fieldLink RX4 183 "Payoutnet$Payouts" "failed" "[I", Cond.fieldLink RX4 188 "Payoutnet$Payouts" "seller" "[I", Cond.fieldLink RX4 189 "Payoutnet$Payouts" "cents" "[I", Cond.methodLink RX4 180 yX4_requirePayout, Cond.instanceMethod yX4_requirePayout, Cond.selects RX4 yX4_requirePayout yX4_requirePayout, Cond.code yX4_requirePayout cX4_requirePayout 2 none, Cond.methodLink RL 118 yX5_fail, Cond.instanceMethod yX5_fail, Cond.selects RX5 yX5_fail yX5_fail, Cond.code yX5_fail cX5_fail 3 (some .int), Cond.methodLink RX5 164 yX5_isPayout]
def wsL_law0_r20 : List Cond := [Cond.instanceMethod yX5_isPayout, Cond.selects RX5 yX5_isPayout yX5_isPayout, Cond.code yX5_isPayout cX5_isPayout 2 (some .boolean), Cond.methodLink RL 119 yX4_today, Cond.instanceMethod yX4_today, Cond.selects RX4 yX4_today yX4_today, Cond.code yX4_today cX4_today 1 (some .int), Cond.methodLink RL 122 yX5_today, Cond.instanceMethod yX5_today, Cond.selects RX5 yX5_today yX5_today, Cond.code yX5_today cX5_today 1 (some .int), Cond.methodLink RL 123 yX4_payouts, Cond.instanceMethod yX4_payouts, Cond.selects RX4 yX4_payouts yX4_payouts, Cond.code yX4_payouts cX4_payouts 1 (some .int), Cond.methodLink RL 126 yX5_payouts, Cond.instanceMethod yX5_payouts, Cond.selects RX5 yX5_payouts yX5_payouts, Cond.code yX5_payouts cX5_payouts 1 (some .int), Cond.methodLink RL 127 yL_payout, Cond.static yL_payout, Cond.codeWith yL_payout cL_payout 4 (some .int) [(0, 9, 12, 13)], Cond.methodLink RL 53 yX4_payout, Cond.instanceMethod yX4_payout]
def wsL_law0_r21 : List Cond := [Cond.selects RX4 yX4_payout yX4_payout, Cond.code yX4_payout cX4_payout 2 (some .int), Cond.methodLink RL 129 yX5_payout, Cond.instanceMethod yX5_payout, Cond.selects RX5 yX5_payout yX5_payout, Cond.code yX5_payout cX5_payout 2 (some .int), Cond.methodLink RL 130 yL_sellerOf, Cond.static yL_sellerOf, Cond.codeWith yL_sellerOf cL_sellerOf 4 (some .int) [(0, 9, 12, 13)], Cond.methodLink RL 56 yX4_sellerOf, Cond.instanceMethod yX4_sellerOf, Cond.selects RX4 yX4_sellerOf yX4_sellerOf, Cond.code yX4_sellerOf cX4_sellerOf 2 (some .int), Cond.methodLink RL 132 yX5_sellerOf, Cond.instanceMethod yX5_sellerOf, Cond.selects RX5 yX5_sellerOf yX5_sellerOf, Cond.code yX5_sellerOf cX5_sellerOf 2 (some .int), Cond.methodLink RL 133 yL_balance, Cond.static yL_balance, Cond.codeWith yL_balance cL_balance 4 (some .int) [(0, 9, 12, 13)], Cond.methodLink RL 59 yX4_balance, Cond.instanceMethod yX4_balance, Cond.selects RX4 yX4_balance yX4_balance, Cond.code yX4_balance cX4_balance 2 (some .int)]
def wsL_law0_r22 : List Cond := [Cond.methodLink RL 135 yX5_balance, Cond.instanceMethod yX5_balance, Cond.selects RX5 yX5_balance yX5_balance, Cond.code yX5_balance cX5_balance 2 (some .int), Cond.methodLink RL 136 yL_balanceByEntries, Cond.static yL_balanceByEntries, Cond.codeWith yL_balanceByEntries cL_balanceByEntries 4 (some .int) [(0, 9, 12, 13)], Cond.methodLink RL 62 yX4_balanceByEntries, Cond.instanceMethod yX4_balanceByEntries, Cond.selects RX4 yX4_balanceByEntries yX4_balanceByEntries, Cond.code yX4_balanceByEntries cX4_balanceByEntries 2 (some .int), Cond.methodLink RX4 195 yX0_sumOf, Cond.instanceMethod yX0_sumOf, Cond.selects RX0 yX0_sumOf yX0_sumOf, Cond.code yX0_sumOf cX0_sumOf 4 (some .int), Cond.methodLink RL 138 yX5_balanceByEntries, Cond.instanceMethod yX5_balanceByEntries, Cond.selects RX5 yX5_balanceByEntries yX5_balanceByEntries, Cond.code yX5_balanceByEntries cX5_balanceByEntries 2 (some .int), Cond.methodLink RL 139 yL_reserve, Cond.static yL_reserve, Cond.codeWith yL_reserve cL_reserve 4 (some .int) [(0, 9, 12, 13)], Cond.methodLink RL 65 yX4_reserve, Cond.instanceMethod yX4_reserve]
def wsL_law0_r23 : List Cond := [Cond.selects RX4 yX4_reserve yX4_reserve, Cond.code yX4_reserve cX4_reserve 2 (some .int), Cond.methodLink RX4 198 yX2_heldFor, Cond.instanceMethod yX2_heldFor, Cond.selects RX2 yX2_heldFor yX2_heldFor, Cond.code yX2_heldFor cX2_heldFor 4 (some .int), Cond.methodLink RL 141 yX5_reserve, Cond.instanceMethod yX5_reserve, Cond.selects RX5 yX5_reserve yX5_reserve, Cond.code yX5_reserve cX5_reserve 4 (some .int), Cond.methodLink RL 142 yL_paidTo, Cond.static yL_paidTo, Cond.codeWith yL_paidTo cL_paidTo 4 (some .int) [(0, 9, 12, 13)], Cond.methodLink RL 68 yX4_paidTo, Cond.instanceMethod yX4_paidTo, Cond.selects RX4 yX4_paidTo yX4_paidTo, Cond.code yX4_paidTo cX4_paidTo 2 (some .int), Cond.methodLink RL 144 yX5_paidTo, Cond.instanceMethod yX5_paidTo, Cond.selects RX5 yX5_paidTo yX5_paidTo, Cond.code yX5_paidTo cX5_paidTo 2 (some .int), Cond.methodLink RL 145 yX4_received, Cond.instanceMethod yX4_received, Cond.selects RX4 yX4_received yX4_received]
def wsL_law0_r24 : List Cond := [Cond.code yX4_received cX4_received 1 (some .int), Cond.methodLink RL 148 yX5_received, Cond.instanceMethod yX5_received, Cond.selects RX5 yX5_received yX5_received, Cond.code yX5_received cX5_received 1 (some .int), Cond.methodLink RL 149 yX4_refunded, Cond.instanceMethod yX4_refunded, Cond.selects RX4 yX4_refunded yX4_refunded, Cond.code yX4_refunded cX4_refunded 1 (some .int), Cond.methodLink RL 152 yX5_refunded, Cond.instanceMethod yX5_refunded, Cond.selects RX5 yX5_refunded yX5_refunded, Cond.code yX5_refunded cX5_refunded 1 (some .int), Cond.methodLink RL 153 yX4_fees, Cond.instanceMethod yX4_fees, Cond.selects RX4 yX4_fees yX4_fees, Cond.code yX4_fees cX4_fees 1 (some .int), Cond.methodLink RL 156 yX5_fees, Cond.instanceMethod yX5_fees, Cond.selects RX5 yX5_fees yX5_fees, Cond.code yX5_fees cX5_fees 1 (some .int), Cond.methodLink RL 157 yX4_taxes, Cond.instanceMethod yX4_taxes, Cond.selects RX4 yX4_taxes yX4_taxes]
def wsL_law0_r25 : List Cond := [Cond.code yX4_taxes cX4_taxes 1 (some .int), Cond.methodLink RL 160 yX5_taxes, Cond.instanceMethod yX5_taxes, Cond.selects RX5 yX5_taxes yX5_taxes, Cond.code yX5_taxes cX5_taxes 1 (some .int)]
def wsL_law0 : List Cond := (wsL_law0_r1 ++ (wsL_law0_r2 ++ (wsL_law0_r3 ++ (wsL_law0_r4 ++ (wsL_law0_r5 ++ (wsL_law0_r6 ++ (wsL_law0_r7 ++ (wsL_law0_r8 ++ (wsL_law0_r9 ++ (wsL_law0_r10 ++ (wsL_law0_r11 ++ (wsL_law0_r12 ++ (wsL_law0_r13 ++ (wsL_law0_r14 ++ (wsL_law0_r15 ++ (wsL_law0_r16 ++ (wsL_law0_r17 ++ (wsL_law0_r18 ++ (wsL_law0_r19 ++ (wsL_law0_r20 ++ (wsL_law0_r21 ++ (wsL_law0_r22 ++ (wsL_law0_r23 ++ (wsL_law0_r24 ++ wsL_law0_r25)))))))))))))))))))))))) ++ wsX40 ++ wsX50 ++ wsX30 ++ wsX20 ++ wsX10 ++ wsX00 ++ ([] : List Cond)
def wsL_law : List Cond := wsL_law0 ++ (vx_atS RX4 49 "java/lang/IndexOutOfBoundsException" ["java/lang/RuntimeException", "java/lang/Exception"]).filter goodWord ++ (vx_atS RX4 60 "java/lang/IllegalStateException" ["java/lang/RuntimeException", "java/lang/Exception"]).filter goodWord ++ (vx_atS RX4 116 "java/lang/IllegalArgumentException" ["java/lang/RuntimeException", "java/lang/Exception"]).filter goodWord
end
section
set_option maxRecDepth 20000 in
theorem wsL_law_in0_r1 : ∀ w ∈ wsL_law0_r1, w ∈ lw_tbl := fun w h => (goodIn_p wsL_law0_r1 [48, 51] (by decide +kernel) (by decide +kernel) w h).1
set_option maxRecDepth 20000 in
theorem wsL_law_in0_r2 : ∀ w ∈ wsL_law0_r2, w ∈ lw_tbl := fun w h => (goodIn_p wsL_law0_r2 [56, 100] (by decide +kernel) (by decide +kernel) w h).1
set_option maxRecDepth 20000 in
theorem wsL_law_in0_r3 : ∀ w ∈ wsL_law0_r3, w ∈ lw_tbl := fun w h => (goodIn_p wsL_law0_r3 [140, 163, 180, 601] (by decide +kernel) (by decide +kernel) w h).1
set_option maxRecDepth 20000 in
theorem wsL_law_in0_r4 : ∀ w ∈ wsL_law0_r4, w ∈ lw_tbl := fun w h => (goodIn_p wsL_law0_r4 [] (by decide +kernel) (by decide +kernel) w h).1
set_option maxRecDepth 20000 in
theorem wsL_law_in0_r5 : ∀ w ∈ wsL_law0_r5, w ∈ lw_tbl := fun w h => (goodIn_p wsL_law0_r5 [248, 336, 706] (by decide +kernel) (by decide +kernel) w h).1
set_option maxRecDepth 20000 in
theorem wsL_law_in0_r6 : ∀ w ∈ wsL_law0_r6, w ∈ lw_tbl := fun w h => (goodIn_p wsL_law0_r6 [709, 713, 702, 344] (by decide +kernel) (by decide +kernel) w h).1
set_option maxRecDepth 20000 in
theorem wsL_law_in0_r7 : ∀ w ∈ wsL_law0_r7, w ∈ lw_tbl := fun w h => (goodIn_p wsL_law0_r7 [348, 352, 717, 721, 375] (by decide +kernel) (by decide +kernel) w h).1
set_option maxRecDepth 20000 in
theorem wsL_law_in0_r8 : ∀ w ∈ wsL_law0_r8, w ∈ lw_tbl := fun w h => (goodIn_p wsL_law0_r8 [725, 383, 730] (by decide +kernel) (by decide +kernel) w h).1
set_option maxRecDepth 20000 in
theorem wsL_law_in0_r9 : ∀ w ∈ wsL_law0_r9, w ∈ lw_tbl := fun w h => (goodIn_p wsL_law0_r9 [390, 393, 397, 734, 737, 741] (by decide +kernel) (by decide +kernel) w h).1
set_option maxRecDepth 20000 in
theorem wsL_law_in0_r10 : ∀ w ∈ wsL_law0_r10, w ∈ lw_tbl := fun w h => (goodIn_p wsL_law0_r10 [744, 405, 752] (by decide +kernel) (by decide +kernel) w h).1
set_option maxRecDepth 20000 in
theorem wsL_law_in0_r11 : ∀ w ∈ wsL_law0_r11, w ∈ lw_tbl := fun w h => (goodIn_p wsL_law0_r11 [412, 416, 421, 430] (by decide +kernel) (by decide +kernel) w h).1
set_option maxRecDepth 20000 in
theorem wsL_law_in0_r12 : ∀ w ∈ wsL_law0_r12, w ∈ lw_tbl := fun w h => (goodIn_p wsL_law0_r12 [424, 427, 434, 438, 442, 446] (by decide +kernel) (by decide +kernel) w h).1
set_option maxRecDepth 20000 in
theorem wsL_law_in0_r13 : ∀ w ∈ wsL_law0_r13, w ∈ lw_tbl := fun w h => (goodIn_p wsL_law0_r13 [756, 760, 763, 453] (by decide +kernel) (by decide +kernel) w h).1
set_option maxRecDepth 20000 in
theorem wsL_law_in0_r14 : ∀ w ∈ wsL_law0_r14, w ∈ lw_tbl := fun w h => (goodIn_p wsL_law0_r14 [456, 465, 768, 771] (by decide +kernel) (by decide +kernel) w h).1
set_option maxRecDepth 20000 in
theorem wsL_law_in0_r15 : ∀ w ∈ wsL_law0_r15, w ∈ lw_tbl := fun w h => (goodIn_p wsL_law0_r15 [472, 775, 481, 486] (by decide +kernel) (by decide +kernel) w h).1
set_option maxRecDepth 20000 in
theorem wsL_law_in0_r16 : ∀ w ∈ wsL_law0_r16, w ∈ lw_tbl := fun w h => (goodIn_p wsL_law0_r16 [490, 494, 498, 502, 506, 510] (by decide +kernel) (by decide +kernel) w h).1
set_option maxRecDepth 20000 in
theorem wsL_law_in0_r17 : ∀ w ∈ wsL_law0_r17, w ∈ lw_tbl := fun w h => (goodIn_p wsL_law0_r17 [515, 519, 522] (by decide +kernel) (by decide +kernel) w h).1
set_option maxRecDepth 20000 in
theorem wsL_law_in0_r18 : ∀ w ∈ wsL_law0_r18, w ∈ lw_tbl := fun w h => (goodIn_p wsL_law0_r18 [779, 783, 787, 791, 794, 798] (by decide +kernel) (by decide +kernel) w h).1
set_option maxRecDepth 20000 in
theorem wsL_law_in0_r19 : ∀ w ∈ wsL_law0_r19, w ∈ lw_tbl := fun w h => (goodIn_p wsL_law0_r19 [802, 540, 544, 807] (by decide +kernel) (by decide +kernel) w h).1
set_option maxRecDepth 20000 in
theorem wsL_law_in0_r20 : ∀ w ∈ wsL_law0_r20, w ∈ lw_tbl := fun w h => (goodIn_p wsL_law0_r20 [811, 219, 815, 223, 819] (by decide +kernel) (by decide +kernel) w h).1
set_option maxRecDepth 20000 in
theorem wsL_law_in0_r21 : ∀ w ∈ wsL_law0_r21, w ∈ lw_tbl := fun w h => (goodIn_p wsL_law0_r21 [553, 823, 560, 827, 567] (by decide +kernel) (by decide +kernel) w h).1
set_option maxRecDepth 20000 in
theorem wsL_law_in0_r22 : ∀ w ∈ wsL_law0_r22, w ∈ lw_tbl := fun w h => (goodIn_p wsL_law0_r22 [831, 574, 578, 835] (by decide +kernel) (by decide +kernel) w h).1
set_option maxRecDepth 20000 in
theorem wsL_law_in0_r23 : ∀ w ∈ wsL_law0_r23, w ∈ lw_tbl := fun w h => (goodIn_p wsL_law0_r23 [585, 589, 839, 596, 843] (by decide +kernel) (by decide +kernel) w h).1
set_option maxRecDepth 20000 in
theorem wsL_law_in0_r24 : ∀ w ∈ wsL_law0_r24, w ∈ lw_tbl := fun w h => (goodIn_p wsL_law0_r24 [227, 847, 231, 851, 235, 855] (by decide +kernel) (by decide +kernel) w h).1
set_option maxRecDepth 20000 in
theorem wsL_law_in0_r25 : ∀ w ∈ wsL_law0_r25, w ∈ lw_tbl := fun w h => (goodIn_p wsL_law0_r25 [239, 859] (by decide +kernel) (by decide +kernel) w h).1
theorem wsL_law_in0_wsX40 : ∀ w ∈ wsX40, w ∈ lw_tbl := by decide +kernel
theorem wsL_law_in0_wsX50 : ∀ w ∈ wsX50, w ∈ lw_tbl := by decide +kernel
theorem wsL_law_in0_wsX30 : ∀ w ∈ wsX30, w ∈ lw_tbl := by decide +kernel
theorem wsL_law_in0_wsX20 : ∀ w ∈ wsX20, w ∈ lw_tbl := by decide +kernel
theorem wsL_law_in0_wsX10 : ∀ w ∈ wsX10, w ∈ lw_tbl := by decide +kernel
theorem wsL_law_in0_wsX00 : ∀ w ∈ wsX00, w ∈ lw_tbl := by decide +kernel
theorem wsL_law_in0 : ∀ w ∈ wsL_law0, w ∈ lw_tbl := by
  unfold wsL_law0
  exact List.forall_mem_append.mpr ⟨List.forall_mem_append.mpr ⟨List.forall_mem_append.mpr ⟨List.forall_mem_append.mpr ⟨List.forall_mem_append.mpr ⟨List.forall_mem_append.mpr ⟨List.forall_mem_append.mpr ⟨List.forall_mem_append.mpr ⟨wsL_law_in0_r1, List.forall_mem_append.mpr ⟨wsL_law_in0_r2, List.forall_mem_append.mpr ⟨wsL_law_in0_r3, List.forall_mem_append.mpr ⟨wsL_law_in0_r4, List.forall_mem_append.mpr ⟨wsL_law_in0_r5, List.forall_mem_append.mpr ⟨wsL_law_in0_r6, List.forall_mem_append.mpr ⟨wsL_law_in0_r7, List.forall_mem_append.mpr ⟨wsL_law_in0_r8, List.forall_mem_append.mpr ⟨wsL_law_in0_r9, List.forall_mem_append.mpr ⟨wsL_law_in0_r10, List.forall_mem_append.mpr ⟨wsL_law_in0_r11, List.forall_mem_append.mpr ⟨wsL_law_in0_r12, List.forall_mem_append.mpr ⟨wsL_law_in0_r13, List.forall_mem_append.mpr ⟨wsL_law_in0_r14, List.forall_mem_append.mpr ⟨wsL_law_in0_r15, List.forall_mem_append.mpr ⟨wsL_law_in0_r16, List.forall_mem_append.mpr ⟨wsL_law_in0_r17, List.forall_mem_append.mpr ⟨wsL_law_in0_r18, List.forall_mem_append.mpr ⟨wsL_law_in0_r19, List.forall_mem_append.mpr ⟨wsL_law_in0_r20, List.forall_mem_append.mpr ⟨wsL_law_in0_r21, List.forall_mem_append.mpr ⟨wsL_law_in0_r22, List.forall_mem_append.mpr ⟨wsL_law_in0_r23, List.forall_mem_append.mpr ⟨wsL_law_in0_r24, wsL_law_in0_r25⟩⟩⟩⟩⟩⟩⟩⟩⟩⟩⟩⟩⟩⟩⟩⟩⟩⟩⟩⟩⟩⟩⟩⟩, wsL_law_in0_wsX40⟩, wsL_law_in0_wsX50⟩, wsL_law_in0_wsX30⟩, wsL_law_in0_wsX20⟩, wsL_law_in0_wsX10⟩, wsL_law_in0_wsX00⟩, fun _ h => absurd h List.not_mem_nil⟩
theorem wsL_law_x0 : ∀ w ∈ (vx_atS RX4 49 "java/lang/IndexOutOfBoundsException" ["java/lang/RuntimeException", "java/lang/Exception"]).filter goodWord, w ∈ lw_tbl := by decide +kernel
theorem wsL_law_x1 : ∀ w ∈ (vx_atS RX4 60 "java/lang/IllegalStateException" ["java/lang/RuntimeException", "java/lang/Exception"]).filter goodWord, w ∈ lw_tbl := by decide +kernel
theorem wsL_law_x2 : ∀ w ∈ (vx_atS RX4 116 "java/lang/IllegalArgumentException" ["java/lang/RuntimeException", "java/lang/Exception"]).filter goodWord, w ∈ lw_tbl := by decide +kernel
theorem wsL_law_in : ∀ w ∈ wsL_law, w ∈ lw_tbl := fun w h => (List.mem_append.mp h).elim (fun h => (List.mem_append.mp h).elim (fun h => (List.mem_append.mp h).elim (fun h => wsL_law_in0 w h) (fun h => wsL_law_x0 w h)) (fun h => wsL_law_x1 w h)) (fun h => wsL_law_x2 w h)
theorem inlX0 : ∀ w ∈ wsX00, w ∈ wsL_law := fun _ h => List.mem_append_left _ (List.mem_append_left _ (List.mem_append_left _ (List.mem_append_left _ (List.mem_append_right _ h))))
theorem inX0 : ∀ w ∈ wsX00, w ∈ lw_tbl := fun w h => wsL_law_in w (inlX0 w h)
theorem inlX1 : ∀ w ∈ wsX10, w ∈ wsL_law := fun _ h => List.mem_append_left _ (List.mem_append_left _ (List.mem_append_left _ (List.mem_append_left _ (List.mem_append_left _ (List.mem_append_right _ h)))))
theorem inX1 : ∀ w ∈ wsX10, w ∈ lw_tbl := fun w h => wsL_law_in w (inlX1 w h)
theorem inlX2 : ∀ w ∈ wsX20, w ∈ wsL_law := fun _ h => List.mem_append_left _ (List.mem_append_left _ (List.mem_append_left _ (List.mem_append_left _ (List.mem_append_left _ (List.mem_append_left _ (List.mem_append_right _ h))))))
theorem inX2 : ∀ w ∈ wsX20, w ∈ lw_tbl := fun w h => wsL_law_in w (inlX2 w h)
theorem inlX3 : ∀ w ∈ wsX30, w ∈ wsL_law := fun _ h => List.mem_append_left _ (List.mem_append_left _ (List.mem_append_left _ (List.mem_append_left _ (List.mem_append_left _ (List.mem_append_left _ (List.mem_append_left _ (List.mem_append_right _ h)))))))
theorem inX3 : ∀ w ∈ wsX30, w ∈ lw_tbl := fun w h => wsL_law_in w (inlX3 w h)
theorem inlX4 : ∀ w ∈ wsX40, w ∈ wsL_law := fun _ h => List.mem_append_left _ (List.mem_append_left _ (List.mem_append_left _ (List.mem_append_left _ (List.mem_append_left _ (List.mem_append_left _ (List.mem_append_left _ (List.mem_append_left _ (List.mem_append_left _ (List.mem_append_right _ h)))))))))
theorem inX4 : ∀ w ∈ wsX40, w ∈ lw_tbl := fun w h => wsL_law_in w (inlX4 w h)
theorem inlX5 : ∀ w ∈ wsX50, w ∈ wsL_law := fun _ h => List.mem_append_left _ (List.mem_append_left _ (List.mem_append_left _ (List.mem_append_left _ (List.mem_append_left _ (List.mem_append_left _ (List.mem_append_left _ (List.mem_append_left _ (List.mem_append_right _ h))))))))
theorem inX5 : ∀ w ∈ wsX50, w ∈ lw_tbl := fun w h => wsL_law_in w (inlX5 w h)
theorem inJx145de : ∀ w ∈ wsJx145de0, w ∈ lw_tbl := by decide +kernel
theorem inJx8e188 : ∀ w ∈ wsJx8e1880, w ∈ lw_tbl := by decide +kernel
theorem inJxb160c : ∀ w ∈ wsJxb160c0, w ∈ lw_tbl := by decide +kernel
theorem inJxf58ca : ∀ w ∈ wsJxf58ca0, w ∈ lw_tbl := by decide +kernel
theorem inJ6 : ∀ w ∈ wsJ60, w ∈ lw_tbl := by decide +kernel
theorem inJ9 : ∀ w ∈ wsJ90, w ∈ lw_tbl := by decide +kernel
theorem inJxd2413 : ∀ w ∈ wsJxd24130, w ∈ lw_tbl := by decide +kernel
theorem inJ0 : ∀ w ∈ wsJ00, w ∈ lw_tbl := by decide +kernel
theorem inJ10 : ∀ w ∈ wsJ100, w ∈ lw_tbl := by decide +kernel
theorem inJxfd54e : ∀ w ∈ wsJxfd54e0, w ∈ lw_tbl := by decide +kernel
theorem inJx3cf43 : ∀ w ∈ wsJx3cf430, w ∈ lw_tbl := by decide +kernel
theorem inJ7 : ∀ w ∈ wsJ70, w ∈ lw_tbl := by decide +kernel
end
section
theorem dX0_init_0 : decode cX0_init 0 = .ok (.aload_n 0, 1) := by decide +kernel
theorem dX0_init_1 : decode cX0_init 1 = .ok (.invokespecial 3, 3) := by decide +kernel
theorem dX0_init_4 : decode cX0_init 4 = .ok (.aload_n 0, 1) := by decide +kernel
theorem dX0_init_5 : decode cX0_init 5 = .ok (.bipush 8, 2) := by decide +kernel
theorem dX0_init_7 : decode cX0_init 7 = .ok (.newarray .int, 2) := by decide +kernel
theorem dX0_init_9 : decode cX0_init 9 = .ok (.putfield 9, 3) := by decide +kernel
theorem dX0_init_12 : decode cX0_init 12 = .ok (.aload_n 0, 1) := by decide +kernel
theorem dX0_init_13 : decode cX0_init 13 = .ok (.sipush 256, 3) := by decide +kernel
theorem dX0_init_16 : decode cX0_init 16 = .ok (.newarray .int, 2) := by decide +kernel
theorem dX0_init_18 : decode cX0_init 18 = .ok (.putfield 15, 3) := by decide +kernel
theorem dX0_init_21 : decode cX0_init 21 = .ok (.aload_n 0, 1) := by decide +kernel
theorem dX0_init_22 : decode cX0_init 22 = .ok (.sipush 256, 3) := by decide +kernel
theorem dX0_init_25 : decode cX0_init 25 = .ok (.newarray .int, 2) := by decide +kernel
theorem dX0_init_27 : decode cX0_init 27 = .ok (.putfield 18, 3) := by decide +kernel
theorem dX0_init_30 : decode cX0_init 30 = .ok (.return_, 1) := by decide +kernel
set_option maxRecDepth 20000 in
theorem ggX0_enter_X0_carryForward : GoodIn wsX0_enter wsX0_carryForward := goodIn_r _ [8, 1, 9, 2, 3, 10, 11, 12, 13] (by decide +kernel) (by decide +kernel)
set_option maxRecDepth 20000 in
theorem gX0_enter_X0_carryForward : GoodIn wsX0_enter (wsV RX0 25 RX0 yX0_carryForward wsX0_carryForward) := goodIn_app (goodIn_of _ (by decide +kernel)) ggX0_enter_X0_carryForward
theorem dX0_enter_0 : decode cX0_enter 0 = .ok (.iload_n 2, 1) := by decide +kernel
theorem dX0_enter_1 : decode cX0_enter 1 = .ok (.ifCond .ne 4, 3) := by decide +kernel
theorem dX0_enter_4 : decode cX0_enter 4 = .ok (.return_, 1) := by decide +kernel
theorem dX0_enter_5 : decode cX0_enter 5 = .ok (.aload_n 0, 1) := by decide +kernel
theorem dX0_enter_6 : decode cX0_enter 6 = .ok (.getfield 21, 3) := by decide +kernel
theorem dX0_enter_9 : decode cX0_enter 9 = .ok (.sipush 256, 3) := by decide +kernel
theorem dX0_enter_12 : decode cX0_enter 12 = .ok (.if_icmp .lt 7, 3) := by decide +kernel
theorem dX0_enter_15 : decode cX0_enter 15 = .ok (.aload_n 0, 1) := by decide +kernel
theorem dX0_enter_16 : decode cX0_enter 16 = .ok (.invokevirtual 25, 3) := by decide +kernel
theorem dX0_enter_19 : decode cX0_enter 19 = .ok (.aload_n 0, 1) := by decide +kernel
theorem dX0_enter_20 : decode cX0_enter 20 = .ok (.getfield 15, 3) := by decide +kernel
theorem dX0_enter_23 : decode cX0_enter 23 = .ok (.aload_n 0, 1) := by decide +kernel
theorem dX0_enter_24 : decode cX0_enter 24 = .ok (.getfield 21, 3) := by decide +kernel
theorem dX0_enter_27 : decode cX0_enter 27 = .ok (.iload_n 1, 1) := by decide +kernel
theorem dX0_enter_28 : decode cX0_enter 28 = .ok (.iastore, 1) := by decide +kernel
theorem dX0_enter_29 : decode cX0_enter 29 = .ok (.aload_n 0, 1) := by decide +kernel
theorem dX0_enter_30 : decode cX0_enter 30 = .ok (.getfield 18, 3) := by decide +kernel
theorem dX0_enter_33 : decode cX0_enter 33 = .ok (.aload_n 0, 1) := by decide +kernel
theorem dX0_enter_34 : decode cX0_enter 34 = .ok (.getfield 21, 3) := by decide +kernel
theorem dX0_enter_37 : decode cX0_enter 37 = .ok (.iload_n 2, 1) := by decide +kernel
theorem dX0_enter_38 : decode cX0_enter 38 = .ok (.iastore, 1) := by decide +kernel
theorem dX0_enter_39 : decode cX0_enter 39 = .ok (.aload_n 0, 1) := by decide +kernel
theorem dX0_enter_40 : decode cX0_enter 40 = .ok (.dup, 1) := by decide +kernel
theorem dX0_enter_41 : decode cX0_enter 41 = .ok (.getfield 21, 3) := by decide +kernel
theorem dX0_enter_44 : decode cX0_enter 44 = .ok (.iconst 1, 1) := by decide +kernel
theorem dX0_enter_45 : decode cX0_enter 45 = .ok (.iadd, 1) := by decide +kernel
theorem dX0_enter_46 : decode cX0_enter 46 = .ok (.putfield 21, 3) := by decide +kernel
theorem dX0_enter_49 : decode cX0_enter 49 = .ok (.return_, 1) := by decide +kernel
theorem dX0_carryForward_0 : decode cX0_carryForward 0 = .ok (.iconst 0, 1) := by decide +kernel
theorem dX0_carryForward_1 : decode cX0_carryForward 1 = .ok (.istore_n 1, 1) := by decide +kernel
theorem dX0_carryForward_2 : decode cX0_carryForward 2 = .ok (.iload_n 1, 1) := by decide +kernel
theorem dX0_carryForward_3 : decode cX0_carryForward 3 = .ok (.aload_n 0, 1) := by decide +kernel
theorem dX0_carryForward_4 : decode cX0_carryForward 4 = .ok (.getfield 21, 3) := by decide +kernel
theorem dX0_carryForward_7 : decode cX0_carryForward 7 = .ok (.if_icmp .ge 29, 3) := by decide +kernel
theorem dX0_carryForward_10 : decode cX0_carryForward 10 = .ok (.aload_n 0, 1) := by decide +kernel
theorem dX0_carryForward_11 : decode cX0_carryForward 11 = .ok (.getfield 9, 3) := by decide +kernel
theorem dX0_carryForward_14 : decode cX0_carryForward 14 = .ok (.aload_n 0, 1) := by decide +kernel
theorem dX0_carryForward_15 : decode cX0_carryForward 15 = .ok (.getfield 15, 3) := by decide +kernel
theorem dX0_carryForward_18 : decode cX0_carryForward 18 = .ok (.iload_n 1, 1) := by decide +kernel
theorem dX0_carryForward_19 : decode cX0_carryForward 19 = .ok (.iaload, 1) := by decide +kernel
theorem dX0_carryForward_20 : decode cX0_carryForward 20 = .ok (.dup2, 1) := by decide +kernel
theorem dX0_carryForward_21 : decode cX0_carryForward 21 = .ok (.iaload, 1) := by decide +kernel
theorem dX0_carryForward_22 : decode cX0_carryForward 22 = .ok (.aload_n 0, 1) := by decide +kernel
theorem dX0_carryForward_23 : decode cX0_carryForward 23 = .ok (.getfield 18, 3) := by decide +kernel
theorem dX0_carryForward_26 : decode cX0_carryForward 26 = .ok (.iload_n 1, 1) := by decide +kernel
theorem dX0_carryForward_27 : decode cX0_carryForward 27 = .ok (.iaload, 1) := by decide +kernel
theorem dX0_carryForward_28 : decode cX0_carryForward 28 = .ok (.iadd, 1) := by decide +kernel
theorem dX0_carryForward_29 : decode cX0_carryForward 29 = .ok (.iastore, 1) := by decide +kernel
theorem dX0_carryForward_30 : decode cX0_carryForward 30 = .ok (.iinc 1 1, 3) := by decide +kernel
theorem dX0_carryForward_33 : decode cX0_carryForward 33 = .ok (.goto (-31), 3) := by decide +kernel
theorem dX0_carryForward_36 : decode cX0_carryForward 36 = .ok (.aload_n 0, 1) := by decide +kernel
theorem dX0_carryForward_37 : decode cX0_carryForward 37 = .ok (.iconst 0, 1) := by decide +kernel
theorem dX0_carryForward_38 : decode cX0_carryForward 38 = .ok (.putfield 21, 3) := by decide +kernel
theorem dX0_carryForward_41 : decode cX0_carryForward 41 = .ok (.return_, 1) := by decide +kernel
theorem dX0_sumOf_0 : decode cX0_sumOf 0 = .ok (.aload_n 0, 1) := by decide +kernel
theorem dX0_sumOf_1 : decode cX0_sumOf 1 = .ok (.getfield 9, 3) := by decide +kernel
theorem dX0_sumOf_4 : decode cX0_sumOf 4 = .ok (.iload_n 1, 1) := by decide +kernel
theorem dX0_sumOf_5 : decode cX0_sumOf 5 = .ok (.iaload, 1) := by decide +kernel
theorem dX0_sumOf_6 : decode cX0_sumOf 6 = .ok (.istore_n 2, 1) := by decide +kernel
theorem dX0_sumOf_7 : decode cX0_sumOf 7 = .ok (.iconst 0, 1) := by decide +kernel
theorem dX0_sumOf_8 : decode cX0_sumOf 8 = .ok (.istore_n 3, 1) := by decide +kernel
theorem dX0_sumOf_9 : decode cX0_sumOf 9 = .ok (.iload_n 3, 1) := by decide +kernel
theorem dX0_sumOf_10 : decode cX0_sumOf 10 = .ok (.aload_n 0, 1) := by decide +kernel
theorem dX0_sumOf_11 : decode cX0_sumOf 11 = .ok (.getfield 21, 3) := by decide +kernel
theorem dX0_sumOf_14 : decode cX0_sumOf 14 = .ok (.if_icmp .ge 28, 3) := by decide +kernel
theorem dX0_sumOf_17 : decode cX0_sumOf 17 = .ok (.aload_n 0, 1) := by decide +kernel
theorem dX0_sumOf_18 : decode cX0_sumOf 18 = .ok (.getfield 15, 3) := by decide +kernel
theorem dX0_sumOf_21 : decode cX0_sumOf 21 = .ok (.iload_n 3, 1) := by decide +kernel
theorem dX0_sumOf_22 : decode cX0_sumOf 22 = .ok (.iaload, 1) := by decide +kernel
theorem dX0_sumOf_23 : decode cX0_sumOf 23 = .ok (.iload_n 1, 1) := by decide +kernel
theorem dX0_sumOf_24 : decode cX0_sumOf 24 = .ok (.if_icmp .ne 12, 3) := by decide +kernel
theorem dX0_sumOf_27 : decode cX0_sumOf 27 = .ok (.iload_n 2, 1) := by decide +kernel
theorem dX0_sumOf_28 : decode cX0_sumOf 28 = .ok (.aload_n 0, 1) := by decide +kernel
theorem dX0_sumOf_29 : decode cX0_sumOf 29 = .ok (.getfield 18, 3) := by decide +kernel
theorem dX0_sumOf_32 : decode cX0_sumOf 32 = .ok (.iload_n 3, 1) := by decide +kernel
theorem dX0_sumOf_33 : decode cX0_sumOf 33 = .ok (.iaload, 1) := by decide +kernel
theorem dX0_sumOf_34 : decode cX0_sumOf 34 = .ok (.iadd, 1) := by decide +kernel
theorem dX0_sumOf_35 : decode cX0_sumOf 35 = .ok (.istore_n 2, 1) := by decide +kernel
theorem dX0_sumOf_36 : decode cX0_sumOf 36 = .ok (.iinc 3 1, 3) := by decide +kernel
theorem dX0_sumOf_39 : decode cX0_sumOf 39 = .ok (.goto (-30), 3) := by decide +kernel
theorem dX0_sumOf_42 : decode cX0_sumOf 42 = .ok (.iload_n 2, 1) := by decide +kernel
theorem dX0_sumOf_43 : decode cX0_sumOf 43 = .ok (.ireturn, 1) := by decide +kernel
theorem dX1_init_0 : decode cX1_init 0 = .ok (.aload_n 0, 1) := by decide +kernel
theorem dX1_init_1 : decode cX1_init 1 = .ok (.invokespecial 1, 3) := by decide +kernel
theorem dX1_init_4 : decode cX1_init 4 = .ok (.aload_n 0, 1) := by decide +kernel
theorem dX1_init_5 : decode cX1_init 5 = .ok (.bipush 32, 2) := by decide +kernel
theorem dX1_init_7 : decode cX1_init 7 = .ok (.newarray .int, 2) := by decide +kernel
theorem dX1_init_9 : decode cX1_init 9 = .ok (.putfield 7, 3) := by decide +kernel
theorem dX1_init_12 : decode cX1_init 12 = .ok (.aload_n 0, 1) := by decide +kernel
theorem dX1_init_13 : decode cX1_init 13 = .ok (.bipush 32, 2) := by decide +kernel
theorem dX1_init_15 : decode cX1_init 15 = .ok (.newarray .int, 2) := by decide +kernel
theorem dX1_init_17 : decode cX1_init 17 = .ok (.putfield 13, 3) := by decide +kernel
theorem dX1_init_20 : decode cX1_init 20 = .ok (.aload_n 0, 1) := by decide +kernel
theorem dX1_init_21 : decode cX1_init 21 = .ok (.bipush 32, 2) := by decide +kernel
theorem dX1_init_23 : decode cX1_init 23 = .ok (.newarray .int, 2) := by decide +kernel
theorem dX1_init_25 : decode cX1_init 25 = .ok (.putfield 16, 3) := by decide +kernel
theorem dX1_init_28 : decode cX1_init 28 = .ok (.return_, 1) := by decide +kernel
set_option maxRecDepth 20000 in
theorem ggX1_enter_X1_grow : GoodIn wsX1_enter wsX1_grow := goodIn_r _ [8, 2, 3, 9, 10, 11, 12, 13, 14, 15, 16, 17, 18, 19, 20, 21, 22, 23, 24, 25, 26, 27, 28, 29, 30, 31, 32] (by decide +kernel) (by decide +kernel)
set_option maxRecDepth 20000 in
theorem gX1_enter_X1_grow : GoodIn wsX1_enter (wsV RX1 23 RX1 yX1_grow wsX1_grow) := goodIn_app (goodIn_of _ (by decide +kernel)) ggX1_enter_X1_grow
theorem dX1_enter_0 : decode cX1_enter 0 = .ok (.aload_n 0, 1) := by decide +kernel
theorem dX1_enter_1 : decode cX1_enter 1 = .ok (.getfield 19, 3) := by decide +kernel
theorem dX1_enter_4 : decode cX1_enter 4 = .ok (.sipush 1024, 3) := by decide +kernel
theorem dX1_enter_7 : decode cX1_enter 7 = .ok (.if_icmp .lt 5, 3) := by decide +kernel
theorem dX1_enter_10 : decode cX1_enter 10 = .ok (.iconst 0, 1) := by decide +kernel
theorem dX1_enter_11 : decode cX1_enter 11 = .ok (.ireturn, 1) := by decide +kernel
theorem dX1_enter_12 : decode cX1_enter 12 = .ok (.aload_n 0, 1) := by decide +kernel
theorem dX1_enter_13 : decode cX1_enter 13 = .ok (.getfield 19, 3) := by decide +kernel
theorem dX1_enter_16 : decode cX1_enter 16 = .ok (.aload_n 0, 1) := by decide +kernel
theorem dX1_enter_17 : decode cX1_enter 17 = .ok (.getfield 13, 3) := by decide +kernel
theorem dX1_enter_20 : decode cX1_enter 20 = .ok (.arraylength, 1) := by decide +kernel
theorem dX1_enter_21 : decode cX1_enter 21 = .ok (.if_icmp .lt 7, 3) := by decide +kernel
theorem dX1_enter_24 : decode cX1_enter 24 = .ok (.aload_n 0, 1) := by decide +kernel
theorem dX1_enter_25 : decode cX1_enter 25 = .ok (.invokevirtual 23, 3) := by decide +kernel
theorem dX1_enter_28 : decode cX1_enter 28 = .ok (.aload_n 0, 1) := by decide +kernel
theorem dX1_enter_29 : decode cX1_enter 29 = .ok (.getfield 7, 3) := by decide +kernel
theorem dX1_enter_32 : decode cX1_enter 32 = .ok (.aload_n 0, 1) := by decide +kernel
theorem dX1_enter_33 : decode cX1_enter 33 = .ok (.getfield 19, 3) := by decide +kernel
theorem dX1_enter_36 : decode cX1_enter 36 = .ok (.iload_n 1, 1) := by decide +kernel
theorem dX1_enter_37 : decode cX1_enter 37 = .ok (.iastore, 1) := by decide +kernel
theorem dX1_enter_38 : decode cX1_enter 38 = .ok (.aload_n 0, 1) := by decide +kernel
theorem dX1_enter_39 : decode cX1_enter 39 = .ok (.getfield 13, 3) := by decide +kernel
theorem dX1_enter_42 : decode cX1_enter 42 = .ok (.aload_n 0, 1) := by decide +kernel
theorem dX1_enter_43 : decode cX1_enter 43 = .ok (.getfield 19, 3) := by decide +kernel
theorem dX1_enter_46 : decode cX1_enter 46 = .ok (.iload_n 2, 1) := by decide +kernel
theorem dX1_enter_47 : decode cX1_enter 47 = .ok (.iastore, 1) := by decide +kernel
theorem dX1_enter_48 : decode cX1_enter 48 = .ok (.aload_n 0, 1) := by decide +kernel
theorem dX1_enter_49 : decode cX1_enter 49 = .ok (.dup, 1) := by decide +kernel
theorem dX1_enter_50 : decode cX1_enter 50 = .ok (.getfield 19, 3) := by decide +kernel
theorem dX1_enter_53 : decode cX1_enter 53 = .ok (.iconst 1, 1) := by decide +kernel
theorem dX1_enter_54 : decode cX1_enter 54 = .ok (.iadd, 1) := by decide +kernel
theorem dX1_enter_55 : decode cX1_enter 55 = .ok (.putfield 19, 3) := by decide +kernel
theorem dX1_enter_58 : decode cX1_enter 58 = .ok (.iconst 1, 1) := by decide +kernel
theorem dX1_enter_59 : decode cX1_enter 59 = .ok (.ireturn, 1) := by decide +kernel
set_option maxRecDepth 20000 in
theorem ggX1_grow_J7_copyOf_59c91 : GoodIn wsX1_grow wsJ7_copyOf_59c91 := goodIn_r _ [7, 8, 9, 10, 11, 12, 13, 14, 15, 16, 17, 18, 19, 20, 21, 22] (by decide +kernel) (by decide +kernel)
set_option maxRecDepth 20000 in
theorem gX1_grow_J7_copyOf_59c91 : GoodIn wsX1_grow (va_wsS RX1 26 yJ7_copyOf_59c91 wsJ7_copyOf_59c91) := goodIn_app (goodIn_of _ (by decide +kernel)) ggX1_grow_J7_copyOf_59c91
theorem dX1_grow_0 : decode cX1_grow 0 = .ok (.aload_n 0, 1) := by decide +kernel
theorem dX1_grow_1 : decode cX1_grow 1 = .ok (.getfield 13, 3) := by decide +kernel
theorem dX1_grow_4 : decode cX1_grow 4 = .ok (.arraylength, 1) := by decide +kernel
theorem dX1_grow_5 : decode cX1_grow 5 = .ok (.iconst 2, 1) := by decide +kernel
theorem dX1_grow_6 : decode cX1_grow 6 = .ok (.imul, 1) := by decide +kernel
theorem dX1_grow_7 : decode cX1_grow 7 = .ok (.istore_n 1, 1) := by decide +kernel
theorem dX1_grow_8 : decode cX1_grow 8 = .ok (.aload_n 0, 1) := by decide +kernel
theorem dX1_grow_9 : decode cX1_grow 9 = .ok (.aload_n 0, 1) := by decide +kernel
theorem dX1_grow_10 : decode cX1_grow 10 = .ok (.getfield 7, 3) := by decide +kernel
theorem dX1_grow_13 : decode cX1_grow 13 = .ok (.iload_n 1, 1) := by decide +kernel
theorem dX1_grow_14 : decode cX1_grow 14 = .ok (.invokestatic 26, 3) := by decide +kernel
theorem dX1_grow_17 : decode cX1_grow 17 = .ok (.putfield 7, 3) := by decide +kernel
theorem dX1_grow_20 : decode cX1_grow 20 = .ok (.aload_n 0, 1) := by decide +kernel
theorem dX1_grow_21 : decode cX1_grow 21 = .ok (.aload_n 0, 1) := by decide +kernel
theorem dX1_grow_22 : decode cX1_grow 22 = .ok (.getfield 13, 3) := by decide +kernel
theorem dX1_grow_25 : decode cX1_grow 25 = .ok (.iload_n 1, 1) := by decide +kernel
theorem dX1_grow_26 : decode cX1_grow 26 = .ok (.invokestatic 26, 3) := by decide +kernel
theorem dX1_grow_29 : decode cX1_grow 29 = .ok (.putfield 13, 3) := by decide +kernel
theorem dX1_grow_32 : decode cX1_grow 32 = .ok (.aload_n 0, 1) := by decide +kernel
theorem dX1_grow_33 : decode cX1_grow 33 = .ok (.aload_n 0, 1) := by decide +kernel
theorem dX1_grow_34 : decode cX1_grow 34 = .ok (.getfield 16, 3) := by decide +kernel
theorem dX1_grow_37 : decode cX1_grow 37 = .ok (.iload_n 1, 1) := by decide +kernel
theorem dX1_grow_38 : decode cX1_grow 38 = .ok (.invokestatic 26, 3) := by decide +kernel
theorem dX1_grow_41 : decode cX1_grow 41 = .ok (.putfield 16, 3) := by decide +kernel
theorem dX1_grow_44 : decode cX1_grow 44 = .ok (.return_, 1) := by decide +kernel
theorem dX2_init_0 : decode cX2_init 0 = .ok (.aload_n 0, 1) := by decide +kernel
theorem dX2_init_1 : decode cX2_init 1 = .ok (.invokespecial 3, 3) := by decide +kernel
theorem dX2_init_4 : decode cX2_init 4 = .ok (.aload_n 0, 1) := by decide +kernel
theorem dX2_init_5 : decode cX2_init 5 = .ok (.bipush 100, 2) := by decide +kernel
theorem dX2_init_7 : decode cX2_init 7 = .ok (.newarray .int, 2) := by decide +kernel
theorem dX2_init_9 : decode cX2_init 9 = .ok (.putfield 9, 3) := by decide +kernel
theorem dX2_init_12 : decode cX2_init 12 = .ok (.aload_n 0, 1) := by decide +kernel
theorem dX2_init_13 : decode cX2_init 13 = .ok (.bipush 100, 2) := by decide +kernel
theorem dX2_init_15 : decode cX2_init 15 = .ok (.newarray .float, 2) := by decide +kernel
theorem dX2_init_17 : decode cX2_init 17 = .ok (.putfield 15, 3) := by decide +kernel
theorem dX2_init_20 : decode cX2_init 20 = .ok (.aload_n 0, 1) := by decide +kernel
theorem dX2_init_21 : decode cX2_init 21 = .ok (.bipush 100, 2) := by decide +kernel
theorem dX2_init_23 : decode cX2_init 23 = .ok (.newarray .int, 2) := by decide +kernel
theorem dX2_init_25 : decode cX2_init 25 = .ok (.putfield 19, 3) := by decide +kernel
theorem dX2_init_28 : decode cX2_init 28 = .ok (.aload_n 0, 1) := by decide +kernel
theorem dX2_init_29 : decode cX2_init 29 = .ok (.bipush 100, 2) := by decide +kernel
theorem dX2_init_31 : decode cX2_init 31 = .ok (.newarray .int, 2) := by decide +kernel
theorem dX2_init_33 : decode cX2_init 33 = .ok (.putfield 22, 3) := by decide +kernel
theorem dX2_init_36 : decode cX2_init 36 = .ok (.aload_n 0, 1) := by decide +kernel
theorem dX2_init_37 : decode cX2_init 37 = .ok (.bipush 100, 2) := by decide +kernel
theorem dX2_init_39 : decode cX2_init 39 = .ok (.newarray .int, 2) := by decide +kernel
theorem dX2_init_41 : decode cX2_init 41 = .ok (.putfield 25, 3) := by decide +kernel
theorem dX2_init_44 : decode cX2_init 44 = .ok (.aload_n 0, 1) := by decide +kernel
theorem dX2_init_45 : decode cX2_init 45 = .ok (.bipush 100, 2) := by decide +kernel
theorem dX2_init_47 : decode cX2_init 47 = .ok (.newarray .int, 2) := by decide +kernel
theorem dX2_init_49 : decode cX2_init 49 = .ok (.putfield 28, 3) := by decide +kernel
theorem dX2_init_52 : decode cX2_init 52 = .ok (.aload_n 0, 1) := by decide +kernel
theorem dX2_init_53 : decode cX2_init 53 = .ok (.bipush 100, 2) := by decide +kernel
theorem dX2_init_55 : decode cX2_init 55 = .ok (.newarray .int, 2) := by decide +kernel
theorem dX2_init_57 : decode cX2_init 57 = .ok (.putfield 31, 3) := by decide +kernel
theorem dX2_init_60 : decode cX2_init 60 = .ok (.return_, 1) := by decide +kernel
theorem dX2_enter_0 : decode cX2_enter 0 = .ok (.aload_n 0, 1) := by decide +kernel
theorem dX2_enter_1 : decode cX2_enter 1 = .ok (.getfield 34, 3) := by decide +kernel
theorem dX2_enter_4 : decode cX2_enter 4 = .ok (.istore_n 3, 1) := by decide +kernel
theorem dX2_enter_5 : decode cX2_enter 5 = .ok (.aload_n 0, 1) := by decide +kernel
theorem dX2_enter_6 : decode cX2_enter 6 = .ok (.getfield 9, 3) := by decide +kernel
theorem dX2_enter_9 : decode cX2_enter 9 = .ok (.iload_n 3, 1) := by decide +kernel
theorem dX2_enter_10 : decode cX2_enter 10 = .ok (.iload_n 1, 1) := by decide +kernel
theorem dX2_enter_11 : decode cX2_enter 11 = .ok (.iastore, 1) := by decide +kernel
theorem dX2_enter_12 : decode cX2_enter 12 = .ok (.aload_n 0, 1) := by decide +kernel
theorem dX2_enter_13 : decode cX2_enter 13 = .ok (.getfield 22, 3) := by decide +kernel
theorem dX2_enter_16 : decode cX2_enter 16 = .ok (.iload_n 3, 1) := by decide +kernel
theorem dX2_enter_17 : decode cX2_enter 17 = .ok (.iload_n 2, 1) := by decide +kernel
theorem dX2_enter_18 : decode cX2_enter 18 = .ok (.iastore, 1) := by decide +kernel
theorem dX2_enter_19 : decode cX2_enter 19 = .ok (.aload_n 0, 1) := by decide +kernel
theorem dX2_enter_20 : decode cX2_enter 20 = .ok (.dup, 1) := by decide +kernel
theorem dX2_enter_21 : decode cX2_enter 21 = .ok (.getfield 34, 3) := by decide +kernel
theorem dX2_enter_24 : decode cX2_enter 24 = .ok (.iconst 1, 1) := by decide +kernel
theorem dX2_enter_25 : decode cX2_enter 25 = .ok (.iadd, 1) := by decide +kernel
theorem dX2_enter_26 : decode cX2_enter 26 = .ok (.putfield 34, 3) := by decide +kernel
theorem dX2_enter_29 : decode cX2_enter 29 = .ok (.iload_n 3, 1) := by decide +kernel
theorem dX2_enter_30 : decode cX2_enter 30 = .ok (.ireturn, 1) := by decide +kernel
theorem dX2_heldFor_0 : decode cX2_heldFor 0 = .ok (.iconst 0, 1) := by decide +kernel
theorem dX2_heldFor_1 : decode cX2_heldFor 1 = .ok (.istore_n 2, 1) := by decide +kernel
theorem dX2_heldFor_2 : decode cX2_heldFor 2 = .ok (.iconst 0, 1) := by decide +kernel
theorem dX2_heldFor_3 : decode cX2_heldFor 3 = .ok (.istore_n 3, 1) := by decide +kernel
theorem dX2_heldFor_4 : decode cX2_heldFor 4 = .ok (.iload_n 3, 1) := by decide +kernel
theorem dX2_heldFor_5 : decode cX2_heldFor 5 = .ok (.aload_n 0, 1) := by decide +kernel
theorem dX2_heldFor_6 : decode cX2_heldFor 6 = .ok (.getfield 34, 3) := by decide +kernel
theorem dX2_heldFor_9 : decode cX2_heldFor 9 = .ok (.if_icmp .ge 28, 3) := by decide +kernel
theorem dX2_heldFor_12 : decode cX2_heldFor 12 = .ok (.aload_n 0, 1) := by decide +kernel
theorem dX2_heldFor_13 : decode cX2_heldFor 13 = .ok (.getfield 9, 3) := by decide +kernel
theorem dX2_heldFor_16 : decode cX2_heldFor 16 = .ok (.iload_n 3, 1) := by decide +kernel
theorem dX2_heldFor_17 : decode cX2_heldFor 17 = .ok (.iaload, 1) := by decide +kernel
theorem dX2_heldFor_18 : decode cX2_heldFor 18 = .ok (.iload_n 1, 1) := by decide +kernel
theorem dX2_heldFor_19 : decode cX2_heldFor 19 = .ok (.if_icmp .ne 12, 3) := by decide +kernel
theorem dX2_heldFor_22 : decode cX2_heldFor 22 = .ok (.iload_n 2, 1) := by decide +kernel
theorem dX2_heldFor_23 : decode cX2_heldFor 23 = .ok (.aload_n 0, 1) := by decide +kernel
theorem dX2_heldFor_24 : decode cX2_heldFor 24 = .ok (.getfield 28, 3) := by decide +kernel
theorem dX2_heldFor_27 : decode cX2_heldFor 27 = .ok (.iload_n 3, 1) := by decide +kernel
theorem dX2_heldFor_28 : decode cX2_heldFor 28 = .ok (.iaload, 1) := by decide +kernel
theorem dX2_heldFor_29 : decode cX2_heldFor 29 = .ok (.iadd, 1) := by decide +kernel
theorem dX2_heldFor_30 : decode cX2_heldFor 30 = .ok (.istore_n 2, 1) := by decide +kernel
theorem dX2_heldFor_31 : decode cX2_heldFor 31 = .ok (.iinc 3 1, 3) := by decide +kernel
theorem dX2_heldFor_34 : decode cX2_heldFor 34 = .ok (.goto (-30), 3) := by decide +kernel
theorem dX2_heldFor_37 : decode cX2_heldFor 37 = .ok (.iload_n 2, 1) := by decide +kernel
theorem dX2_heldFor_38 : decode cX2_heldFor 38 = .ok (.ireturn, 1) := by decide +kernel
theorem dX3_init_0 : decode cX3_init 0 = .ok (.aload_n 0, 1) := by decide +kernel
theorem dX3_init_1 : decode cX3_init 1 = .ok (.invokespecial 3, 3) := by decide +kernel
theorem dX3_init_4 : decode cX3_init 4 = .ok (.aload_n 0, 1) := by decide +kernel
theorem dX3_init_5 : decode cX3_init 5 = .ok (.bipush 8, 2) := by decide +kernel
theorem dX3_init_7 : decode cX3_init 7 = .ok (.newarray .int, 2) := by decide +kernel
theorem dX3_init_9 : decode cX3_init 9 = .ok (.putfield 9, 3) := by decide +kernel
theorem dX3_init_12 : decode cX3_init 12 = .ok (.aload_n 0, 1) := by decide +kernel
theorem dX3_init_13 : decode cX3_init 13 = .ok (.bipush 8, 2) := by decide +kernel
theorem dX3_init_15 : decode cX3_init 15 = .ok (.newarray .int, 2) := by decide +kernel
theorem dX3_init_17 : decode cX3_init 17 = .ok (.putfield 15, 3) := by decide +kernel
theorem dX3_init_20 : decode cX3_init 20 = .ok (.aload_n 0, 1) := by decide +kernel
theorem dX3_init_21 : decode cX3_init 21 = .ok (.bipush 8, 2) := by decide +kernel
theorem dX3_init_23 : decode cX3_init 23 = .ok (.newarray .int, 2) := by decide +kernel
theorem dX3_init_25 : decode cX3_init 25 = .ok (.putfield 18, 3) := by decide +kernel
theorem dX3_init_28 : decode cX3_init 28 = .ok (.aload_n 0, 1) := by decide +kernel
theorem dX3_init_29 : decode cX3_init 29 = .ok (.bipush 8, 2) := by decide +kernel
theorem dX3_init_31 : decode cX3_init 31 = .ok (.newarray .int, 2) := by decide +kernel
theorem dX3_init_33 : decode cX3_init 33 = .ok (.putfield 21, 3) := by decide +kernel
theorem dX3_init_36 : decode cX3_init 36 = .ok (.aload_n 0, 1) := by decide +kernel
theorem dX3_init_37 : decode cX3_init 37 = .ok (.bipush 8, 2) := by decide +kernel
theorem dX3_init_39 : decode cX3_init 39 = .ok (.newarray .int, 2) := by decide +kernel
theorem dX3_init_41 : decode cX3_init 41 = .ok (.putfield 24, 3) := by decide +kernel
theorem dX3_init_44 : decode cX3_init 44 = .ok (.aload_n 0, 1) := by decide +kernel
theorem dX3_init_45 : decode cX3_init 45 = .ok (.bipush 8, 2) := by decide +kernel
theorem dX3_init_47 : decode cX3_init 47 = .ok (.newarray .int, 2) := by decide +kernel
theorem dX3_init_49 : decode cX3_init 49 = .ok (.putfield 27, 3) := by decide +kernel
theorem dX3_init_52 : decode cX3_init 52 = .ok (.aload_n 0, 1) := by decide +kernel
theorem dX3_init_53 : decode cX3_init 53 = .ok (.bipush 8, 2) := by decide +kernel
theorem dX3_init_55 : decode cX3_init 55 = .ok (.newarray .int, 2) := by decide +kernel
theorem dX3_init_57 : decode cX3_init 57 = .ok (.putfield 30, 3) := by decide +kernel
theorem dX3_init_60 : decode cX3_init 60 = .ok (.aload_n 0, 1) := by decide +kernel
theorem dX3_init_61 : decode cX3_init 61 = .ok (.bipush 8, 2) := by decide +kernel
theorem dX3_init_63 : decode cX3_init 63 = .ok (.newarray .int, 2) := by decide +kernel
theorem dX3_init_65 : decode cX3_init 65 = .ok (.putfield 33, 3) := by decide +kernel
theorem dX3_init_68 : decode cX3_init 68 = .ok (.return_, 1) := by decide +kernel
theorem dX3_enter_0 : decode cX3_enter 0 = .ok (.aload_n 0, 1) := by decide +kernel
theorem dX3_enter_1 : decode cX3_enter 1 = .ok (.getfield 36, 3) := by decide +kernel
theorem dX3_enter_4 : decode cX3_enter 4 = .ok (.istore_n 2, 1) := by decide +kernel
theorem dX3_enter_5 : decode cX3_enter 5 = .ok (.aload_n 0, 1) := by decide +kernel
theorem dX3_enter_6 : decode cX3_enter 6 = .ok (.getfield 9, 3) := by decide +kernel
theorem dX3_enter_9 : decode cX3_enter 9 = .ok (.iload_n 2, 1) := by decide +kernel
theorem dX3_enter_10 : decode cX3_enter 10 = .ok (.iload_n 1, 1) := by decide +kernel
theorem dX3_enter_11 : decode cX3_enter 11 = .ok (.iastore, 1) := by decide +kernel
theorem dX3_enter_12 : decode cX3_enter 12 = .ok (.aload_n 0, 1) := by decide +kernel
theorem dX3_enter_13 : decode cX3_enter 13 = .ok (.getfield 21, 3) := by decide +kernel
theorem dX3_enter_16 : decode cX3_enter 16 = .ok (.iload_n 2, 1) := by decide +kernel
theorem dX3_enter_17 : decode cX3_enter 17 = .ok (.iconst 1, 1) := by decide +kernel
theorem dX3_enter_18 : decode cX3_enter 18 = .ok (.iastore, 1) := by decide +kernel
theorem dX3_enter_19 : decode cX3_enter 19 = .ok (.aload_n 0, 1) := by decide +kernel
theorem dX3_enter_20 : decode cX3_enter 20 = .ok (.getfield 27, 3) := by decide +kernel
theorem dX3_enter_23 : decode cX3_enter 23 = .ok (.iload_n 2, 1) := by decide +kernel
theorem dX3_enter_24 : decode cX3_enter 24 = .ok (.bipush 30, 2) := by decide +kernel
theorem dX3_enter_26 : decode cX3_enter 26 = .ok (.iastore, 1) := by decide +kernel
theorem dX3_enter_27 : decode cX3_enter 27 = .ok (.aload_n 0, 1) := by decide +kernel
theorem dX3_enter_28 : decode cX3_enter 28 = .ok (.dup, 1) := by decide +kernel
theorem dX3_enter_29 : decode cX3_enter 29 = .ok (.getfield 36, 3) := by decide +kernel
theorem dX3_enter_32 : decode cX3_enter 32 = .ok (.iconst 1, 1) := by decide +kernel
theorem dX3_enter_33 : decode cX3_enter 33 = .ok (.iadd, 1) := by decide +kernel
theorem dX3_enter_34 : decode cX3_enter 34 = .ok (.putfield 36, 3) := by decide +kernel
theorem dX3_enter_37 : decode cX3_enter 37 = .ok (.iload_n 2, 1) := by decide +kernel
theorem dX3_enter_38 : decode cX3_enter 38 = .ok (.ireturn, 1) := by decide +kernel
set_option maxRecDepth 20000 in
theorem ggX4_init_X3_init : GoodIn wsX4_init wsX3_init := goodIn_r _ [23, 24, 2, 3, 25, 26, 27, 28, 29, 30, 31, 32, 33, 61, 62, 63, 64, 65, 66, 67, 68, 69] (by decide +kernel) (by decide +kernel)
set_option maxRecDepth 20000 in
theorem gX4_init_X3_init_n9 : GoodIn wsX4_init (wsX3_init) := ggX4_init_X3_init
set_option maxRecDepth 20000 in
theorem ggX4_init_X2_init : GoodIn wsX4_init wsX2_init := goodIn_r _ [35, 36, 2, 3, 25, 37, 20, 38, 39, 40, 41, 42, 43, 81, 82, 83, 84, 85, 86, 87, 88] (by decide +kernel) (by decide +kernel)
set_option maxRecDepth 20000 in
theorem gX4_init_X2_init_n18 : GoodIn wsX4_init (wsX2_init) := ggX4_init_X2_init
set_option maxRecDepth 20000 in
theorem ggX4_init_X1_init : GoodIn wsX4_init wsX1_init := goodIn_r _ [45, 46, 2, 3, 25, 47, 48, 49, 89, 90, 91, 92] (by decide +kernel) (by decide +kernel)
set_option maxRecDepth 20000 in
theorem gX4_init_X1_init_n25 : GoodIn wsX4_init (wsX1_init) := ggX4_init_X1_init
set_option maxRecDepth 20000 in
theorem ggX4_init_X0_init : GoodIn wsX4_init wsX0_init := goodIn_r _ [51, 52, 2, 3, 25, 53, 54, 55, 93, 94, 95, 96] (by decide +kernel) (by decide +kernel)
set_option maxRecDepth 20000 in
theorem gX4_init_X0_init_n32 : GoodIn wsX4_init (wsX0_init) := ggX4_init_X0_init
set_option maxRecDepth 20000 in
theorem ggX4_init_X4_shareOf : GoodIn wsX4_init wsX4_shareOf := goodIn_r _ [59, 60] (by decide +kernel) (by decide +kernel)
set_option maxRecDepth 20000 in
theorem gX4_init_X4_shareOf : GoodIn wsX4_init (va_wsS RX4 41 yX4_shareOf wsX4_shareOf) := goodIn_app (goodIn_of _ (by decide +kernel)) ggX4_init_X4_shareOf
theorem dX4_init_0 : decode cX4_init 0 = .ok (.aload_n 0, 1) := by decide +kernel
theorem dX4_init_1 : decode cX4_init 1 = .ok (.invokespecial 1, 3) := by decide +kernel
theorem dX4_init_4 : decode cX4_init 4 = .ok (.aload_n 0, 1) := by decide +kernel
theorem dX4_init_5 : decode cX4_init 5 = .ok (.new 7, 3) := by decide +kernel
theorem dX4_init_8 : decode cX4_init 8 = .ok (.dup, 1) := by decide +kernel
theorem dX4_init_9 : decode cX4_init 9 = .ok (.invokespecial 9, 3) := by decide +kernel
theorem dX4_init_12 : decode cX4_init 12 = .ok (.putfield 10, 3) := by decide +kernel
theorem dX4_init_15 : decode cX4_init 15 = .ok (.aload_n 0, 1) := by decide +kernel
theorem dX4_init_16 : decode cX4_init 16 = .ok (.new 16, 3) := by decide +kernel
theorem dX4_init_19 : decode cX4_init 19 = .ok (.dup, 1) := by decide +kernel
theorem dX4_init_20 : decode cX4_init 20 = .ok (.invokespecial 18, 3) := by decide +kernel
theorem dX4_init_23 : decode cX4_init 23 = .ok (.putfield 19, 3) := by decide +kernel
theorem dX4_init_26 : decode cX4_init 26 = .ok (.aload_n 0, 1) := by decide +kernel
theorem dX4_init_27 : decode cX4_init 27 = .ok (.new 23, 3) := by decide +kernel
theorem dX4_init_30 : decode cX4_init 30 = .ok (.dup, 1) := by decide +kernel
theorem dX4_init_31 : decode cX4_init 31 = .ok (.invokespecial 25, 3) := by decide +kernel
theorem dX4_init_34 : decode cX4_init 34 = .ok (.putfield 26, 3) := by decide +kernel
theorem dX4_init_37 : decode cX4_init 37 = .ok (.aload_n 0, 1) := by decide +kernel
theorem dX4_init_38 : decode cX4_init 38 = .ok (.new 30, 3) := by decide +kernel
theorem dX4_init_41 : decode cX4_init 41 = .ok (.dup, 1) := by decide +kernel
theorem dX4_init_42 : decode cX4_init 42 = .ok (.invokespecial 32, 3) := by decide +kernel
theorem dX4_init_45 : decode cX4_init 45 = .ok (.putfield 33, 3) := by decide +kernel
theorem dX4_init_48 : decode cX4_init 48 = .ok (.aload_n 0, 1) := by decide +kernel
theorem dX4_init_49 : decode cX4_init 49 = .ok (.iconst 4, 1) := by decide +kernel
theorem dX4_init_50 : decode cX4_init 50 = .ok (.newarray .float, 2) := by decide +kernel
theorem dX4_init_52 : decode cX4_init 52 = .ok (.putfield 37, 3) := by decide +kernel
theorem dX4_init_55 : decode cX4_init 55 = .ok (.iconst 0, 1) := by decide +kernel
theorem dX4_init_56 : decode cX4_init 56 = .ok (.istore_n 1, 1) := by decide +kernel
theorem dX4_init_57 : decode cX4_init 57 = .ok (.iload_n 1, 1) := by decide +kernel
theorem dX4_init_58 : decode cX4_init 58 = .ok (.iconst 4, 1) := by decide +kernel
theorem dX4_init_59 : decode cX4_init 59 = .ok (.if_icmp .ge 20, 3) := by decide +kernel
theorem dX4_init_62 : decode cX4_init 62 = .ok (.aload_n 0, 1) := by decide +kernel
theorem dX4_init_63 : decode cX4_init 63 = .ok (.getfield 37, 3) := by decide +kernel
theorem dX4_init_66 : decode cX4_init 66 = .ok (.iload_n 1, 1) := by decide +kernel
theorem dX4_init_67 : decode cX4_init 67 = .ok (.bipush 100, 2) := by decide +kernel
theorem dX4_init_69 : decode cX4_init 69 = .ok (.invokestatic 41, 3) := by decide +kernel
theorem dX4_init_72 : decode cX4_init 72 = .ok (.fastore, 1) := by decide +kernel
theorem dX4_init_73 : decode cX4_init 73 = .ok (.iinc 1 1, 3) := by decide +kernel
theorem dX4_init_76 : decode cX4_init 76 = .ok (.goto (-19), 3) := by decide +kernel
theorem dX4_init_79 : decode cX4_init 79 = .ok (.return_, 1) := by decide +kernel
set_option maxRecDepth 20000 in
theorem ggX4_addSeller_X3_enter : GoodIn wsX4_addSeller wsX3_enter := goodIn_r _ [11, 12, 13, 14, 15, 27, 28, 29, 30, 31, 32, 33, 34, 35] (by decide +kernel) (by decide +kernel)
set_option maxRecDepth 20000 in
theorem gX4_addSeller_X3_enter : GoodIn wsX4_addSeller (wsV RX4 61 RX3 yX3_enter wsX3_enter) := goodIn_app (goodIn_of _ (by decide +kernel)) ggX4_addSeller_X3_enter
theorem dX4_addSeller_0 : decode cX4_addSeller 0 = .ok (.iload_n 1, 1) := by decide +kernel
theorem dX4_addSeller_1 : decode cX4_addSeller 1 = .ok (.ifCond .lt 8, 3) := by decide +kernel
theorem dX4_addSeller_4 : decode cX4_addSeller 4 = .ok (.iload_n 1, 1) := by decide +kernel
theorem dX4_addSeller_5 : decode cX4_addSeller 5 = .ok (.iconst 4, 1) := by decide +kernel
theorem dX4_addSeller_6 : decode cX4_addSeller 6 = .ok (.if_icmp .lt 13, 3) := by decide +kernel
theorem dX4_addSeller_9 : decode cX4_addSeller 9 = .ok (.new 45, 3) := by decide +kernel
theorem dX4_addSeller_12 : decode cX4_addSeller 12 = .ok (.dup, 1) := by decide +kernel
theorem dX4_addSeller_13 : decode cX4_addSeller 13 = .ok (.ldc 47, 2) := by decide +kernel
theorem dX4_addSeller_15 : decode cX4_addSeller 15 = .ok (.invokespecial 49, 3) := by decide +kernel
theorem dX4_addSeller_18 : decode cX4_addSeller 18 = .ok (.athrow, 1) := by decide +kernel
theorem dX4_addSeller_19 : decode cX4_addSeller 19 = .ok (.aload_n 0, 1) := by decide +kernel
theorem dX4_addSeller_20 : decode cX4_addSeller 20 = .ok (.getfield 10, 3) := by decide +kernel
theorem dX4_addSeller_23 : decode cX4_addSeller 23 = .ok (.getfield 52, 3) := by decide +kernel
theorem dX4_addSeller_26 : decode cX4_addSeller 26 = .ok (.bipush 8, 2) := by decide +kernel
theorem dX4_addSeller_28 : decode cX4_addSeller 28 = .ok (.if_icmp .lt 13, 3) := by decide +kernel
theorem dX4_addSeller_31 : decode cX4_addSeller 31 = .ok (.new 56, 3) := by decide +kernel
theorem dX4_addSeller_34 : decode cX4_addSeller 34 = .ok (.dup, 1) := by decide +kernel
theorem dX4_addSeller_35 : decode cX4_addSeller 35 = .ok (.ldc 58, 2) := by decide +kernel
theorem dX4_addSeller_37 : decode cX4_addSeller 37 = .ok (.invokespecial 60, 3) := by decide +kernel
theorem dX4_addSeller_40 : decode cX4_addSeller 40 = .ok (.athrow, 1) := by decide +kernel
theorem dX4_addSeller_41 : decode cX4_addSeller 41 = .ok (.aload_n 0, 1) := by decide +kernel
theorem dX4_addSeller_42 : decode cX4_addSeller 42 = .ok (.getfield 10, 3) := by decide +kernel
theorem dX4_addSeller_45 : decode cX4_addSeller 45 = .ok (.iload_n 1, 1) := by decide +kernel
theorem dX4_addSeller_46 : decode cX4_addSeller 46 = .ok (.invokevirtual 61, 3) := by decide +kernel
theorem dX4_addSeller_49 : decode cX4_addSeller 49 = .ok (.ireturn, 1) := by decide +kernel
set_option maxRecDepth 20000 in
theorem ggX4_verify_X4_requireSeller : GoodIn wsX4_verify wsX4_requireSeller := goodIn_ca (goodIn_r _ [7, 8, 9, 1, 10, 16, 17, 18, 19, 20, 21, 22, 23, 24, 25, 26, 27, 28, 29, 30, 31, 32, 33, 34, 35] (by decide +kernel) (by decide +kernel)) (goodIn_sub (fun _ h => List.mem_cons_of_mem _ (List.mem_append_left _ (List.mem_append_right _ h))) (by decide +kernel))
set_option maxRecDepth 20000 in
theorem gX4_verify_X4_requireSeller : GoodIn wsX4_verify (wsV RX4 65 RX4 yX4_requireSeller wsX4_requireSeller) := goodIn_app (goodIn_of _ (by decide +kernel)) ggX4_verify_X4_requireSeller
set_option maxRecDepth 20000 in
theorem ggX4_verify_X4_requireBetween : GoodIn wsX4_verify wsX4_requireBetween := goodIn_ca (goodIn_r _ [13, 14, 15] (by decide +kernel) (by decide +kernel)) (goodIn_sub (fun _ h => List.mem_cons_of_mem _ (List.mem_append_right _ h)) (by decide +kernel))
set_option maxRecDepth 20000 in
theorem gX4_verify_X4_requireBetween : GoodIn wsX4_verify (va_wsS RX4 69 yX4_requireBetween wsX4_requireBetween) := goodIn_app (goodIn_of _ (by decide +kernel)) ggX4_verify_X4_requireBetween
theorem dX4_verify_0 : decode cX4_verify 0 = .ok (.aload_n 0, 1) := by decide +kernel
theorem dX4_verify_1 : decode cX4_verify 1 = .ok (.iload_n 1, 1) := by decide +kernel
theorem dX4_verify_2 : decode cX4_verify 2 = .ok (.invokevirtual 65, 3) := by decide +kernel
theorem dX4_verify_5 : decode cX4_verify 5 = .ok (.iload_n 2, 1) := by decide +kernel
theorem dX4_verify_6 : decode cX4_verify 6 = .ok (.iconst 0, 1) := by decide +kernel
theorem dX4_verify_7 : decode cX4_verify 7 = .ok (.iconst 2, 1) := by decide +kernel
theorem dX4_verify_8 : decode cX4_verify 8 = .ok (.invokestatic 69, 3) := by decide +kernel
theorem dX4_verify_11 : decode cX4_verify 11 = .ok (.aload_n 0, 1) := by decide +kernel
theorem dX4_verify_12 : decode cX4_verify 12 = .ok (.getfield 10, 3) := by decide +kernel
theorem dX4_verify_15 : decode cX4_verify 15 = .ok (.getfield 73, 3) := by decide +kernel
theorem dX4_verify_18 : decode cX4_verify 18 = .ok (.iload_n 1, 1) := by decide +kernel
theorem dX4_verify_19 : decode cX4_verify 19 = .ok (.iaload, 1) := by decide +kernel
theorem dX4_verify_20 : decode cX4_verify 20 = .ok (.istore_n 3, 1) := by decide +kernel
theorem dX4_verify_21 : decode cX4_verify 21 = .ok (.aload_n 0, 1) := by decide +kernel
theorem dX4_verify_22 : decode cX4_verify 22 = .ok (.getfield 10, 3) := by decide +kernel
theorem dX4_verify_25 : decode cX4_verify 25 = .ok (.getfield 73, 3) := by decide +kernel
theorem dX4_verify_28 : decode cX4_verify 28 = .ok (.iload_n 1, 1) := by decide +kernel
theorem dX4_verify_29 : decode cX4_verify 29 = .ok (.iload_n 2, 1) := by decide +kernel
theorem dX4_verify_30 : decode cX4_verify 30 = .ok (.iastore, 1) := by decide +kernel
theorem dX4_verify_31 : decode cX4_verify 31 = .ok (.iload_n 3, 1) := by decide +kernel
theorem dX4_verify_32 : decode cX4_verify 32 = .ok (.ireturn, 1) := by decide +kernel
set_option maxRecDepth 20000 in
theorem ggX4_setPayouts_X4_requireSeller : GoodIn wsX4_setPayouts wsX4_requireSeller := goodIn_ca (goodIn_r _ [9, 10, 11, 2, 12, 18, 19, 20, 21, 22, 23, 24, 25, 26, 27, 28, 29, 30, 31, 32, 33, 34, 35, 36, 37] (by decide +kernel) (by decide +kernel)) (goodIn_sub (fun _ h => List.mem_cons_of_mem _ (List.mem_append_left _ (List.mem_append_right _ h))) (by decide +kernel))
set_option maxRecDepth 20000 in
theorem gX4_setPayouts_X4_requireSeller : GoodIn wsX4_setPayouts (wsV RX4 65 RX4 yX4_requireSeller wsX4_requireSeller) := goodIn_app (goodIn_of _ (by decide +kernel)) ggX4_setPayouts_X4_requireSeller
set_option maxRecDepth 20000 in
theorem ggX4_setPayouts_X4_requireBetween : GoodIn wsX4_setPayouts wsX4_requireBetween := goodIn_ca (goodIn_r _ [15, 16, 17] (by decide +kernel) (by decide +kernel)) (goodIn_sub (fun _ h => List.mem_cons_of_mem _ (List.mem_append_right _ h)) (by decide +kernel))
set_option maxRecDepth 20000 in
theorem gX4_setPayouts_X4_requireBetween : GoodIn wsX4_setPayouts (va_wsS RX4 69 yX4_requireBetween wsX4_requireBetween) := goodIn_app (goodIn_of _ (by decide +kernel)) ggX4_setPayouts_X4_requireBetween
theorem dX4_setPayouts_0 : decode cX4_setPayouts 0 = .ok (.aload_n 0, 1) := by decide +kernel
theorem dX4_setPayouts_1 : decode cX4_setPayouts 1 = .ok (.iload_n 1, 1) := by decide +kernel
theorem dX4_setPayouts_2 : decode cX4_setPayouts 2 = .ok (.invokevirtual 65, 3) := by decide +kernel
theorem dX4_setPayouts_5 : decode cX4_setPayouts 5 = .ok (.iload_n 2, 1) := by decide +kernel
theorem dX4_setPayouts_6 : decode cX4_setPayouts 6 = .ok (.iconst 0, 1) := by decide +kernel
theorem dX4_setPayouts_7 : decode cX4_setPayouts 7 = .ok (.bipush 6, 2) := by decide +kernel
theorem dX4_setPayouts_9 : decode cX4_setPayouts 9 = .ok (.invokestatic 69, 3) := by decide +kernel
theorem dX4_setPayouts_12 : decode cX4_setPayouts 12 = .ok (.iload_n 3, 1) := by decide +kernel
theorem dX4_setPayouts_13 : decode cX4_setPayouts 13 = .ok (.iconst 1, 1) := by decide +kernel
theorem dX4_setPayouts_14 : decode cX4_setPayouts 14 = .ok (.ldc 77, 2) := by decide +kernel
theorem dX4_setPayouts_16 : decode cX4_setPayouts 16 = .ok (.invokestatic 69, 3) := by decide +kernel
theorem dX4_setPayouts_19 : decode cX4_setPayouts 19 = .ok (.aload_n 0, 1) := by decide +kernel
theorem dX4_setPayouts_20 : decode cX4_setPayouts 20 = .ok (.getfield 10, 3) := by decide +kernel
theorem dX4_setPayouts_23 : decode cX4_setPayouts 23 = .ok (.getfield 78, 3) := by decide +kernel
theorem dX4_setPayouts_26 : decode cX4_setPayouts 26 = .ok (.iload_n 1, 1) := by decide +kernel
theorem dX4_setPayouts_27 : decode cX4_setPayouts 27 = .ok (.iload_n 2, 1) := by decide +kernel
theorem dX4_setPayouts_28 : decode cX4_setPayouts 28 = .ok (.iastore, 1) := by decide +kernel
theorem dX4_setPayouts_29 : decode cX4_setPayouts 29 = .ok (.aload_n 0, 1) := by decide +kernel
theorem dX4_setPayouts_30 : decode cX4_setPayouts 30 = .ok (.getfield 10, 3) := by decide +kernel
theorem dX4_setPayouts_33 : decode cX4_setPayouts 33 = .ok (.getfield 81, 3) := by decide +kernel
theorem dX4_setPayouts_36 : decode cX4_setPayouts 36 = .ok (.iload_n 1, 1) := by decide +kernel
theorem dX4_setPayouts_37 : decode cX4_setPayouts 37 = .ok (.iload_n 3, 1) := by decide +kernel
theorem dX4_setPayouts_38 : decode cX4_setPayouts 38 = .ok (.iastore, 1) := by decide +kernel
theorem dX4_setPayouts_39 : decode cX4_setPayouts 39 = .ok (.return_, 1) := by decide +kernel
set_option maxRecDepth 20000 in
theorem ggX4_setReserve_X4_requireSeller : GoodIn wsX4_setReserve wsX4_requireSeller := goodIn_ca (goodIn_r _ [8, 9, 10, 1, 11, 17, 18, 19, 20, 21, 22, 23, 24, 25, 26, 27, 28, 29, 30, 31, 32, 33, 34, 35, 36] (by decide +kernel) (by decide +kernel)) (goodIn_sub (fun _ h => List.mem_cons_of_mem _ (List.mem_append_left _ (List.mem_append_right _ h))) (by decide +kernel))
set_option maxRecDepth 20000 in
theorem gX4_setReserve_X4_requireSeller : GoodIn wsX4_setReserve (wsV RX4 65 RX4 yX4_requireSeller wsX4_requireSeller) := goodIn_app (goodIn_of _ (by decide +kernel)) ggX4_setReserve_X4_requireSeller
set_option maxRecDepth 20000 in
theorem ggX4_setReserve_X4_requireBetween : GoodIn wsX4_setReserve wsX4_requireBetween := goodIn_ca (goodIn_r _ [14, 15, 16] (by decide +kernel) (by decide +kernel)) (goodIn_sub (fun _ h => List.mem_cons_of_mem _ (List.mem_append_right _ h)) (by decide +kernel))
set_option maxRecDepth 20000 in
theorem gX4_setReserve_X4_requireBetween : GoodIn wsX4_setReserve (va_wsS RX4 69 yX4_requireBetween wsX4_requireBetween) := goodIn_app (goodIn_of _ (by decide +kernel)) ggX4_setReserve_X4_requireBetween
theorem dX4_setReserve_0 : decode cX4_setReserve 0 = .ok (.aload_n 0, 1) := by decide +kernel
theorem dX4_setReserve_1 : decode cX4_setReserve 1 = .ok (.iload_n 1, 1) := by decide +kernel
theorem dX4_setReserve_2 : decode cX4_setReserve 2 = .ok (.invokevirtual 65, 3) := by decide +kernel
theorem dX4_setReserve_5 : decode cX4_setReserve 5 = .ok (.iload_n 2, 1) := by decide +kernel
theorem dX4_setReserve_6 : decode cX4_setReserve 6 = .ok (.iconst 0, 1) := by decide +kernel
theorem dX4_setReserve_7 : decode cX4_setReserve 7 = .ok (.sipush 1000, 3) := by decide +kernel
theorem dX4_setReserve_10 : decode cX4_setReserve 10 = .ok (.invokestatic 69, 3) := by decide +kernel
theorem dX4_setReserve_13 : decode cX4_setReserve 13 = .ok (.iload_n 3, 1) := by decide +kernel
theorem dX4_setReserve_14 : decode cX4_setReserve 14 = .ok (.iconst 1, 1) := by decide +kernel
theorem dX4_setReserve_15 : decode cX4_setReserve 15 = .ok (.sipush 180, 3) := by decide +kernel
theorem dX4_setReserve_18 : decode cX4_setReserve 18 = .ok (.invokestatic 69, 3) := by decide +kernel
theorem dX4_setReserve_21 : decode cX4_setReserve 21 = .ok (.aload_n 0, 1) := by decide +kernel
theorem dX4_setReserve_22 : decode cX4_setReserve 22 = .ok (.getfield 10, 3) := by decide +kernel
theorem dX4_setReserve_25 : decode cX4_setReserve 25 = .ok (.getfield 84, 3) := by decide +kernel
theorem dX4_setReserve_28 : decode cX4_setReserve 28 = .ok (.iload_n 1, 1) := by decide +kernel
theorem dX4_setReserve_29 : decode cX4_setReserve 29 = .ok (.iload_n 2, 1) := by decide +kernel
theorem dX4_setReserve_30 : decode cX4_setReserve 30 = .ok (.iastore, 1) := by decide +kernel
theorem dX4_setReserve_31 : decode cX4_setReserve 31 = .ok (.aload_n 0, 1) := by decide +kernel
theorem dX4_setReserve_32 : decode cX4_setReserve 32 = .ok (.getfield 10, 3) := by decide +kernel
theorem dX4_setReserve_35 : decode cX4_setReserve 35 = .ok (.getfield 87, 3) := by decide +kernel
theorem dX4_setReserve_38 : decode cX4_setReserve 38 = .ok (.iload_n 1, 1) := by decide +kernel
theorem dX4_setReserve_39 : decode cX4_setReserve 39 = .ok (.iload_n 3, 1) := by decide +kernel
theorem dX4_setReserve_40 : decode cX4_setReserve 40 = .ok (.iastore, 1) := by decide +kernel
theorem dX4_setReserve_41 : decode cX4_setReserve 41 = .ok (.return_, 1) := by decide +kernel
set_option maxRecDepth 20000 in
theorem ggX4_setShare_X4_requireKind : GoodIn wsX4_setShare wsX4_requireKind := goodIn_ca (goodIn_r _ [5, 6, 7] (by decide +kernel) (by decide +kernel)) (goodIn_sub (fun _ h => List.mem_cons_of_mem _ (List.mem_append_left _ (List.mem_append_right _ h))) (by decide +kernel))
set_option maxRecDepth 20000 in
theorem gX4_setShare_X4_requireKind : GoodIn wsX4_setShare (va_wsS RX4 90 yX4_requireKind wsX4_requireKind) := goodIn_app (goodIn_of _ (by decide +kernel)) ggX4_setShare_X4_requireKind
set_option maxRecDepth 20000 in
theorem ggX4_setShare_X4_requireBetween : GoodIn wsX4_setShare wsX4_requireBetween := goodIn_ca (goodIn_r _ [10, 11, 12] (by decide +kernel) (by decide +kernel)) (goodIn_sub (fun _ h => List.mem_cons_of_mem _ (List.mem_append_right _ h)) (by decide +kernel))
set_option maxRecDepth 20000 in
theorem gX4_setShare_X4_requireBetween : GoodIn wsX4_setShare (va_wsS RX4 69 yX4_requireBetween wsX4_requireBetween) := goodIn_app (goodIn_of _ (by decide +kernel)) ggX4_setShare_X4_requireBetween
set_option maxRecDepth 20000 in
theorem ggX4_setShare_X4_shareOf : GoodIn wsX4_setShare wsX4_shareOf := goodIn_r _ [15, 16] (by decide +kernel) (by decide +kernel)
set_option maxRecDepth 20000 in
theorem gX4_setShare_X4_shareOf : GoodIn wsX4_setShare (va_wsS RX4 41 yX4_shareOf wsX4_shareOf) := goodIn_app (goodIn_of _ (by decide +kernel)) ggX4_setShare_X4_shareOf
set_option maxRecDepth 20000 in
theorem ggX4_setShare_X4_bitsOf : GoodIn wsX4_setShare wsX4_bitsOf := goodIn_r _ [19, 20] (by decide +kernel) (by decide +kernel)
set_option maxRecDepth 20000 in
theorem gX4_setShare_X4_bitsOf : GoodIn wsX4_setShare (va_wsS RX4 93 yX4_bitsOf wsX4_bitsOf) := goodIn_app (goodIn_of _ (by decide +kernel)) ggX4_setShare_X4_bitsOf
theorem dX4_setShare_0 : decode cX4_setShare 0 = .ok (.iload_n 1, 1) := by decide +kernel
theorem dX4_setShare_1 : decode cX4_setShare 1 = .ok (.invokestatic 90, 3) := by decide +kernel
theorem dX4_setShare_4 : decode cX4_setShare 4 = .ok (.iload_n 2, 1) := by decide +kernel
theorem dX4_setShare_5 : decode cX4_setShare 5 = .ok (.iconst 0, 1) := by decide +kernel
theorem dX4_setShare_6 : decode cX4_setShare 6 = .ok (.sipush 999, 3) := by decide +kernel
theorem dX4_setShare_9 : decode cX4_setShare 9 = .ok (.invokestatic 69, 3) := by decide +kernel
theorem dX4_setShare_12 : decode cX4_setShare 12 = .ok (.iload_n 2, 1) := by decide +kernel
theorem dX4_setShare_13 : decode cX4_setShare 13 = .ok (.invokestatic 41, 3) := by decide +kernel
theorem dX4_setShare_16 : decode cX4_setShare 16 = .ok (.fstore_n 3, 1) := by decide +kernel
theorem dX4_setShare_17 : decode cX4_setShare 17 = .ok (.aload_n 0, 1) := by decide +kernel
theorem dX4_setShare_18 : decode cX4_setShare 18 = .ok (.getfield 37, 3) := by decide +kernel
theorem dX4_setShare_21 : decode cX4_setShare 21 = .ok (.iload_n 1, 1) := by decide +kernel
theorem dX4_setShare_22 : decode cX4_setShare 22 = .ok (.fload_n 3, 1) := by decide +kernel
theorem dX4_setShare_23 : decode cX4_setShare 23 = .ok (.fastore, 1) := by decide +kernel
theorem dX4_setShare_24 : decode cX4_setShare 24 = .ok (.fload_n 3, 1) := by decide +kernel
theorem dX4_setShare_25 : decode cX4_setShare 25 = .ok (.invokestatic 93, 3) := by decide +kernel
theorem dX4_setShare_28 : decode cX4_setShare 28 = .ok (.ireturn, 1) := by decide +kernel
set_option maxRecDepth 20000 in
theorem ggX4_setTax_X4_requireBetween : GoodIn wsX4_setTax wsX4_requireBetween := goodIn_ca (goodIn_r _ [5, 6, 7] (by decide +kernel) (by decide +kernel)) (goodIn_sub (fun _ h => List.mem_cons_of_mem _ (List.mem_append_right _ h)) (by decide +kernel))
set_option maxRecDepth 20000 in
theorem gX4_setTax_X4_requireBetween : GoodIn wsX4_setTax (va_wsS RX4 69 yX4_requireBetween wsX4_requireBetween) := goodIn_app (goodIn_of _ (by decide +kernel)) ggX4_setTax_X4_requireBetween
theorem dX4_setTax_0 : decode cX4_setTax 0 = .ok (.iload_n 1, 1) := by decide +kernel
theorem dX4_setTax_1 : decode cX4_setTax 1 = .ok (.iconst 0, 1) := by decide +kernel
theorem dX4_setTax_2 : decode cX4_setTax 2 = .ok (.sipush 500, 3) := by decide +kernel
theorem dX4_setTax_5 : decode cX4_setTax 5 = .ok (.invokestatic 69, 3) := by decide +kernel
theorem dX4_setTax_8 : decode cX4_setTax 8 = .ok (.aload_n 0, 1) := by decide +kernel
theorem dX4_setTax_9 : decode cX4_setTax 9 = .ok (.getfield 97, 3) := by decide +kernel
theorem dX4_setTax_12 : decode cX4_setTax 12 = .ok (.istore_n 2, 1) := by decide +kernel
theorem dX4_setTax_13 : decode cX4_setTax 13 = .ok (.aload_n 0, 1) := by decide +kernel
theorem dX4_setTax_14 : decode cX4_setTax 14 = .ok (.iload_n 1, 1) := by decide +kernel
theorem dX4_setTax_15 : decode cX4_setTax 15 = .ok (.putfield 97, 3) := by decide +kernel
theorem dX4_setTax_18 : decode cX4_setTax 18 = .ok (.iload_n 2, 1) := by decide +kernel
theorem dX4_setTax_19 : decode cX4_setTax 19 = .ok (.ireturn, 1) := by decide +kernel
set_option maxRecDepth 20000 in
theorem ggX4_sell_X4_requireSeller : GoodIn wsX4_sell wsX4_requireSeller := goodIn_ca (goodIn_r _ [6, 7, 8, 9, 10, 81, 82, 83, 84, 85, 86, 87, 88, 89, 90, 91, 92, 93, 94, 95, 96, 97, 98, 99, 100] (by decide +kernel) (by decide +kernel)) (goodIn_sub (fun _ h => List.mem_cons_of_mem _ (List.mem_append_left _ (List.mem_append_left _ (List.mem_append_right _ h)))) (by decide +kernel))
set_option maxRecDepth 20000 in
theorem gX4_sell_X4_requireSeller : GoodIn wsX4_sell (wsV RX4 65 RX4 yX4_requireSeller wsX4_requireSeller) := goodIn_app (goodIn_of _ (by decide +kernel)) ggX4_sell_X4_requireSeller
set_option maxRecDepth 20000 in
theorem ggX4_sell_X4_requireKind : GoodIn wsX4_sell wsX4_requireKind := goodIn_ca (goodIn_r _ [13, 7, 8] (by decide +kernel) (by decide +kernel)) (goodIn_sub (fun _ h => List.mem_cons_of_mem _ (List.mem_append_left _ (List.mem_append_left _ (List.mem_append_right _ h)))) (by decide +kernel))
set_option maxRecDepth 20000 in
theorem gX4_sell_X4_requireKind : GoodIn wsX4_sell (va_wsS RX4 90 yX4_requireKind wsX4_requireKind) := goodIn_app (goodIn_of _ (by decide +kernel)) ggX4_sell_X4_requireKind
set_option maxRecDepth 20000 in
theorem ggX4_sell_X4_requireBetween : GoodIn wsX4_sell wsX4_requireBetween := goodIn_ca (goodIn_r _ [16, 17, 18] (by decide +kernel) (by decide +kernel)) (goodIn_sub (fun _ h => List.mem_cons_of_mem _ (List.mem_append_left _ (List.mem_append_right _ h))) (by decide +kernel))
set_option maxRecDepth 20000 in
theorem gX4_sell_X4_requireBetween : GoodIn wsX4_sell (va_wsS RX4 69 yX4_requireBetween wsX4_requireBetween) := goodIn_app (goodIn_of _ (by decide +kernel)) ggX4_sell_X4_requireBetween
set_option maxRecDepth 20000 in
theorem ggX4_sell_X4_requireRoomForSales : GoodIn wsX4_sell wsX4_requireRoomForSales := goodIn_ca (goodIn_r _ [22, 23, 24, 25, 26, 81, 82, 83, 84, 85, 86, 87, 88, 89, 90, 91, 101, 102, 103, 104, 105, 106, 107, 108] (by decide +kernel) (by decide +kernel)) (goodIn_sub (fun _ h => List.mem_cons_of_mem _ (List.mem_append_right _ h)) (by decide +kernel))
set_option maxRecDepth 20000 in
theorem gX4_sell_X4_requireRoomForSales : GoodIn wsX4_sell (wsV RX4 100 RX4 yX4_requireRoomForSales wsX4_requireRoomForSales) := goodIn_app (goodIn_of _ (by decide +kernel)) ggX4_sell_X4_requireRoomForSales
set_option maxRecDepth 20000 in
theorem ggX4_sell_X4_settle : GoodIn wsX4_sell wsX4_settle := goodIn_r _ [30, 31, 32, 33, 34, 35, 36, 9, 37, 25, 38, 39, 40, 41, 42, 43, 44, 45, 46, 47, 48, 49, 5, 50, 51, 52, 53, 54, 55, 56, 57, 58, 59, 60, 61, 62, 63, 64, 65, 66, 67, 68, 69, 70, 71, 72, 73, 74, 75, 76, 77, 78, 79, 80, 81, 82, 83, 84, 85, 86, 87, 88, 89, 90, 91, 92, 93, 94, 95, 96, 97, 98, 99, 100, 101, 102, 103, 104, 105, 106, 107, 108, 109, 110, 111, 112] (by decide +kernel) (by decide +kernel)
set_option maxRecDepth 20000 in
theorem gX4_sell_X4_settle : GoodIn wsX4_sell (wsV RX4 103 RX4 yX4_settle wsX4_settle) := goodIn_app (goodIn_of _ (by decide +kernel)) ggX4_sell_X4_settle
theorem dX4_sell_0 : decode cX4_sell 0 = .ok (.aload_n 0, 1) := by decide +kernel
theorem dX4_sell_1 : decode cX4_sell 1 = .ok (.iload_n 1, 1) := by decide +kernel
theorem dX4_sell_2 : decode cX4_sell 2 = .ok (.invokevirtual 65, 3) := by decide +kernel
theorem dX4_sell_5 : decode cX4_sell 5 = .ok (.iload_n 2, 1) := by decide +kernel
theorem dX4_sell_6 : decode cX4_sell 6 = .ok (.invokestatic 90, 3) := by decide +kernel
theorem dX4_sell_9 : decode cX4_sell 9 = .ok (.iload_n 3, 1) := by decide +kernel
theorem dX4_sell_10 : decode cX4_sell 10 = .ok (.iconst 1, 1) := by decide +kernel
theorem dX4_sell_11 : decode cX4_sell 11 = .ok (.ldc 77, 2) := by decide +kernel
theorem dX4_sell_13 : decode cX4_sell 13 = .ok (.invokestatic 69, 3) := by decide +kernel
theorem dX4_sell_16 : decode cX4_sell 16 = .ok (.aload_n 0, 1) := by decide +kernel
theorem dX4_sell_17 : decode cX4_sell 17 = .ok (.iconst 1, 1) := by decide +kernel
theorem dX4_sell_18 : decode cX4_sell 18 = .ok (.invokevirtual 100, 3) := by decide +kernel
theorem dX4_sell_21 : decode cX4_sell 21 = .ok (.aload_n 0, 1) := by decide +kernel
theorem dX4_sell_22 : decode cX4_sell 22 = .ok (.iload_n 1, 1) := by decide +kernel
theorem dX4_sell_23 : decode cX4_sell 23 = .ok (.iload_n 2, 1) := by decide +kernel
theorem dX4_sell_24 : decode cX4_sell 24 = .ok (.iload_n 3, 1) := by decide +kernel
theorem dX4_sell_25 : decode cX4_sell 25 = .ok (.invokevirtual 103, 3) := by decide +kernel
theorem dX4_sell_28 : decode cX4_sell 28 = .ok (.ireturn, 1) := by decide +kernel
set_option maxRecDepth 20000 in
theorem ggX4_order_X4_requireKind : GoodIn wsX4_order wsX4_requireKind := goodIn_ca (goodIn_r _ [15, 16, 17] (by decide +kernel) (by decide +kernel)) (goodIn_sub (fun _ h => List.mem_cons_of_mem _ (List.mem_append_right _ h)) (by decide +kernel))
set_option maxRecDepth 20000 in
theorem gX4_order_X4_requireKind : GoodIn wsX4_order (va_wsS RX4 90 yX4_requireKind wsX4_requireKind) := goodIn_app (goodIn_of _ (by decide +kernel)) ggX4_order_X4_requireKind
set_option maxRecDepth 20000 in
theorem ggX4_order_X4_requireBetween : GoodIn wsX4_order wsX4_requireBetween := goodIn_ca (goodIn_r _ [20, 1, 2] (by decide +kernel) (by decide +kernel)) (goodIn_sub (fun _ h => List.mem_cons_of_mem _ (List.mem_append_left _ (List.mem_append_left _ (List.mem_append_right _ h)))) (by decide +kernel))
set_option maxRecDepth 20000 in
theorem gX4_order_X4_requireBetween : GoodIn wsX4_order (va_wsS RX4 69 yX4_requireBetween wsX4_requireBetween) := goodIn_app (goodIn_of _ (by decide +kernel)) ggX4_order_X4_requireBetween
set_option maxRecDepth 20000 in
theorem ggX4_order_J6_bitCount_0f7a4 : GoodIn wsX4_order wsJ6_bitCount_0f7a4 := goodIn_r _ [24, 25, 26, 27] (by decide +kernel) (by decide +kernel)
set_option maxRecDepth 20000 in
theorem gX4_order_J6_bitCount_0f7a4 : GoodIn wsX4_order (va_wsS RX4 107 yJ6_bitCount_0f7a4 wsJ6_bitCount_0f7a4) := goodIn_app (goodIn_of _ (by decide +kernel)) ggX4_order_J6_bitCount_0f7a4
set_option maxRecDepth 20000 in
theorem ggX4_order_X4_requireRoomForSales : GoodIn wsX4_order wsX4_requireRoomForSales := goodIn_ca (goodIn_r _ [31, 3, 4, 32, 33, 88, 89, 90, 91, 92, 93, 94, 95, 96, 97, 98, 108, 109, 110, 111, 112, 113, 114, 115] (by decide +kernel) (by decide +kernel)) (goodIn_sub (fun _ h => List.mem_cons_of_mem _ (List.mem_append_left _ (List.mem_append_right _ h))) (by decide +kernel))
set_option maxRecDepth 20000 in
theorem gX4_order_X4_requireRoomForSales : GoodIn wsX4_order (wsV RX4 100 RX4 yX4_requireRoomForSales wsX4_requireRoomForSales) := goodIn_app (goodIn_of _ (by decide +kernel)) ggX4_order_X4_requireRoomForSales
set_option maxRecDepth 20000 in
theorem ggX4_order_X4_settleParts : GoodIn wsX4_order wsX4_settleParts := goodIn_r _ [37, 6, 7, 38, 39, 40, 14, 41, 42, 43, 8, 9, 10, 11, 44, 32, 45, 46, 47, 48, 49, 50, 51, 52, 53, 54, 55, 56, 57, 58, 59, 60, 61, 62, 63, 64, 65, 66, 67, 68, 69, 70, 71, 72, 73, 74, 75, 76, 77, 78, 79, 80, 81, 82, 83, 84, 85, 86, 87, 88, 89, 90, 91, 92, 93, 94, 95, 96, 97, 98, 99, 100, 101, 102, 103, 104, 105, 106, 107, 108, 109, 110, 111, 112, 113, 114, 115, 116, 117, 118, 119] (by decide +kernel) (by decide +kernel)
set_option maxRecDepth 20000 in
theorem gX4_order_X4_settleParts : GoodIn wsX4_order (wsV RX4 125 RX4 yX4_settleParts wsX4_settleParts) := goodIn_app (goodIn_of _ (by decide +kernel)) ggX4_order_X4_settleParts
theorem dX4_order_0 : decode cX4_order 0 = .ok (.iload_n 2, 1) := by decide +kernel
theorem dX4_order_1 : decode cX4_order 1 = .ok (.invokestatic 90, 3) := by decide +kernel
theorem dX4_order_4 : decode cX4_order 4 = .ok (.iload_n 1, 1) := by decide +kernel
theorem dX4_order_5 : decode cX4_order 5 = .ok (.iconst 0, 1) := by decide +kernel
theorem dX4_order_6 : decode cX4_order 6 = .ok (.sipush 255, 3) := by decide +kernel
theorem dX4_order_9 : decode cX4_order 9 = .ok (.invokestatic 69, 3) := by decide +kernel
theorem dX4_order_12 : decode cX4_order 12 = .ok (.iload_n 3, 1) := by decide +kernel
theorem dX4_order_13 : decode cX4_order 13 = .ok (.iconst 1, 1) := by decide +kernel
theorem dX4_order_14 : decode cX4_order 14 = .ok (.ldc 77, 2) := by decide +kernel
theorem dX4_order_16 : decode cX4_order 16 = .ok (.invokestatic 69, 3) := by decide +kernel
theorem dX4_order_19 : decode cX4_order 19 = .ok (.iload_n 1, 1) := by decide +kernel
theorem dX4_order_20 : decode cX4_order 20 = .ok (.invokestatic 107, 3) := by decide +kernel
theorem dX4_order_23 : decode cX4_order 23 = .ok (.istore 4, 2) := by decide +kernel
theorem dX4_order_25 : decode cX4_order 25 = .ok (.iload 4, 2) := by decide +kernel
theorem dX4_order_27 : decode cX4_order 27 = .ok (.iconst 1, 1) := by decide +kernel
theorem dX4_order_28 : decode cX4_order 28 = .ok (.if_icmp .ge 13, 3) := by decide +kernel
theorem dX4_order_31 : decode cX4_order 31 = .ok (.new 112, 3) := by decide +kernel
theorem dX4_order_34 : decode cX4_order 34 = .ok (.dup, 1) := by decide +kernel
theorem dX4_order_35 : decode cX4_order 35 = .ok (.ldc 114, 2) := by decide +kernel
theorem dX4_order_37 : decode cX4_order 37 = .ok (.invokespecial 116, 3) := by decide +kernel
theorem dX4_order_40 : decode cX4_order 40 = .ok (.athrow, 1) := by decide +kernel
theorem dX4_order_41 : decode cX4_order 41 = .ok (.iload_n 1, 1) := by decide +kernel
theorem dX4_order_42 : decode cX4_order 42 = .ok (.aload_n 0, 1) := by decide +kernel
theorem dX4_order_43 : decode cX4_order 43 = .ok (.getfield 10, 3) := by decide +kernel
theorem dX4_order_46 : decode cX4_order 46 = .ok (.getfield 52, 3) := by decide +kernel
theorem dX4_order_49 : decode cX4_order 49 = .ok (.ishr, 1) := by decide +kernel
theorem dX4_order_50 : decode cX4_order 50 = .ok (.ifCond .eq 13, 3) := by decide +kernel
theorem dX4_order_53 : decode cX4_order 53 = .ok (.new 56, 3) := by decide +kernel
theorem dX4_order_56 : decode cX4_order 56 = .ok (.dup, 1) := by decide +kernel
theorem dX4_order_57 : decode cX4_order 57 = .ok (.ldc 117, 2) := by decide +kernel
theorem dX4_order_59 : decode cX4_order 59 = .ok (.invokespecial 60, 3) := by decide +kernel
theorem dX4_order_62 : decode cX4_order 62 = .ok (.athrow, 1) := by decide +kernel
theorem dX4_order_63 : decode cX4_order 63 = .ok (.iload 4, 2) := by decide +kernel
theorem dX4_order_65 : decode cX4_order 65 = .ok (.iload_n 3, 1) := by decide +kernel
theorem dX4_order_66 : decode cX4_order 66 = .ok (.invokestatic 119, 3) := by decide +kernel
theorem dX4_order_69 : decode cX4_order 69 = .ok (.istore 5, 2) := by decide +kernel
theorem dX4_order_71 : decode cX4_order 71 = .ok (.aload_n 0, 1) := by decide +kernel
theorem dX4_order_72 : decode cX4_order 72 = .ok (.iload 5, 2) := by decide +kernel
theorem dX4_order_74 : decode cX4_order 74 = .ok (.invokevirtual 100, 3) := by decide +kernel
theorem dX4_order_77 : decode cX4_order 77 = .ok (.aload_n 0, 1) := by decide +kernel
theorem dX4_order_78 : decode cX4_order 78 = .ok (.iload_n 1, 1) := by decide +kernel
theorem dX4_order_79 : decode cX4_order 79 = .ok (.iload_n 2, 1) := by decide +kernel
theorem dX4_order_80 : decode cX4_order 80 = .ok (.iload_n 3, 1) := by decide +kernel
theorem dX4_order_81 : decode cX4_order 81 = .ok (.iload 4, 2) := by decide +kernel
theorem dX4_order_83 : decode cX4_order 83 = .ok (.idiv, 1) := by decide +kernel
theorem dX4_order_84 : decode cX4_order 84 = .ok (.iload_n 3, 1) := by decide +kernel
theorem dX4_order_85 : decode cX4_order 85 = .ok (.iload 4, 2) := by decide +kernel
theorem dX4_order_87 : decode cX4_order 87 = .ok (.irem, 1) := by decide +kernel
theorem dX4_order_88 : decode cX4_order 88 = .ok (.invokevirtual 125, 3) := by decide +kernel
theorem dX4_order_91 : decode cX4_order 91 = .ok (.iload 5, 2) := by decide +kernel
theorem dX4_order_93 : decode cX4_order 93 = .ok (.ireturn, 1) := by decide +kernel
set_option maxRecDepth 20000 in
theorem ggX4_refund_X4_requireBetween : GoodIn wsX4_refund wsX4_requireBetween := goodIn_ca (goodIn_r _ [25, 26, 27] (by decide +kernel) (by decide +kernel)) (goodIn_sub (fun _ h => List.mem_cons_of_mem _ (List.mem_append_right _ h)) (by decide +kernel))
set_option maxRecDepth 20000 in
theorem gX4_refund_X4_requireBetween : GoodIn wsX4_refund (va_wsS RX4 69 yX4_requireBetween wsX4_requireBetween) := goodIn_app (goodIn_of _ (by decide +kernel)) ggX4_refund_X4_requireBetween
set_option maxRecDepth 20000 in
theorem ggX4_refund_X4_partOf : GoodIn wsX4_refund wsX4_partOf := goodIn_r _ [30] (by decide +kernel) (by decide +kernel)
set_option maxRecDepth 20000 in
theorem gX4_refund_X4_partOf : GoodIn wsX4_refund (va_wsS RX4 142 yX4_partOf wsX4_partOf) := goodIn_app (goodIn_of _ (by decide +kernel)) ggX4_refund_X4_partOf
set_option maxRecDepth 20000 in
theorem ggX4_refund_X4_feeOn : GoodIn wsX4_refund wsX4_feeOn := goodIn_r _ [33] (by decide +kernel) (by decide +kernel)
set_option maxRecDepth 20000 in
theorem gX4_refund_X4_feeOn : GoodIn wsX4_refund (va_wsS RX4 148 yX4_feeOn wsX4_feeOn) := goodIn_app (goodIn_of _ (by decide +kernel)) ggX4_refund_X4_feeOn
set_option maxRecDepth 20000 in
theorem ggX4_refund_X4_post : GoodIn wsX4_refund wsX4_post := goodIn_r _ [37, 20, 21, 38, 39, 40, 41, 42, 43, 44, 45, 46, 47, 48, 49, 50, 51, 52, 53, 54, 55, 56, 57, 58, 59, 60, 61, 62, 71, 72, 73, 74, 75, 76, 77, 78, 79, 80, 81, 82, 83] (by decide +kernel) (by decide +kernel)
set_option maxRecDepth 20000 in
theorem gX4_refund_X4_post : GoodIn wsX4_refund (wsV RX4 164 RX4 yX4_post wsX4_post) := goodIn_app (goodIn_of _ (by decide +kernel)) ggX4_refund_X4_post
theorem dX4_refund_0 : decode cX4_refund 0 = .ok (.iload_n 1, 1) := by decide +kernel
theorem dX4_refund_1 : decode cX4_refund 1 = .ok (.ifCond .lt 14, 3) := by decide +kernel
theorem dX4_refund_4 : decode cX4_refund 4 = .ok (.iload_n 1, 1) := by decide +kernel
theorem dX4_refund_5 : decode cX4_refund 5 = .ok (.aload_n 0, 1) := by decide +kernel
theorem dX4_refund_6 : decode cX4_refund 6 = .ok (.getfield 19, 3) := by decide +kernel
theorem dX4_refund_9 : decode cX4_refund 9 = .ok (.getfield 129, 3) := by decide +kernel
theorem dX4_refund_12 : decode cX4_refund 12 = .ok (.if_icmp .lt 13, 3) := by decide +kernel
theorem dX4_refund_15 : decode cX4_refund 15 = .ok (.new 45, 3) := by decide +kernel
theorem dX4_refund_18 : decode cX4_refund 18 = .ok (.dup, 1) := by decide +kernel
theorem dX4_refund_19 : decode cX4_refund 19 = .ok (.ldc 130, 2) := by decide +kernel
theorem dX4_refund_21 : decode cX4_refund 21 = .ok (.invokespecial 49, 3) := by decide +kernel
theorem dX4_refund_24 : decode cX4_refund 24 = .ok (.athrow, 1) := by decide +kernel
theorem dX4_refund_25 : decode cX4_refund 25 = .ok (.iload_n 2, 1) := by decide +kernel
theorem dX4_refund_26 : decode cX4_refund 26 = .ok (.iconst 1, 1) := by decide +kernel
theorem dX4_refund_27 : decode cX4_refund 27 = .ok (.ldc 77, 2) := by decide +kernel
theorem dX4_refund_29 : decode cX4_refund 29 = .ok (.invokestatic 69, 3) := by decide +kernel
theorem dX4_refund_32 : decode cX4_refund 32 = .ok (.iload_n 2, 1) := by decide +kernel
theorem dX4_refund_33 : decode cX4_refund 33 = .ok (.aload_n 0, 1) := by decide +kernel
theorem dX4_refund_34 : decode cX4_refund 34 = .ok (.getfield 19, 3) := by decide +kernel
theorem dX4_refund_37 : decode cX4_refund 37 = .ok (.getfield 132, 3) := by decide +kernel
theorem dX4_refund_40 : decode cX4_refund 40 = .ok (.iload_n 1, 1) := by decide +kernel
theorem dX4_refund_41 : decode cX4_refund 41 = .ok (.iaload, 1) := by decide +kernel
theorem dX4_refund_42 : decode cX4_refund 42 = .ok (.if_icmp .le 13, 3) := by decide +kernel
theorem dX4_refund_45 : decode cX4_refund 45 = .ok (.new 56, 3) := by decide +kernel
theorem dX4_refund_48 : decode cX4_refund 48 = .ok (.dup, 1) := by decide +kernel
theorem dX4_refund_49 : decode cX4_refund 49 = .ok (.ldc 135, 2) := by decide +kernel
theorem dX4_refund_51 : decode cX4_refund 51 = .ok (.invokespecial 60, 3) := by decide +kernel
theorem dX4_refund_54 : decode cX4_refund 54 = .ok (.athrow, 1) := by decide +kernel
theorem dX4_refund_55 : decode cX4_refund 55 = .ok (.aload_n 0, 1) := by decide +kernel
theorem dX4_refund_56 : decode cX4_refund 56 = .ok (.getfield 19, 3) := by decide +kernel
theorem dX4_refund_59 : decode cX4_refund 59 = .ok (.getfield 137, 3) := by decide +kernel
theorem dX4_refund_62 : decode cX4_refund 62 = .ok (.iload_n 1, 1) := by decide +kernel
theorem dX4_refund_63 : decode cX4_refund 63 = .ok (.iaload, 1) := by decide +kernel
theorem dX4_refund_64 : decode cX4_refund 64 = .ok (.istore 4, 2) := by decide +kernel
theorem dX4_refund_66 : decode cX4_refund 66 = .ok (.iload_n 2, 1) := by decide +kernel
theorem dX4_refund_67 : decode cX4_refund 67 = .ok (.aload_n 0, 1) := by decide +kernel
theorem dX4_refund_68 : decode cX4_refund 68 = .ok (.getfield 19, 3) := by decide +kernel
theorem dX4_refund_71 : decode cX4_refund 71 = .ok (.getfield 140, 3) := by decide +kernel
theorem dX4_refund_74 : decode cX4_refund 74 = .ok (.iload_n 1, 1) := by decide +kernel
theorem dX4_refund_75 : decode cX4_refund 75 = .ok (.iaload, 1) := by decide +kernel
theorem dX4_refund_76 : decode cX4_refund 76 = .ok (.invokestatic 142, 3) := by decide +kernel
theorem dX4_refund_79 : decode cX4_refund 79 = .ok (.istore 5, 2) := by decide +kernel
theorem dX4_refund_81 : decode cX4_refund 81 = .ok (.iload_n 3, 1) := by decide +kernel
theorem dX4_refund_82 : decode cX4_refund 82 = .ok (.ifCond .eq 31, 3) := by decide +kernel
theorem dX4_refund_85 : decode cX4_refund 85 = .ok (.iload_n 2, 1) := by decide +kernel
theorem dX4_refund_86 : decode cX4_refund 86 = .ok (.aload_n 0, 1) := by decide +kernel
theorem dX4_refund_87 : decode cX4_refund 87 = .ok (.getfield 19, 3) := by decide +kernel
theorem dX4_refund_90 : decode cX4_refund 90 = .ok (.getfield 145, 3) := by decide +kernel
theorem dX4_refund_93 : decode cX4_refund 93 = .ok (.iload_n 1, 1) := by decide +kernel
theorem dX4_refund_94 : decode cX4_refund 94 = .ok (.faload, 1) := by decide +kernel
theorem dX4_refund_95 : decode cX4_refund 95 = .ok (.invokestatic 148, 3) := by decide +kernel
theorem dX4_refund_98 : decode cX4_refund 98 = .ok (.aload_n 0, 1) := by decide +kernel
theorem dX4_refund_99 : decode cX4_refund 99 = .ok (.getfield 19, 3) := by decide +kernel
theorem dX4_refund_102 : decode cX4_refund 102 = .ok (.getfield 152, 3) := by decide +kernel
theorem dX4_refund_105 : decode cX4_refund 105 = .ok (.iload_n 1, 1) := by decide +kernel
theorem dX4_refund_106 : decode cX4_refund 106 = .ok (.iaload, 1) := by decide +kernel
theorem dX4_refund_107 : decode cX4_refund 107 = .ok (.invokestatic 119, 3) := by decide +kernel
theorem dX4_refund_110 : decode cX4_refund 110 = .ok (.goto 4, 3) := by decide +kernel
theorem dX4_refund_113 : decode cX4_refund 113 = .ok (.iconst 0, 1) := by decide +kernel
theorem dX4_refund_114 : decode cX4_refund 114 = .ok (.istore 6, 2) := by decide +kernel
theorem dX4_refund_116 : decode cX4_refund 116 = .ok (.aload_n 0, 1) := by decide +kernel
theorem dX4_refund_117 : decode cX4_refund 117 = .ok (.getfield 19, 3) := by decide +kernel
theorem dX4_refund_120 : decode cX4_refund 120 = .ok (.getfield 132, 3) := by decide +kernel
theorem dX4_refund_123 : decode cX4_refund 123 = .ok (.iload_n 1, 1) := by decide +kernel
theorem dX4_refund_124 : decode cX4_refund 124 = .ok (.dup2, 1) := by decide +kernel
theorem dX4_refund_125 : decode cX4_refund 125 = .ok (.iaload, 1) := by decide +kernel
theorem dX4_refund_126 : decode cX4_refund 126 = .ok (.iload_n 2, 1) := by decide +kernel
theorem dX4_refund_127 : decode cX4_refund 127 = .ok (.isub, 1) := by decide +kernel
theorem dX4_refund_128 : decode cX4_refund 128 = .ok (.iastore, 1) := by decide +kernel
theorem dX4_refund_129 : decode cX4_refund 129 = .ok (.aload_n 0, 1) := by decide +kernel
theorem dX4_refund_130 : decode cX4_refund 130 = .ok (.getfield 19, 3) := by decide +kernel
theorem dX4_refund_133 : decode cX4_refund 133 = .ok (.getfield 152, 3) := by decide +kernel
theorem dX4_refund_136 : decode cX4_refund 136 = .ok (.iload_n 1, 1) := by decide +kernel
theorem dX4_refund_137 : decode cX4_refund 137 = .ok (.dup2, 1) := by decide +kernel
theorem dX4_refund_138 : decode cX4_refund 138 = .ok (.iaload, 1) := by decide +kernel
theorem dX4_refund_139 : decode cX4_refund 139 = .ok (.iload 6, 2) := by decide +kernel
theorem dX4_refund_141 : decode cX4_refund 141 = .ok (.isub, 1) := by decide +kernel
theorem dX4_refund_142 : decode cX4_refund 142 = .ok (.iastore, 1) := by decide +kernel
theorem dX4_refund_143 : decode cX4_refund 143 = .ok (.aload_n 0, 1) := by decide +kernel
theorem dX4_refund_144 : decode cX4_refund 144 = .ok (.dup, 1) := by decide +kernel
theorem dX4_refund_145 : decode cX4_refund 145 = .ok (.getfield 155, 3) := by decide +kernel
theorem dX4_refund_148 : decode cX4_refund 148 = .ok (.iload_n 2, 1) := by decide +kernel
theorem dX4_refund_149 : decode cX4_refund 149 = .ok (.iadd, 1) := by decide +kernel
theorem dX4_refund_150 : decode cX4_refund 150 = .ok (.putfield 155, 3) := by decide +kernel
theorem dX4_refund_153 : decode cX4_refund 153 = .ok (.aload_n 0, 1) := by decide +kernel
theorem dX4_refund_154 : decode cX4_refund 154 = .ok (.dup, 1) := by decide +kernel
theorem dX4_refund_155 : decode cX4_refund 155 = .ok (.getfield 158, 3) := by decide +kernel
theorem dX4_refund_158 : decode cX4_refund 158 = .ok (.iload 5, 2) := by decide +kernel
theorem dX4_refund_160 : decode cX4_refund 160 = .ok (.isub, 1) := by decide +kernel
theorem dX4_refund_161 : decode cX4_refund 161 = .ok (.putfield 158, 3) := by decide +kernel
theorem dX4_refund_164 : decode cX4_refund 164 = .ok (.aload_n 0, 1) := by decide +kernel
theorem dX4_refund_165 : decode cX4_refund 165 = .ok (.dup, 1) := by decide +kernel
theorem dX4_refund_166 : decode cX4_refund 166 = .ok (.getfield 161, 3) := by decide +kernel
theorem dX4_refund_169 : decode cX4_refund 169 = .ok (.iload 6, 2) := by decide +kernel
theorem dX4_refund_171 : decode cX4_refund 171 = .ok (.isub, 1) := by decide +kernel
theorem dX4_refund_172 : decode cX4_refund 172 = .ok (.putfield 161, 3) := by decide +kernel
theorem dX4_refund_175 : decode cX4_refund 175 = .ok (.aload_n 0, 1) := by decide +kernel
theorem dX4_refund_176 : decode cX4_refund 176 = .ok (.iload 4, 2) := by decide +kernel
theorem dX4_refund_178 : decode cX4_refund 178 = .ok (.iload 5, 2) := by decide +kernel
theorem dX4_refund_180 : decode cX4_refund 180 = .ok (.iload 6, 2) := by decide +kernel
theorem dX4_refund_182 : decode cX4_refund 182 = .ok (.iadd, 1) := by decide +kernel
theorem dX4_refund_183 : decode cX4_refund 183 = .ok (.iload_n 2, 1) := by decide +kernel
theorem dX4_refund_184 : decode cX4_refund 184 = .ok (.isub, 1) := by decide +kernel
theorem dX4_refund_185 : decode cX4_refund 185 = .ok (.invokevirtual 164, 3) := by decide +kernel
theorem dX4_refund_188 : decode cX4_refund 188 = .ok (.aload_n 0, 1) := by decide +kernel
theorem dX4_refund_189 : decode cX4_refund 189 = .ok (.getfield 10, 3) := by decide +kernel
theorem dX4_refund_192 : decode cX4_refund 192 = .ok (.getfield 168, 3) := by decide +kernel
theorem dX4_refund_195 : decode cX4_refund 195 = .ok (.iload 4, 2) := by decide +kernel
theorem dX4_refund_197 : decode cX4_refund 197 = .ok (.iaload, 1) := by decide +kernel
theorem dX4_refund_198 : decode cX4_refund 198 = .ok (.ireturn, 1) := by decide +kernel
set_option maxRecDepth 20000 in
theorem ggX4_pass_X4_requireBetween : GoodIn wsX4_pass wsX4_requireBetween := goodIn_ca (goodIn_r _ [9, 10, 11] (by decide +kernel) (by decide +kernel)) (goodIn_sub (fun _ h => List.mem_cons_of_mem _ (List.mem_append_right _ h)) (by decide +kernel))
set_option maxRecDepth 20000 in
theorem gX4_pass_X4_requireBetween : GoodIn wsX4_pass (va_wsS RX4 69 yX4_requireBetween wsX4_requireBetween) := goodIn_app (goodIn_of _ (by decide +kernel)) ggX4_pass_X4_requireBetween
set_option maxRecDepth 20000 in
theorem ggX4_pass_X4_endDay : GoodIn wsX4_pass wsX4_endDay := goodIn_r _ [15, 16, 17, 18, 3, 19, 20, 21, 8, 22, 23, 24, 25, 26, 27, 28, 29, 30, 31, 32, 33, 34, 35, 36, 37, 38, 39, 40, 41, 42, 43, 44, 45, 46, 47, 48, 49, 50, 51, 52, 53, 54, 55, 56, 57, 58, 59, 60, 61, 62, 63, 64, 65, 66, 67, 4, 68, 69, 70, 71, 72, 73, 74, 75, 76, 77, 78, 79, 80, 81, 82, 83, 84, 85, 86, 87, 88, 89, 90, 91, 92, 93, 94, 95, 96, 97, 98, 99, 100, 101, 102, 103, 104, 105, 106, 107, 108, 109, 110, 111, 112, 113, 114, 115, 120, 121, 122, 123, 124, 125, 126, 127, 128, 129, 130, 131, 132, 133, 134, 135, 136, 137, 138, 139, 140, 116, 117, 118, 119] (by decide +kernel) (by decide +kernel)
set_option maxRecDepth 20000 in
theorem gX4_pass_X4_endDay : GoodIn wsX4_pass (wsV RX4 177 RX4 yX4_endDay wsX4_endDay) := goodIn_app (goodIn_of _ (by decide +kernel)) ggX4_pass_X4_endDay
theorem dX4_pass_0 : decode cX4_pass 0 = .ok (.iload_n 1, 1) := by decide +kernel
theorem dX4_pass_1 : decode cX4_pass 1 = .ok (.iconst 1, 1) := by decide +kernel
theorem dX4_pass_2 : decode cX4_pass 2 = .ok (.bipush 100, 2) := by decide +kernel
theorem dX4_pass_4 : decode cX4_pass 4 = .ok (.invokestatic 69, 3) := by decide +kernel
theorem dX4_pass_7 : decode cX4_pass 7 = .ok (.aload_n 0, 1) := by decide +kernel
theorem dX4_pass_8 : decode cX4_pass 8 = .ok (.getfield 171, 3) := by decide +kernel
theorem dX4_pass_11 : decode cX4_pass 11 = .ok (.iload_n 1, 1) := by decide +kernel
theorem dX4_pass_12 : decode cX4_pass 12 = .ok (.iadd, 1) := by decide +kernel
theorem dX4_pass_13 : decode cX4_pass 13 = .ok (.sipush 5000, 3) := by decide +kernel
theorem dX4_pass_16 : decode cX4_pass 16 = .ok (.if_icmp .le 13, 3) := by decide +kernel
theorem dX4_pass_19 : decode cX4_pass 19 = .ok (.new 56, 3) := by decide +kernel
theorem dX4_pass_22 : decode cX4_pass 22 = .ok (.dup, 1) := by decide +kernel
theorem dX4_pass_23 : decode cX4_pass 23 = .ok (.ldc 174, 2) := by decide +kernel
theorem dX4_pass_25 : decode cX4_pass 25 = .ok (.invokespecial 60, 3) := by decide +kernel
theorem dX4_pass_28 : decode cX4_pass 28 = .ok (.athrow, 1) := by decide +kernel
theorem dX4_pass_29 : decode cX4_pass 29 = .ok (.aload_n 0, 1) := by decide +kernel
theorem dX4_pass_30 : decode cX4_pass 30 = .ok (.getfield 26, 3) := by decide +kernel
theorem dX4_pass_33 : decode cX4_pass 33 = .ok (.getfield 176, 3) := by decide +kernel
theorem dX4_pass_36 : decode cX4_pass 36 = .ok (.istore_n 2, 1) := by decide +kernel
theorem dX4_pass_37 : decode cX4_pass 37 = .ok (.iconst 0, 1) := by decide +kernel
theorem dX4_pass_38 : decode cX4_pass 38 = .ok (.istore_n 3, 1) := by decide +kernel
theorem dX4_pass_39 : decode cX4_pass 39 = .ok (.iload_n 3, 1) := by decide +kernel
theorem dX4_pass_40 : decode cX4_pass 40 = .ok (.iload_n 1, 1) := by decide +kernel
theorem dX4_pass_41 : decode cX4_pass 41 = .ok (.if_icmp .ge 13, 3) := by decide +kernel
theorem dX4_pass_44 : decode cX4_pass 44 = .ok (.aload_n 0, 1) := by decide +kernel
theorem dX4_pass_45 : decode cX4_pass 45 = .ok (.invokevirtual 177, 3) := by decide +kernel
theorem dX4_pass_48 : decode cX4_pass 48 = .ok (.iinc 3 1, 3) := by decide +kernel
theorem dX4_pass_51 : decode cX4_pass 51 = .ok (.goto (-12), 3) := by decide +kernel
theorem dX4_pass_54 : decode cX4_pass 54 = .ok (.aload_n 0, 1) := by decide +kernel
theorem dX4_pass_55 : decode cX4_pass 55 = .ok (.getfield 26, 3) := by decide +kernel
theorem dX4_pass_58 : decode cX4_pass 58 = .ok (.getfield 176, 3) := by decide +kernel
theorem dX4_pass_61 : decode cX4_pass 61 = .ok (.iload_n 2, 1) := by decide +kernel
theorem dX4_pass_62 : decode cX4_pass 62 = .ok (.isub, 1) := by decide +kernel
theorem dX4_pass_63 : decode cX4_pass 63 = .ok (.ireturn, 1) := by decide +kernel
set_option maxRecDepth 20000 in
theorem ggX4_fail_X4_requirePayout : GoodIn wsX4_fail wsX4_requirePayout := goodIn_ca (goodIn_r _ [14, 15, 16, 3, 17, 36, 37, 38, 39, 40, 41, 42, 43, 44, 45, 46, 47, 48, 49, 50] (by decide +kernel) (by decide +kernel)) (goodIn_sub (fun _ h => List.mem_cons_of_mem _ (List.mem_append_right _ h)) (by decide +kernel))
set_option maxRecDepth 20000 in
theorem gX4_fail_X4_requirePayout : GoodIn wsX4_fail (wsV RX4 180 RX4 yX4_requirePayout wsX4_requirePayout) := goodIn_app (goodIn_of _ (by decide +kernel)) ggX4_fail_X4_requirePayout
set_option maxRecDepth 20000 in
theorem ggX4_fail_X4_post : GoodIn wsX4_fail wsX4_post := goodIn_r _ [21, 7, 9, 22, 23, 24, 25, 26, 27, 28, 29, 30, 31, 32, 33, 34, 35, 36, 37, 38, 39, 40, 41, 42, 43, 44, 45, 46, 51, 52, 53, 54, 55, 56, 57, 58, 59, 60, 61, 62, 63] (by decide +kernel) (by decide +kernel)
set_option maxRecDepth 20000 in
theorem gX4_fail_X4_post : GoodIn wsX4_fail (wsV RX4 164 RX4 yX4_post wsX4_post) := goodIn_app (goodIn_of _ (by decide +kernel)) ggX4_fail_X4_post
theorem dX4_fail_0 : decode cX4_fail 0 = .ok (.aload_n 0, 1) := by decide +kernel
theorem dX4_fail_1 : decode cX4_fail 1 = .ok (.iload_n 1, 1) := by decide +kernel
theorem dX4_fail_2 : decode cX4_fail 2 = .ok (.invokevirtual 180, 3) := by decide +kernel
theorem dX4_fail_5 : decode cX4_fail 5 = .ok (.aload_n 0, 1) := by decide +kernel
theorem dX4_fail_6 : decode cX4_fail 6 = .ok (.getfield 26, 3) := by decide +kernel
theorem dX4_fail_9 : decode cX4_fail 9 = .ok (.getfield 183, 3) := by decide +kernel
theorem dX4_fail_12 : decode cX4_fail 12 = .ok (.iload_n 1, 1) := by decide +kernel
theorem dX4_fail_13 : decode cX4_fail 13 = .ok (.iaload, 1) := by decide +kernel
theorem dX4_fail_14 : decode cX4_fail 14 = .ok (.ifCond .eq 13, 3) := by decide +kernel
theorem dX4_fail_17 : decode cX4_fail 17 = .ok (.new 56, 3) := by decide +kernel
theorem dX4_fail_20 : decode cX4_fail 20 = .ok (.dup, 1) := by decide +kernel
theorem dX4_fail_21 : decode cX4_fail 21 = .ok (.ldc 186, 2) := by decide +kernel
theorem dX4_fail_23 : decode cX4_fail 23 = .ok (.invokespecial 60, 3) := by decide +kernel
theorem dX4_fail_26 : decode cX4_fail 26 = .ok (.athrow, 1) := by decide +kernel
theorem dX4_fail_27 : decode cX4_fail 27 = .ok (.aload_n 0, 1) := by decide +kernel
theorem dX4_fail_28 : decode cX4_fail 28 = .ok (.getfield 26, 3) := by decide +kernel
theorem dX4_fail_31 : decode cX4_fail 31 = .ok (.getfield 188, 3) := by decide +kernel
theorem dX4_fail_34 : decode cX4_fail 34 = .ok (.iload_n 1, 1) := by decide +kernel
theorem dX4_fail_35 : decode cX4_fail 35 = .ok (.iaload, 1) := by decide +kernel
theorem dX4_fail_36 : decode cX4_fail 36 = .ok (.istore_n 2, 1) := by decide +kernel
theorem dX4_fail_37 : decode cX4_fail 37 = .ok (.aload_n 0, 1) := by decide +kernel
theorem dX4_fail_38 : decode cX4_fail 38 = .ok (.getfield 26, 3) := by decide +kernel
theorem dX4_fail_41 : decode cX4_fail 41 = .ok (.getfield 189, 3) := by decide +kernel
theorem dX4_fail_44 : decode cX4_fail 44 = .ok (.iload_n 1, 1) := by decide +kernel
theorem dX4_fail_45 : decode cX4_fail 45 = .ok (.iaload, 1) := by decide +kernel
theorem dX4_fail_46 : decode cX4_fail 46 = .ok (.istore_n 3, 1) := by decide +kernel
theorem dX4_fail_47 : decode cX4_fail 47 = .ok (.aload_n 0, 1) := by decide +kernel
theorem dX4_fail_48 : decode cX4_fail 48 = .ok (.getfield 26, 3) := by decide +kernel
theorem dX4_fail_51 : decode cX4_fail 51 = .ok (.getfield 183, 3) := by decide +kernel
theorem dX4_fail_54 : decode cX4_fail 54 = .ok (.iload_n 1, 1) := by decide +kernel
theorem dX4_fail_55 : decode cX4_fail 55 = .ok (.iconst 1, 1) := by decide +kernel
theorem dX4_fail_56 : decode cX4_fail 56 = .ok (.iastore, 1) := by decide +kernel
theorem dX4_fail_57 : decode cX4_fail 57 = .ok (.aload_n 0, 1) := by decide +kernel
theorem dX4_fail_58 : decode cX4_fail 58 = .ok (.getfield 10, 3) := by decide +kernel
theorem dX4_fail_61 : decode cX4_fail 61 = .ok (.getfield 192, 3) := by decide +kernel
theorem dX4_fail_64 : decode cX4_fail 64 = .ok (.iload_n 2, 1) := by decide +kernel
theorem dX4_fail_65 : decode cX4_fail 65 = .ok (.dup2, 1) := by decide +kernel
theorem dX4_fail_66 : decode cX4_fail 66 = .ok (.iaload, 1) := by decide +kernel
theorem dX4_fail_67 : decode cX4_fail 67 = .ok (.iload_n 3, 1) := by decide +kernel
theorem dX4_fail_68 : decode cX4_fail 68 = .ok (.isub, 1) := by decide +kernel
theorem dX4_fail_69 : decode cX4_fail 69 = .ok (.iastore, 1) := by decide +kernel
theorem dX4_fail_70 : decode cX4_fail 70 = .ok (.aload_n 0, 1) := by decide +kernel
theorem dX4_fail_71 : decode cX4_fail 71 = .ok (.iload_n 2, 1) := by decide +kernel
theorem dX4_fail_72 : decode cX4_fail 72 = .ok (.iload_n 3, 1) := by decide +kernel
theorem dX4_fail_73 : decode cX4_fail 73 = .ok (.invokevirtual 164, 3) := by decide +kernel
theorem dX4_fail_76 : decode cX4_fail 76 = .ok (.aload_n 0, 1) := by decide +kernel
theorem dX4_fail_77 : decode cX4_fail 77 = .ok (.getfield 10, 3) := by decide +kernel
theorem dX4_fail_80 : decode cX4_fail 80 = .ok (.getfield 168, 3) := by decide +kernel
theorem dX4_fail_83 : decode cX4_fail 83 = .ok (.iload_n 2, 1) := by decide +kernel
theorem dX4_fail_84 : decode cX4_fail 84 = .ok (.iaload, 1) := by decide +kernel
theorem dX4_fail_85 : decode cX4_fail 85 = .ok (.ireturn, 1) := by decide +kernel
theorem dX4_today_0 : decode cX4_today 0 = .ok (.aload_n 0, 1) := by decide +kernel
theorem dX4_today_1 : decode cX4_today 1 = .ok (.getfield 171, 3) := by decide +kernel
theorem dX4_today_4 : decode cX4_today 4 = .ok (.ireturn, 1) := by decide +kernel
theorem dX4_payouts_0 : decode cX4_payouts 0 = .ok (.aload_n 0, 1) := by decide +kernel
theorem dX4_payouts_1 : decode cX4_payouts 1 = .ok (.getfield 26, 3) := by decide +kernel
theorem dX4_payouts_4 : decode cX4_payouts 4 = .ok (.getfield 176, 3) := by decide +kernel
theorem dX4_payouts_7 : decode cX4_payouts 7 = .ok (.ireturn, 1) := by decide +kernel
set_option maxRecDepth 20000 in
theorem ggX4_payout_X4_requirePayout : GoodIn wsX4_payout wsX4_requirePayout := goodIn_ca (goodIn_r _ [7, 8, 9, 1, 10, 11, 12, 13, 14, 15, 16, 17, 18, 19, 20, 21, 22, 23, 24, 25] (by decide +kernel) (by decide +kernel)) (goodIn_sub (fun _ h => List.mem_cons_of_mem _ (List.mem_append_right _ h)) (by decide +kernel))
set_option maxRecDepth 20000 in
theorem gX4_payout_X4_requirePayout : GoodIn wsX4_payout (wsV RX4 180 RX4 yX4_requirePayout wsX4_requirePayout) := goodIn_app (goodIn_of _ (by decide +kernel)) ggX4_payout_X4_requirePayout
theorem dX4_payout_0 : decode cX4_payout 0 = .ok (.aload_n 0, 1) := by decide +kernel
theorem dX4_payout_1 : decode cX4_payout 1 = .ok (.iload_n 1, 1) := by decide +kernel
theorem dX4_payout_2 : decode cX4_payout 2 = .ok (.invokevirtual 180, 3) := by decide +kernel
theorem dX4_payout_5 : decode cX4_payout 5 = .ok (.aload_n 0, 1) := by decide +kernel
theorem dX4_payout_6 : decode cX4_payout 6 = .ok (.getfield 26, 3) := by decide +kernel
theorem dX4_payout_9 : decode cX4_payout 9 = .ok (.getfield 189, 3) := by decide +kernel
theorem dX4_payout_12 : decode cX4_payout 12 = .ok (.iload_n 1, 1) := by decide +kernel
theorem dX4_payout_13 : decode cX4_payout 13 = .ok (.iaload, 1) := by decide +kernel
theorem dX4_payout_14 : decode cX4_payout 14 = .ok (.ireturn, 1) := by decide +kernel
set_option maxRecDepth 20000 in
theorem ggX4_sellerOf_X4_requirePayout : GoodIn wsX4_sellerOf wsX4_requirePayout := goodIn_ca (goodIn_r _ [7, 8, 9, 1, 10, 11, 12, 13, 14, 15, 16, 17, 18, 19, 20, 21, 22, 23, 24, 25] (by decide +kernel) (by decide +kernel)) (goodIn_sub (fun _ h => List.mem_cons_of_mem _ (List.mem_append_right _ h)) (by decide +kernel))
set_option maxRecDepth 20000 in
theorem gX4_sellerOf_X4_requirePayout : GoodIn wsX4_sellerOf (wsV RX4 180 RX4 yX4_requirePayout wsX4_requirePayout) := goodIn_app (goodIn_of _ (by decide +kernel)) ggX4_sellerOf_X4_requirePayout
theorem dX4_sellerOf_0 : decode cX4_sellerOf 0 = .ok (.aload_n 0, 1) := by decide +kernel
theorem dX4_sellerOf_1 : decode cX4_sellerOf 1 = .ok (.iload_n 1, 1) := by decide +kernel
theorem dX4_sellerOf_2 : decode cX4_sellerOf 2 = .ok (.invokevirtual 180, 3) := by decide +kernel
theorem dX4_sellerOf_5 : decode cX4_sellerOf 5 = .ok (.aload_n 0, 1) := by decide +kernel
theorem dX4_sellerOf_6 : decode cX4_sellerOf 6 = .ok (.getfield 26, 3) := by decide +kernel
theorem dX4_sellerOf_9 : decode cX4_sellerOf 9 = .ok (.getfield 188, 3) := by decide +kernel
theorem dX4_sellerOf_12 : decode cX4_sellerOf 12 = .ok (.iload_n 1, 1) := by decide +kernel
theorem dX4_sellerOf_13 : decode cX4_sellerOf 13 = .ok (.iaload, 1) := by decide +kernel
theorem dX4_sellerOf_14 : decode cX4_sellerOf 14 = .ok (.ireturn, 1) := by decide +kernel
set_option maxRecDepth 20000 in
theorem ggX4_balance_X4_requireSeller : GoodIn wsX4_balance wsX4_requireSeller := goodIn_ca (goodIn_r _ [7, 8, 9, 1, 10, 11, 12, 13, 14, 15, 16, 17, 18, 19, 20, 21, 22, 23, 24, 25, 26, 27, 28, 29, 30] (by decide +kernel) (by decide +kernel)) (goodIn_sub (fun _ h => List.mem_cons_of_mem _ (List.mem_append_right _ h)) (by decide +kernel))
set_option maxRecDepth 20000 in
theorem gX4_balance_X4_requireSeller : GoodIn wsX4_balance (wsV RX4 65 RX4 yX4_requireSeller wsX4_requireSeller) := goodIn_app (goodIn_of _ (by decide +kernel)) ggX4_balance_X4_requireSeller
theorem dX4_balance_0 : decode cX4_balance 0 = .ok (.aload_n 0, 1) := by decide +kernel
theorem dX4_balance_1 : decode cX4_balance 1 = .ok (.iload_n 1, 1) := by decide +kernel
theorem dX4_balance_2 : decode cX4_balance 2 = .ok (.invokevirtual 65, 3) := by decide +kernel
theorem dX4_balance_5 : decode cX4_balance 5 = .ok (.aload_n 0, 1) := by decide +kernel
theorem dX4_balance_6 : decode cX4_balance 6 = .ok (.getfield 10, 3) := by decide +kernel
theorem dX4_balance_9 : decode cX4_balance 9 = .ok (.getfield 168, 3) := by decide +kernel
theorem dX4_balance_12 : decode cX4_balance 12 = .ok (.iload_n 1, 1) := by decide +kernel
theorem dX4_balance_13 : decode cX4_balance 13 = .ok (.iaload, 1) := by decide +kernel
theorem dX4_balance_14 : decode cX4_balance 14 = .ok (.ireturn, 1) := by decide +kernel
set_option maxRecDepth 20000 in
theorem ggX4_balanceByEntries_X4_requireSeller : GoodIn wsX4_balanceByEntries wsX4_requireSeller := goodIn_ca (goodIn_r _ [6, 7, 8, 9, 10, 20, 21, 22, 23, 24, 25, 26, 27, 28, 29, 30, 31, 32, 33, 34, 35, 36, 37, 38, 39] (by decide +kernel) (by decide +kernel)) (goodIn_sub (fun _ h => List.mem_cons_of_mem _ (List.mem_append_right _ h)) (by decide +kernel))
set_option maxRecDepth 20000 in
theorem gX4_balanceByEntries_X4_requireSeller : GoodIn wsX4_balanceByEntries (wsV RX4 65 RX4 yX4_requireSeller wsX4_requireSeller) := goodIn_app (goodIn_of _ (by decide +kernel)) ggX4_balanceByEntries_X4_requireSeller
set_option maxRecDepth 20000 in
theorem ggX4_balanceByEntries_X0_sumOf : GoodIn wsX4_balanceByEntries wsX0_sumOf := goodIn_r _ [15, 16, 17, 18, 19, 40, 41, 42, 43] (by decide +kernel) (by decide +kernel)
set_option maxRecDepth 20000 in
theorem gX4_balanceByEntries_X0_sumOf : GoodIn wsX4_balanceByEntries (wsV RX4 195 RX0 yX0_sumOf wsX0_sumOf) := goodIn_app (goodIn_of _ (by decide +kernel)) ggX4_balanceByEntries_X0_sumOf
theorem dX4_balanceByEntries_0 : decode cX4_balanceByEntries 0 = .ok (.aload_n 0, 1) := by decide +kernel
theorem dX4_balanceByEntries_1 : decode cX4_balanceByEntries 1 = .ok (.iload_n 1, 1) := by decide +kernel
theorem dX4_balanceByEntries_2 : decode cX4_balanceByEntries 2 = .ok (.invokevirtual 65, 3) := by decide +kernel
theorem dX4_balanceByEntries_5 : decode cX4_balanceByEntries 5 = .ok (.aload_n 0, 1) := by decide +kernel
theorem dX4_balanceByEntries_6 : decode cX4_balanceByEntries 6 = .ok (.getfield 33, 3) := by decide +kernel
theorem dX4_balanceByEntries_9 : decode cX4_balanceByEntries 9 = .ok (.iload_n 1, 1) := by decide +kernel
theorem dX4_balanceByEntries_10 : decode cX4_balanceByEntries 10 = .ok (.invokevirtual 195, 3) := by decide +kernel
theorem dX4_balanceByEntries_13 : decode cX4_balanceByEntries 13 = .ok (.ireturn, 1) := by decide +kernel
set_option maxRecDepth 20000 in
theorem ggX4_reserve_X4_requireSeller : GoodIn wsX4_reserve wsX4_requireSeller := goodIn_ca (goodIn_r _ [6, 7, 8, 9, 10, 19, 20, 21, 22, 23, 24, 25, 26, 27, 28, 29, 30, 31, 32, 33, 34, 35, 36, 37, 38] (by decide +kernel) (by decide +kernel)) (goodIn_sub (fun _ h => List.mem_cons_of_mem _ (List.mem_append_right _ h)) (by decide +kernel))
set_option maxRecDepth 20000 in
theorem gX4_reserve_X4_requireSeller : GoodIn wsX4_reserve (wsV RX4 65 RX4 yX4_requireSeller wsX4_requireSeller) := goodIn_app (goodIn_of _ (by decide +kernel)) ggX4_reserve_X4_requireSeller
set_option maxRecDepth 20000 in
theorem ggX4_reserve_X2_heldFor : GoodIn wsX4_reserve wsX2_heldFor := goodIn_r _ [15, 16, 17, 18, 39, 40, 41, 42, 43, 44, 45, 46] (by decide +kernel) (by decide +kernel)
set_option maxRecDepth 20000 in
theorem gX4_reserve_X2_heldFor : GoodIn wsX4_reserve (wsV RX4 198 RX2 yX2_heldFor wsX2_heldFor) := goodIn_app (goodIn_of _ (by decide +kernel)) ggX4_reserve_X2_heldFor
theorem dX4_reserve_0 : decode cX4_reserve 0 = .ok (.aload_n 0, 1) := by decide +kernel
theorem dX4_reserve_1 : decode cX4_reserve 1 = .ok (.iload_n 1, 1) := by decide +kernel
theorem dX4_reserve_2 : decode cX4_reserve 2 = .ok (.invokevirtual 65, 3) := by decide +kernel
theorem dX4_reserve_5 : decode cX4_reserve 5 = .ok (.aload_n 0, 1) := by decide +kernel
theorem dX4_reserve_6 : decode cX4_reserve 6 = .ok (.getfield 19, 3) := by decide +kernel
theorem dX4_reserve_9 : decode cX4_reserve 9 = .ok (.iload_n 1, 1) := by decide +kernel
theorem dX4_reserve_10 : decode cX4_reserve 10 = .ok (.invokevirtual 198, 3) := by decide +kernel
theorem dX4_reserve_13 : decode cX4_reserve 13 = .ok (.ireturn, 1) := by decide +kernel
set_option maxRecDepth 20000 in
theorem ggX4_paidTo_X4_requireSeller : GoodIn wsX4_paidTo wsX4_requireSeller := goodIn_ca (goodIn_r _ [7, 8, 9, 1, 10, 11, 12, 13, 14, 15, 16, 17, 18, 19, 20, 21, 22, 23, 24, 25, 26, 27, 28, 29, 30] (by decide +kernel) (by decide +kernel)) (goodIn_sub (fun _ h => List.mem_cons_of_mem _ (List.mem_append_right _ h)) (by decide +kernel))
set_option maxRecDepth 20000 in
theorem gX4_paidTo_X4_requireSeller : GoodIn wsX4_paidTo (wsV RX4 65 RX4 yX4_requireSeller wsX4_requireSeller) := goodIn_app (goodIn_of _ (by decide +kernel)) ggX4_paidTo_X4_requireSeller
theorem dX4_paidTo_0 : decode cX4_paidTo 0 = .ok (.aload_n 0, 1) := by decide +kernel
theorem dX4_paidTo_1 : decode cX4_paidTo 1 = .ok (.iload_n 1, 1) := by decide +kernel
theorem dX4_paidTo_2 : decode cX4_paidTo 2 = .ok (.invokevirtual 65, 3) := by decide +kernel
theorem dX4_paidTo_5 : decode cX4_paidTo 5 = .ok (.aload_n 0, 1) := by decide +kernel
theorem dX4_paidTo_6 : decode cX4_paidTo 6 = .ok (.getfield 10, 3) := by decide +kernel
theorem dX4_paidTo_9 : decode cX4_paidTo 9 = .ok (.getfield 192, 3) := by decide +kernel
theorem dX4_paidTo_12 : decode cX4_paidTo 12 = .ok (.iload_n 1, 1) := by decide +kernel
theorem dX4_paidTo_13 : decode cX4_paidTo 13 = .ok (.iaload, 1) := by decide +kernel
theorem dX4_paidTo_14 : decode cX4_paidTo 14 = .ok (.ireturn, 1) := by decide +kernel
theorem dX4_received_0 : decode cX4_received 0 = .ok (.aload_n 0, 1) := by decide +kernel
theorem dX4_received_1 : decode cX4_received 1 = .ok (.getfield 201, 3) := by decide +kernel
theorem dX4_received_4 : decode cX4_received 4 = .ok (.ireturn, 1) := by decide +kernel
theorem dX4_refunded_0 : decode cX4_refunded 0 = .ok (.aload_n 0, 1) := by decide +kernel
theorem dX4_refunded_1 : decode cX4_refunded 1 = .ok (.getfield 155, 3) := by decide +kernel
theorem dX4_refunded_4 : decode cX4_refunded 4 = .ok (.ireturn, 1) := by decide +kernel
theorem dX4_fees_0 : decode cX4_fees 0 = .ok (.aload_n 0, 1) := by decide +kernel
theorem dX4_fees_1 : decode cX4_fees 1 = .ok (.getfield 161, 3) := by decide +kernel
theorem dX4_fees_4 : decode cX4_fees 4 = .ok (.ireturn, 1) := by decide +kernel
theorem dX4_taxes_0 : decode cX4_taxes 0 = .ok (.aload_n 0, 1) := by decide +kernel
theorem dX4_taxes_1 : decode cX4_taxes 1 = .ok (.getfield 158, 3) := by decide +kernel
theorem dX4_taxes_4 : decode cX4_taxes 4 = .ok (.ireturn, 1) := by decide +kernel
theorem dX4_requireSeller_0 : decode cX4_requireSeller 0 = .ok (.iload_n 1, 1) := by decide +kernel
theorem dX4_requireSeller_1 : decode cX4_requireSeller 1 = .ok (.ifCond .lt 14, 3) := by decide +kernel
theorem dX4_requireSeller_4 : decode cX4_requireSeller 4 = .ok (.iload_n 1, 1) := by decide +kernel
theorem dX4_requireSeller_5 : decode cX4_requireSeller 5 = .ok (.aload_n 0, 1) := by decide +kernel
theorem dX4_requireSeller_6 : decode cX4_requireSeller 6 = .ok (.getfield 10, 3) := by decide +kernel
theorem dX4_requireSeller_9 : decode cX4_requireSeller 9 = .ok (.getfield 52, 3) := by decide +kernel
theorem dX4_requireSeller_12 : decode cX4_requireSeller 12 = .ok (.if_icmp .lt 13, 3) := by decide +kernel
theorem dX4_requireSeller_15 : decode cX4_requireSeller 15 = .ok (.new 45, 3) := by decide +kernel
theorem dX4_requireSeller_18 : decode cX4_requireSeller 18 = .ok (.dup, 1) := by decide +kernel
theorem dX4_requireSeller_19 : decode cX4_requireSeller 19 = .ok (.ldc 204, 2) := by decide +kernel
theorem dX4_requireSeller_21 : decode cX4_requireSeller 21 = .ok (.invokespecial 49, 3) := by decide +kernel
theorem dX4_requireSeller_24 : decode cX4_requireSeller 24 = .ok (.athrow, 1) := by decide +kernel
theorem dX4_requireSeller_25 : decode cX4_requireSeller 25 = .ok (.return_, 1) := by decide +kernel
theorem dX4_requireKind_0 : decode cX4_requireKind 0 = .ok (.iload_n 0, 1) := by decide +kernel
theorem dX4_requireKind_1 : decode cX4_requireKind 1 = .ok (.ifCond .lt 8, 3) := by decide +kernel
theorem dX4_requireKind_4 : decode cX4_requireKind 4 = .ok (.iload_n 0, 1) := by decide +kernel
theorem dX4_requireKind_5 : decode cX4_requireKind 5 = .ok (.iconst 4, 1) := by decide +kernel
theorem dX4_requireKind_6 : decode cX4_requireKind 6 = .ok (.if_icmp .lt 13, 3) := by decide +kernel
theorem dX4_requireKind_9 : decode cX4_requireKind 9 = .ok (.new 45, 3) := by decide +kernel
theorem dX4_requireKind_12 : decode cX4_requireKind 12 = .ok (.dup, 1) := by decide +kernel
theorem dX4_requireKind_13 : decode cX4_requireKind 13 = .ok (.ldc 206, 2) := by decide +kernel
theorem dX4_requireKind_15 : decode cX4_requireKind 15 = .ok (.invokespecial 49, 3) := by decide +kernel
theorem dX4_requireKind_18 : decode cX4_requireKind 18 = .ok (.athrow, 1) := by decide +kernel
theorem dX4_requireKind_19 : decode cX4_requireKind 19 = .ok (.return_, 1) := by decide +kernel
theorem dX4_requirePayout_0 : decode cX4_requirePayout 0 = .ok (.iload_n 1, 1) := by decide +kernel
theorem dX4_requirePayout_1 : decode cX4_requirePayout 1 = .ok (.ifCond .lt 14, 3) := by decide +kernel
theorem dX4_requirePayout_4 : decode cX4_requirePayout 4 = .ok (.iload_n 1, 1) := by decide +kernel
theorem dX4_requirePayout_5 : decode cX4_requirePayout 5 = .ok (.aload_n 0, 1) := by decide +kernel
theorem dX4_requirePayout_6 : decode cX4_requirePayout 6 = .ok (.getfield 26, 3) := by decide +kernel
theorem dX4_requirePayout_9 : decode cX4_requirePayout 9 = .ok (.getfield 176, 3) := by decide +kernel
theorem dX4_requirePayout_12 : decode cX4_requirePayout 12 = .ok (.if_icmp .lt 13, 3) := by decide +kernel
theorem dX4_requirePayout_15 : decode cX4_requirePayout 15 = .ok (.new 45, 3) := by decide +kernel
theorem dX4_requirePayout_18 : decode cX4_requirePayout 18 = .ok (.dup, 1) := by decide +kernel
theorem dX4_requirePayout_19 : decode cX4_requirePayout 19 = .ok (.ldc 208, 2) := by decide +kernel
theorem dX4_requirePayout_21 : decode cX4_requirePayout 21 = .ok (.invokespecial 49, 3) := by decide +kernel
theorem dX4_requirePayout_24 : decode cX4_requirePayout 24 = .ok (.athrow, 1) := by decide +kernel
theorem dX4_requirePayout_25 : decode cX4_requirePayout 25 = .ok (.return_, 1) := by decide +kernel
theorem dX4_requireBetween_0 : decode cX4_requireBetween 0 = .ok (.iload_n 0, 1) := by decide +kernel
theorem dX4_requireBetween_1 : decode cX4_requireBetween 1 = .ok (.iload_n 1, 1) := by decide +kernel
theorem dX4_requireBetween_2 : decode cX4_requireBetween 2 = .ok (.if_icmp .lt 8, 3) := by decide +kernel
theorem dX4_requireBetween_5 : decode cX4_requireBetween 5 = .ok (.iload_n 0, 1) := by decide +kernel
theorem dX4_requireBetween_6 : decode cX4_requireBetween 6 = .ok (.iload_n 2, 1) := by decide +kernel
theorem dX4_requireBetween_7 : decode cX4_requireBetween 7 = .ok (.if_icmp .le 13, 3) := by decide +kernel
theorem dX4_requireBetween_10 : decode cX4_requireBetween 10 = .ok (.new 112, 3) := by decide +kernel
theorem dX4_requireBetween_13 : decode cX4_requireBetween 13 = .ok (.dup, 1) := by decide +kernel
theorem dX4_requireBetween_14 : decode cX4_requireBetween 14 = .ok (.ldc 210, 2) := by decide +kernel
theorem dX4_requireBetween_16 : decode cX4_requireBetween 16 = .ok (.invokespecial 116, 3) := by decide +kernel
theorem dX4_requireBetween_19 : decode cX4_requireBetween 19 = .ok (.athrow, 1) := by decide +kernel
theorem dX4_requireBetween_20 : decode cX4_requireBetween 20 = .ok (.return_, 1) := by decide +kernel
theorem dX4_requireRoomForSales_0 : decode cX4_requireRoomForSales 0 = .ok (.aload_n 0, 1) := by decide +kernel
theorem dX4_requireRoomForSales_1 : decode cX4_requireRoomForSales 1 = .ok (.getfield 19, 3) := by decide +kernel
theorem dX4_requireRoomForSales_4 : decode cX4_requireRoomForSales 4 = .ok (.getfield 129, 3) := by decide +kernel
theorem dX4_requireRoomForSales_7 : decode cX4_requireRoomForSales 7 = .ok (.iload_n 1, 1) := by decide +kernel
theorem dX4_requireRoomForSales_8 : decode cX4_requireRoomForSales 8 = .ok (.iadd, 1) := by decide +kernel
theorem dX4_requireRoomForSales_9 : decode cX4_requireRoomForSales 9 = .ok (.bipush 100, 2) := by decide +kernel
theorem dX4_requireRoomForSales_11 : decode cX4_requireRoomForSales 11 = .ok (.if_icmp .le 13, 3) := by decide +kernel
theorem dX4_requireRoomForSales_14 : decode cX4_requireRoomForSales 14 = .ok (.new 56, 3) := by decide +kernel
theorem dX4_requireRoomForSales_17 : decode cX4_requireRoomForSales 17 = .ok (.dup, 1) := by decide +kernel
theorem dX4_requireRoomForSales_18 : decode cX4_requireRoomForSales 18 = .ok (.ldc 212, 2) := by decide +kernel
theorem dX4_requireRoomForSales_20 : decode cX4_requireRoomForSales 20 = .ok (.invokespecial 60, 3) := by decide +kernel
theorem dX4_requireRoomForSales_23 : decode cX4_requireRoomForSales 23 = .ok (.athrow, 1) := by decide +kernel
theorem dX4_requireRoomForSales_24 : decode cX4_requireRoomForSales 24 = .ok (.return_, 1) := by decide +kernel
theorem dX4_shareOf_0 : decode cX4_shareOf 0 = .ok (.iload_n 0, 1) := by decide +kernel
theorem dX4_shareOf_1 : decode cX4_shareOf 1 = .ok (.i2f, 1) := by decide +kernel
theorem dX4_shareOf_2 : decode cX4_shareOf 2 = .ok (.ldc 214, 2) := by decide +kernel
theorem dX4_shareOf_4 : decode cX4_shareOf 4 = .ok (.fdiv, 1) := by decide +kernel
theorem dX4_shareOf_5 : decode cX4_shareOf 5 = .ok (.freturn, 1) := by decide +kernel
theorem dX4_feeOn_0 : decode cX4_feeOn 0 = .ok (.iload_n 0, 1) := by decide +kernel
theorem dX4_feeOn_1 : decode cX4_feeOn 1 = .ok (.i2f, 1) := by decide +kernel
theorem dX4_feeOn_2 : decode cX4_feeOn 2 = .ok (.fload_n 1, 1) := by decide +kernel
theorem dX4_feeOn_3 : decode cX4_feeOn 3 = .ok (.fmul, 1) := by decide +kernel
theorem dX4_feeOn_4 : decode cX4_feeOn 4 = .ok (.f2i, 1) := by decide +kernel
theorem dX4_feeOn_5 : decode cX4_feeOn 5 = .ok (.ireturn, 1) := by decide +kernel
theorem dX4_partOf_0 : decode cX4_partOf 0 = .ok (.iload_n 0, 1) := by decide +kernel
theorem dX4_partOf_1 : decode cX4_partOf 1 = .ok (.iload_n 1, 1) := by decide +kernel
theorem dX4_partOf_2 : decode cX4_partOf 2 = .ok (.imul, 1) := by decide +kernel
theorem dX4_partOf_3 : decode cX4_partOf 3 = .ok (.sipush 1000, 3) := by decide +kernel
theorem dX4_partOf_6 : decode cX4_partOf 6 = .ok (.idiv, 1) := by decide +kernel
theorem dX4_partOf_7 : decode cX4_partOf 7 = .ok (.ireturn, 1) := by decide +kernel
theorem dX4_bitsOf_0 : decode cX4_bitsOf 0 = .ok (.fload_n 0, 1) := by decide +kernel
theorem dX4_bitsOf_1 : decode cX4_bitsOf 1 = .ok (.fconst 0, 1) := by decide +kernel
theorem dX4_bitsOf_2 : decode cX4_bitsOf 2 = .ok (.fcmp .g, 1) := by decide +kernel
theorem dX4_bitsOf_3 : decode cX4_bitsOf 3 = .ok (.ifCond .gt 5, 3) := by decide +kernel
theorem dX4_bitsOf_6 : decode cX4_bitsOf 6 = .ok (.iconst 0, 1) := by decide +kernel
theorem dX4_bitsOf_7 : decode cX4_bitsOf 7 = .ok (.ireturn, 1) := by decide +kernel
theorem dX4_bitsOf_8 : decode cX4_bitsOf 8 = .ok (.fload_n 0, 1) := by decide +kernel
theorem dX4_bitsOf_9 : decode cX4_bitsOf 9 = .ok (.fstore_n 1, 1) := by decide +kernel
theorem dX4_bitsOf_10 : decode cX4_bitsOf 10 = .ok (.bipush 127, 2) := by decide +kernel
theorem dX4_bitsOf_12 : decode cX4_bitsOf 12 = .ok (.istore_n 2, 1) := by decide +kernel
theorem dX4_bitsOf_13 : decode cX4_bitsOf 13 = .ok (.fload_n 1, 1) := by decide +kernel
theorem dX4_bitsOf_14 : decode cX4_bitsOf 14 = .ok (.fconst 1, 1) := by decide +kernel
theorem dX4_bitsOf_15 : decode cX4_bitsOf 15 = .ok (.fcmp .g, 1) := by decide +kernel
theorem dX4_bitsOf_16 : decode cX4_bitsOf 16 = .ok (.ifCond .ge 18, 3) := by decide +kernel
theorem dX4_bitsOf_19 : decode cX4_bitsOf 19 = .ok (.iload_n 2, 1) := by decide +kernel
theorem dX4_bitsOf_20 : decode cX4_bitsOf 20 = .ok (.iconst 1, 1) := by decide +kernel
theorem dX4_bitsOf_21 : decode cX4_bitsOf 21 = .ok (.if_icmp .le 13, 3) := by decide +kernel
theorem dX4_bitsOf_24 : decode cX4_bitsOf 24 = .ok (.fload_n 1, 1) := by decide +kernel
theorem dX4_bitsOf_25 : decode cX4_bitsOf 25 = .ok (.fconst 2, 1) := by decide +kernel
theorem dX4_bitsOf_26 : decode cX4_bitsOf 26 = .ok (.fmul, 1) := by decide +kernel
theorem dX4_bitsOf_27 : decode cX4_bitsOf 27 = .ok (.fstore_n 1, 1) := by decide +kernel
theorem dX4_bitsOf_28 : decode cX4_bitsOf 28 = .ok (.iinc 2 (-1), 3) := by decide +kernel
theorem dX4_bitsOf_31 : decode cX4_bitsOf 31 = .ok (.goto (-18), 3) := by decide +kernel
theorem dX4_bitsOf_34 : decode cX4_bitsOf 34 = .ok (.fload_n 1, 1) := by decide +kernel
theorem dX4_bitsOf_35 : decode cX4_bitsOf 35 = .ok (.fconst 1, 1) := by decide +kernel
theorem dX4_bitsOf_36 : decode cX4_bitsOf 36 = .ok (.fsub, 1) := by decide +kernel
theorem dX4_bitsOf_37 : decode cX4_bitsOf 37 = .ok (.ldc 215, 2) := by decide +kernel
theorem dX4_bitsOf_39 : decode cX4_bitsOf 39 = .ok (.fmul, 1) := by decide +kernel
theorem dX4_bitsOf_40 : decode cX4_bitsOf 40 = .ok (.f2i, 1) := by decide +kernel
theorem dX4_bitsOf_41 : decode cX4_bitsOf 41 = .ok (.istore_n 3, 1) := by decide +kernel
theorem dX4_bitsOf_42 : decode cX4_bitsOf 42 = .ok (.iload_n 2, 1) := by decide +kernel
theorem dX4_bitsOf_43 : decode cX4_bitsOf 43 = .ok (.bipush 23, 2) := by decide +kernel
theorem dX4_bitsOf_45 : decode cX4_bitsOf 45 = .ok (.ishl, 1) := by decide +kernel
theorem dX4_bitsOf_46 : decode cX4_bitsOf 46 = .ok (.iload_n 3, 1) := by decide +kernel
theorem dX4_bitsOf_47 : decode cX4_bitsOf 47 = .ok (.iadd, 1) := by decide +kernel
theorem dX4_bitsOf_48 : decode cX4_bitsOf 48 = .ok (.ireturn, 1) := by decide +kernel
set_option maxRecDepth 20000 in
theorem ggX4_settleParts_X4_settle : GoodIn wsX4_settleParts wsX4_settle := goodIn_r _ [7, 8, 9, 10, 11, 12, 13, 1, 14, 15, 16, 17, 18, 19, 20, 21, 22, 23, 24, 25, 26, 27, 6, 28, 29, 30, 31, 32, 33, 34, 35, 36, 37, 38, 39, 40, 41, 42, 43, 44, 45, 46, 47, 48, 49, 50, 51, 52, 53, 54, 55, 56, 57, 58, 59, 60, 61, 62, 63, 64, 65, 66, 67, 68, 69, 70, 71, 72, 73, 74, 75, 76, 77, 78, 79, 80, 81, 82, 83, 84, 85, 86, 87, 88, 89, 90] (by decide +kernel) (by decide +kernel)
set_option maxRecDepth 20000 in
theorem gX4_settleParts_X4_settle : GoodIn wsX4_settleParts (wsV RX4 103 RX4 yX4_settle wsX4_settle) := goodIn_app (goodIn_of _ (by decide +kernel)) ggX4_settleParts_X4_settle
theorem dX4_settleParts_0 : decode cX4_settleParts 0 = .ok (.iload 4, 2) := by decide +kernel
theorem dX4_settleParts_2 : decode cX4_settleParts 2 = .ok (.istore 5, 2) := by decide +kernel
theorem dX4_settleParts_4 : decode cX4_settleParts 4 = .ok (.iconst 0, 1) := by decide +kernel
theorem dX4_settleParts_5 : decode cX4_settleParts 5 = .ok (.istore 6, 2) := by decide +kernel
theorem dX4_settleParts_7 : decode cX4_settleParts 7 = .ok (.iload 6, 2) := by decide +kernel
theorem dX4_settleParts_9 : decode cX4_settleParts 9 = .ok (.aload_n 0, 1) := by decide +kernel
theorem dX4_settleParts_10 : decode cX4_settleParts 10 = .ok (.getfield 10, 3) := by decide +kernel
theorem dX4_settleParts_13 : decode cX4_settleParts 13 = .ok (.getfield 52, 3) := by decide +kernel
theorem dX4_settleParts_16 : decode cX4_settleParts 16 = .ok (.if_icmp .ge 50, 3) := by decide +kernel
theorem dX4_settleParts_19 : decode cX4_settleParts 19 = .ok (.iload_n 1, 1) := by decide +kernel
theorem dX4_settleParts_20 : decode cX4_settleParts 20 = .ok (.iload 6, 2) := by decide +kernel
theorem dX4_settleParts_22 : decode cX4_settleParts 22 = .ok (.ishr, 1) := by decide +kernel
theorem dX4_settleParts_23 : decode cX4_settleParts 23 = .ok (.iconst 1, 1) := by decide +kernel
theorem dX4_settleParts_24 : decode cX4_settleParts 24 = .ok (.iand, 1) := by decide +kernel
theorem dX4_settleParts_25 : decode cX4_settleParts 25 = .ok (.ifCond .eq 35, 3) := by decide +kernel
theorem dX4_settleParts_28 : decode cX4_settleParts 28 = .ok (.iload 5, 2) := by decide +kernel
theorem dX4_settleParts_30 : decode cX4_settleParts 30 = .ok (.ifCond .le 9, 3) := by decide +kernel
theorem dX4_settleParts_33 : decode cX4_settleParts 33 = .ok (.iload_n 3, 1) := by decide +kernel
theorem dX4_settleParts_34 : decode cX4_settleParts 34 = .ok (.iconst 1, 1) := by decide +kernel
theorem dX4_settleParts_35 : decode cX4_settleParts 35 = .ok (.iadd, 1) := by decide +kernel
theorem dX4_settleParts_36 : decode cX4_settleParts 36 = .ok (.goto 4, 3) := by decide +kernel
theorem dX4_settleParts_39 : decode cX4_settleParts 39 = .ok (.iload_n 3, 1) := by decide +kernel
theorem dX4_settleParts_40 : decode cX4_settleParts 40 = .ok (.istore 7, 2) := by decide +kernel
theorem dX4_settleParts_42 : decode cX4_settleParts 42 = .ok (.iinc 5 (-1), 3) := by decide +kernel
theorem dX4_settleParts_45 : decode cX4_settleParts 45 = .ok (.iload 7, 2) := by decide +kernel
theorem dX4_settleParts_47 : decode cX4_settleParts 47 = .ok (.ifCond .le 13, 3) := by decide +kernel
theorem dX4_settleParts_50 : decode cX4_settleParts 50 = .ok (.aload_n 0, 1) := by decide +kernel
theorem dX4_settleParts_51 : decode cX4_settleParts 51 = .ok (.iload 6, 2) := by decide +kernel
theorem dX4_settleParts_53 : decode cX4_settleParts 53 = .ok (.iload_n 2, 1) := by decide +kernel
theorem dX4_settleParts_54 : decode cX4_settleParts 54 = .ok (.iload 7, 2) := by decide +kernel
theorem dX4_settleParts_56 : decode cX4_settleParts 56 = .ok (.invokevirtual 103, 3) := by decide +kernel
theorem dX4_settleParts_59 : decode cX4_settleParts 59 = .ok (.pop, 1) := by decide +kernel
theorem dX4_settleParts_60 : decode cX4_settleParts 60 = .ok (.iinc 6 1, 3) := by decide +kernel
theorem dX4_settleParts_63 : decode cX4_settleParts 63 = .ok (.goto (-56), 3) := by decide +kernel
theorem dX4_settleParts_66 : decode cX4_settleParts 66 = .ok (.return_, 1) := by decide +kernel
set_option maxRecDepth 20000 in
theorem ggX4_settle_X4_partOf : GoodIn wsX4_settle wsX4_partOf := goodIn_r _ [23] (by decide +kernel) (by decide +kernel)
set_option maxRecDepth 20000 in
theorem gX4_settle_X4_partOf : GoodIn wsX4_settle (va_wsS RX4 142 yX4_partOf wsX4_partOf) := goodIn_app (goodIn_of _ (by decide +kernel)) ggX4_settle_X4_partOf
set_option maxRecDepth 20000 in
theorem ggX4_settle_X4_feeOn : GoodIn wsX4_settle wsX4_feeOn := goodIn_r _ [26] (by decide +kernel) (by decide +kernel)
set_option maxRecDepth 20000 in
theorem gX4_settle_X4_feeOn : GoodIn wsX4_settle (va_wsS RX4 148 yX4_feeOn wsX4_feeOn) := goodIn_app (goodIn_of _ (by decide +kernel)) ggX4_settle_X4_feeOn
set_option maxRecDepth 20000 in
theorem ggX4_settle_X2_enter : GoodIn wsX4_settle wsX2_enter := goodIn_r _ [31, 32, 33, 34, 74, 75, 76, 77, 78, 79, 80, 81] (by decide +kernel) (by decide +kernel)
set_option maxRecDepth 20000 in
theorem gX4_settle_X2_enter : GoodIn wsX4_settle (wsV RX4 216 RX2 yX2_enter wsX2_enter) := goodIn_app (goodIn_of _ (by decide +kernel)) ggX4_settle_X2_enter
set_option maxRecDepth 20000 in
theorem ggX4_settle_X4_post : GoodIn wsX4_settle wsX4_post := goodIn_r _ [38, 7, 39, 40, 41, 42, 43, 44, 45, 46, 47, 48, 49, 50, 51, 52, 53, 54, 55, 56, 57, 58, 59, 60, 61, 62, 63, 64, 65, 66, 67, 68, 69, 70, 71, 72, 73, 82, 83, 84, 85] (by decide +kernel) (by decide +kernel)
set_option maxRecDepth 20000 in
theorem gX4_settle_X4_post : GoodIn wsX4_settle (wsV RX4 164 RX4 yX4_post wsX4_post) := goodIn_app (goodIn_of _ (by decide +kernel)) ggX4_settle_X4_post
theorem dX4_settle_0 : decode cX4_settle 0 = .ok (.aload_n 0, 1) := by decide +kernel
theorem dX4_settle_1 : decode cX4_settle 1 = .ok (.getfield 37, 3) := by decide +kernel
theorem dX4_settle_4 : decode cX4_settle 4 = .ok (.iload_n 2, 1) := by decide +kernel
theorem dX4_settle_5 : decode cX4_settle 5 = .ok (.faload, 1) := by decide +kernel
theorem dX4_settle_6 : decode cX4_settle 6 = .ok (.fstore 4, 2) := by decide +kernel
theorem dX4_settle_8 : decode cX4_settle 8 = .ok (.iload_n 3, 1) := by decide +kernel
theorem dX4_settle_9 : decode cX4_settle 9 = .ok (.aload_n 0, 1) := by decide +kernel
theorem dX4_settle_10 : decode cX4_settle 10 = .ok (.getfield 97, 3) := by decide +kernel
theorem dX4_settle_13 : decode cX4_settle 13 = .ok (.invokestatic 142, 3) := by decide +kernel
theorem dX4_settle_16 : decode cX4_settle 16 = .ok (.istore 5, 2) := by decide +kernel
theorem dX4_settle_18 : decode cX4_settle 18 = .ok (.iload_n 3, 1) := by decide +kernel
theorem dX4_settle_19 : decode cX4_settle 19 = .ok (.fload 4, 2) := by decide +kernel
theorem dX4_settle_21 : decode cX4_settle 21 = .ok (.invokestatic 148, 3) := by decide +kernel
theorem dX4_settle_24 : decode cX4_settle 24 = .ok (.iload_n 3, 1) := by decide +kernel
theorem dX4_settle_25 : decode cX4_settle 25 = .ok (.iload 5, 2) := by decide +kernel
theorem dX4_settle_27 : decode cX4_settle 27 = .ok (.isub, 1) := by decide +kernel
theorem dX4_settle_28 : decode cX4_settle 28 = .ok (.invokestatic 119, 3) := by decide +kernel
theorem dX4_settle_31 : decode cX4_settle 31 = .ok (.istore 6, 2) := by decide +kernel
theorem dX4_settle_33 : decode cX4_settle 33 = .ok (.iload_n 3, 1) := by decide +kernel
theorem dX4_settle_34 : decode cX4_settle 34 = .ok (.iload 5, 2) := by decide +kernel
theorem dX4_settle_36 : decode cX4_settle 36 = .ok (.isub, 1) := by decide +kernel
theorem dX4_settle_37 : decode cX4_settle 37 = .ok (.iload 6, 2) := by decide +kernel
theorem dX4_settle_39 : decode cX4_settle 39 = .ok (.isub, 1) := by decide +kernel
theorem dX4_settle_40 : decode cX4_settle 40 = .ok (.istore 7, 2) := by decide +kernel
theorem dX4_settle_42 : decode cX4_settle 42 = .ok (.iload 7, 2) := by decide +kernel
theorem dX4_settle_44 : decode cX4_settle 44 = .ok (.aload_n 0, 1) := by decide +kernel
theorem dX4_settle_45 : decode cX4_settle 45 = .ok (.getfield 10, 3) := by decide +kernel
theorem dX4_settle_48 : decode cX4_settle 48 = .ok (.getfield 84, 3) := by decide +kernel
theorem dX4_settle_51 : decode cX4_settle 51 = .ok (.iload_n 1, 1) := by decide +kernel
theorem dX4_settle_52 : decode cX4_settle 52 = .ok (.iaload, 1) := by decide +kernel
theorem dX4_settle_53 : decode cX4_settle 53 = .ok (.invokestatic 142, 3) := by decide +kernel
theorem dX4_settle_56 : decode cX4_settle 56 = .ok (.istore 8, 2) := by decide +kernel
theorem dX4_settle_58 : decode cX4_settle 58 = .ok (.aload_n 0, 1) := by decide +kernel
theorem dX4_settle_59 : decode cX4_settle 59 = .ok (.getfield 19, 3) := by decide +kernel
theorem dX4_settle_62 : decode cX4_settle 62 = .ok (.iload_n 1, 1) := by decide +kernel
theorem dX4_settle_63 : decode cX4_settle 63 = .ok (.iload_n 3, 1) := by decide +kernel
theorem dX4_settle_64 : decode cX4_settle 64 = .ok (.invokevirtual 216, 3) := by decide +kernel
theorem dX4_settle_67 : decode cX4_settle 67 = .ok (.istore 9, 2) := by decide +kernel
theorem dX4_settle_69 : decode cX4_settle 69 = .ok (.aload_n 0, 1) := by decide +kernel
theorem dX4_settle_70 : decode cX4_settle 70 = .ok (.getfield 19, 3) := by decide +kernel
theorem dX4_settle_73 : decode cX4_settle 73 = .ok (.getfield 145, 3) := by decide +kernel
theorem dX4_settle_76 : decode cX4_settle 76 = .ok (.iload 9, 2) := by decide +kernel
theorem dX4_settle_78 : decode cX4_settle 78 = .ok (.fload 4, 2) := by decide +kernel
theorem dX4_settle_80 : decode cX4_settle 80 = .ok (.fastore, 1) := by decide +kernel
theorem dX4_settle_81 : decode cX4_settle 81 = .ok (.aload_n 0, 1) := by decide +kernel
theorem dX4_settle_82 : decode cX4_settle 82 = .ok (.getfield 19, 3) := by decide +kernel
theorem dX4_settle_85 : decode cX4_settle 85 = .ok (.getfield 140, 3) := by decide +kernel
theorem dX4_settle_88 : decode cX4_settle 88 = .ok (.iload 9, 2) := by decide +kernel
theorem dX4_settle_90 : decode cX4_settle 90 = .ok (.aload_n 0, 1) := by decide +kernel
theorem dX4_settle_91 : decode cX4_settle 91 = .ok (.getfield 97, 3) := by decide +kernel
theorem dX4_settle_94 : decode cX4_settle 94 = .ok (.iastore, 1) := by decide +kernel
theorem dX4_settle_95 : decode cX4_settle 95 = .ok (.aload_n 0, 1) := by decide +kernel
theorem dX4_settle_96 : decode cX4_settle 96 = .ok (.getfield 19, 3) := by decide +kernel
theorem dX4_settle_99 : decode cX4_settle 99 = .ok (.getfield 152, 3) := by decide +kernel
theorem dX4_settle_102 : decode cX4_settle 102 = .ok (.iload 9, 2) := by decide +kernel
theorem dX4_settle_104 : decode cX4_settle 104 = .ok (.iload 6, 2) := by decide +kernel
theorem dX4_settle_106 : decode cX4_settle 106 = .ok (.iastore, 1) := by decide +kernel
theorem dX4_settle_107 : decode cX4_settle 107 = .ok (.aload_n 0, 1) := by decide +kernel
theorem dX4_settle_108 : decode cX4_settle 108 = .ok (.getfield 19, 3) := by decide +kernel
theorem dX4_settle_111 : decode cX4_settle 111 = .ok (.getfield 218, 3) := by decide +kernel
theorem dX4_settle_114 : decode cX4_settle 114 = .ok (.iload 9, 2) := by decide +kernel
theorem dX4_settle_116 : decode cX4_settle 116 = .ok (.iload 8, 2) := by decide +kernel
theorem dX4_settle_118 : decode cX4_settle 118 = .ok (.iastore, 1) := by decide +kernel
theorem dX4_settle_119 : decode cX4_settle 119 = .ok (.aload_n 0, 1) := by decide +kernel
theorem dX4_settle_120 : decode cX4_settle 120 = .ok (.getfield 19, 3) := by decide +kernel
theorem dX4_settle_123 : decode cX4_settle 123 = .ok (.getfield 221, 3) := by decide +kernel
theorem dX4_settle_126 : decode cX4_settle 126 = .ok (.iload 9, 2) := by decide +kernel
theorem dX4_settle_128 : decode cX4_settle 128 = .ok (.aload_n 0, 1) := by decide +kernel
theorem dX4_settle_129 : decode cX4_settle 129 = .ok (.getfield 171, 3) := by decide +kernel
theorem dX4_settle_132 : decode cX4_settle 132 = .ok (.aload_n 0, 1) := by decide +kernel
theorem dX4_settle_133 : decode cX4_settle 133 = .ok (.getfield 10, 3) := by decide +kernel
theorem dX4_settle_136 : decode cX4_settle 136 = .ok (.getfield 87, 3) := by decide +kernel
theorem dX4_settle_139 : decode cX4_settle 139 = .ok (.iload_n 1, 1) := by decide +kernel
theorem dX4_settle_140 : decode cX4_settle 140 = .ok (.iaload, 1) := by decide +kernel
theorem dX4_settle_141 : decode cX4_settle 141 = .ok (.iadd, 1) := by decide +kernel
theorem dX4_settle_142 : decode cX4_settle 142 = .ok (.iastore, 1) := by decide +kernel
theorem dX4_settle_143 : decode cX4_settle 143 = .ok (.aload_n 0, 1) := by decide +kernel
theorem dX4_settle_144 : decode cX4_settle 144 = .ok (.dup, 1) := by decide +kernel
theorem dX4_settle_145 : decode cX4_settle 145 = .ok (.getfield 201, 3) := by decide +kernel
theorem dX4_settle_148 : decode cX4_settle 148 = .ok (.iload_n 3, 1) := by decide +kernel
theorem dX4_settle_149 : decode cX4_settle 149 = .ok (.iadd, 1) := by decide +kernel
theorem dX4_settle_150 : decode cX4_settle 150 = .ok (.putfield 201, 3) := by decide +kernel
theorem dX4_settle_153 : decode cX4_settle 153 = .ok (.aload_n 0, 1) := by decide +kernel
theorem dX4_settle_154 : decode cX4_settle 154 = .ok (.dup, 1) := by decide +kernel
theorem dX4_settle_155 : decode cX4_settle 155 = .ok (.getfield 158, 3) := by decide +kernel
theorem dX4_settle_158 : decode cX4_settle 158 = .ok (.iload 5, 2) := by decide +kernel
theorem dX4_settle_160 : decode cX4_settle 160 = .ok (.iadd, 1) := by decide +kernel
theorem dX4_settle_161 : decode cX4_settle 161 = .ok (.putfield 158, 3) := by decide +kernel
theorem dX4_settle_164 : decode cX4_settle 164 = .ok (.aload_n 0, 1) := by decide +kernel
theorem dX4_settle_165 : decode cX4_settle 165 = .ok (.dup, 1) := by decide +kernel
theorem dX4_settle_166 : decode cX4_settle 166 = .ok (.getfield 161, 3) := by decide +kernel
theorem dX4_settle_169 : decode cX4_settle 169 = .ok (.iload 6, 2) := by decide +kernel
theorem dX4_settle_171 : decode cX4_settle 171 = .ok (.iadd, 1) := by decide +kernel
theorem dX4_settle_172 : decode cX4_settle 172 = .ok (.putfield 161, 3) := by decide +kernel
theorem dX4_settle_175 : decode cX4_settle 175 = .ok (.aload_n 0, 1) := by decide +kernel
theorem dX4_settle_176 : decode cX4_settle 176 = .ok (.iload_n 1, 1) := by decide +kernel
theorem dX4_settle_177 : decode cX4_settle 177 = .ok (.iload 7, 2) := by decide +kernel
theorem dX4_settle_179 : decode cX4_settle 179 = .ok (.iload 8, 2) := by decide +kernel
theorem dX4_settle_181 : decode cX4_settle 181 = .ok (.isub, 1) := by decide +kernel
theorem dX4_settle_182 : decode cX4_settle 182 = .ok (.invokevirtual 164, 3) := by decide +kernel
theorem dX4_settle_185 : decode cX4_settle 185 = .ok (.iload 9, 2) := by decide +kernel
theorem dX4_settle_187 : decode cX4_settle 187 = .ok (.ireturn, 1) := by decide +kernel
set_option maxRecDepth 20000 in
theorem ggX4_post_X0_enter : GoodIn wsX4_post wsX0_enter := goodIn_r _ [8, 9, 10, 11, 12, 13, 14, 7, 15, 16, 37, 38, 39, 40] (by decide +kernel) (by decide +kernel)
set_option maxRecDepth 20000 in
theorem gX4_post_X0_enter : GoodIn wsX4_post (wsV RX4 224 RX0 yX0_enter wsX0_enter) := goodIn_app (goodIn_of _ (by decide +kernel)) ggX4_post_X0_enter
theorem dX4_post_0 : decode cX4_post 0 = .ok (.aload_n 0, 1) := by decide +kernel
theorem dX4_post_1 : decode cX4_post 1 = .ok (.getfield 10, 3) := by decide +kernel
theorem dX4_post_4 : decode cX4_post 4 = .ok (.getfield 168, 3) := by decide +kernel
theorem dX4_post_7 : decode cX4_post 7 = .ok (.iload_n 1, 1) := by decide +kernel
theorem dX4_post_8 : decode cX4_post 8 = .ok (.dup2, 1) := by decide +kernel
theorem dX4_post_9 : decode cX4_post 9 = .ok (.iaload, 1) := by decide +kernel
theorem dX4_post_10 : decode cX4_post 10 = .ok (.iload_n 2, 1) := by decide +kernel
theorem dX4_post_11 : decode cX4_post 11 = .ok (.iadd, 1) := by decide +kernel
theorem dX4_post_12 : decode cX4_post 12 = .ok (.iastore, 1) := by decide +kernel
theorem dX4_post_13 : decode cX4_post 13 = .ok (.aload_n 0, 1) := by decide +kernel
theorem dX4_post_14 : decode cX4_post 14 = .ok (.getfield 33, 3) := by decide +kernel
theorem dX4_post_17 : decode cX4_post 17 = .ok (.iload_n 1, 1) := by decide +kernel
theorem dX4_post_18 : decode cX4_post 18 = .ok (.iload_n 2, 1) := by decide +kernel
theorem dX4_post_19 : decode cX4_post 19 = .ok (.invokevirtual 224, 3) := by decide +kernel
theorem dX4_post_22 : decode cX4_post 22 = .ok (.return_, 1) := by decide +kernel
set_option maxRecDepth 20000 in
theorem ggX4_endDay_X4_releaseReserves : GoodIn wsX4_endDay wsX4_releaseReserves := goodIn_r _ [9, 10, 11, 12, 4, 13, 14, 15, 16, 8, 17, 18, 19, 20, 21, 22, 1, 23, 24, 25, 26, 27, 28, 29, 30, 31, 32, 33, 34, 35, 36, 37, 93, 94, 95, 96, 97, 98, 99, 100, 101, 102, 103, 113, 114, 115, 116, 117, 118, 119, 120, 104, 105, 106, 107, 108, 109, 110, 111, 112, 121, 122, 123, 124] (by decide +kernel) (by decide +kernel)
set_option maxRecDepth 20000 in
theorem gX4_endDay_X4_releaseReserves : GoodIn wsX4_endDay (wsV RX4 226 RX4 yX4_releaseReserves wsX4_releaseReserves) := goodIn_app (goodIn_of _ (by decide +kernel)) ggX4_endDay_X4_releaseReserves
set_option maxRecDepth 20000 in
theorem ggX4_endDay_X4_coverFromReserves : GoodIn wsX4_endDay wsX4_coverFromReserves := goodIn_r _ [41, 10, 11, 1, 23, 18, 13, 42, 43, 44, 45, 14, 15, 16, 8, 17, 19, 20, 21, 22, 24, 25, 26, 27, 28, 29, 30, 31, 32, 33, 34, 35, 36, 37, 93, 94, 95, 96, 97, 98, 99, 100, 101, 102, 103, 113, 114, 115, 116, 117, 118, 119, 120, 104, 105, 106, 107, 108, 109, 110, 111, 112, 121, 122, 123, 124] (by decide +kernel) (by decide +kernel)
set_option maxRecDepth 20000 in
theorem gX4_endDay_X4_coverFromReserves : GoodIn wsX4_endDay (wsV RX4 229 RX4 yX4_coverFromReserves wsX4_coverFromReserves) := goodIn_app (goodIn_of _ (by decide +kernel)) ggX4_endDay_X4_coverFromReserves
set_option maxRecDepth 20000 in
theorem ggX4_endDay_X4_coverFromOwner : GoodIn wsX4_endDay wsX4_coverFromOwner := goodIn_r _ [49, 1, 2, 23, 50, 42, 43, 44, 45, 19, 20, 21, 8, 22, 24, 25, 26, 27, 28, 29, 30, 31, 32, 33, 34, 35, 36, 37, 93, 94, 95, 96, 97, 98, 99, 100, 101, 102, 103, 104, 105, 106, 107, 108, 109, 110, 111, 112, 121, 122, 123, 124] (by decide +kernel) (by decide +kernel)
set_option maxRecDepth 20000 in
theorem gX4_endDay_X4_coverFromOwner : GoodIn wsX4_endDay (wsV RX4 232 RX4 yX4_coverFromOwner wsX4_coverFromOwner) := goodIn_app (goodIn_of _ (by decide +kernel)) ggX4_endDay_X4_coverFromOwner
set_option maxRecDepth 20000 in
theorem ggX4_endDay_X4_payIfDue : GoodIn wsX4_endDay wsX4_payIfDue := goodIn_r _ [54, 55, 1, 56, 57, 58, 59, 8, 60, 23, 61, 62, 63, 42, 43, 44, 45, 64, 65, 66, 67, 68, 69, 70, 71, 72, 73, 74, 75, 76, 77, 78, 79, 80, 81, 82, 83, 84, 85, 86, 87, 88, 89, 90, 91, 92, 19, 20, 21, 22, 24, 25, 26, 27, 28, 29, 30, 31, 32, 33, 34, 35, 36, 37, 93, 94, 95, 96, 97, 98, 99, 100, 101, 102, 103, 104, 105, 106, 107, 108, 109, 110, 111, 112, 125, 126, 127, 128, 121, 122, 123, 124] (by decide +kernel) (by decide +kernel)
set_option maxRecDepth 20000 in
theorem gX4_endDay_X4_payIfDue : GoodIn wsX4_endDay (wsV RX4 235 RX4 yX4_payIfDue wsX4_payIfDue) := goodIn_app (goodIn_of _ (by decide +kernel)) ggX4_endDay_X4_payIfDue
theorem dX4_endDay_0 : decode cX4_endDay 0 = .ok (.aload_n 0, 1) := by decide +kernel
theorem dX4_endDay_1 : decode cX4_endDay 1 = .ok (.invokevirtual 226, 3) := by decide +kernel
theorem dX4_endDay_4 : decode cX4_endDay 4 = .ok (.iconst 0, 1) := by decide +kernel
theorem dX4_endDay_5 : decode cX4_endDay 5 = .ok (.istore_n 1, 1) := by decide +kernel
theorem dX4_endDay_6 : decode cX4_endDay 6 = .ok (.iload_n 1, 1) := by decide +kernel
theorem dX4_endDay_7 : decode cX4_endDay 7 = .ok (.aload_n 0, 1) := by decide +kernel
theorem dX4_endDay_8 : decode cX4_endDay 8 = .ok (.getfield 10, 3) := by decide +kernel
theorem dX4_endDay_11 : decode cX4_endDay 11 = .ok (.getfield 52, 3) := by decide +kernel
theorem dX4_endDay_14 : decode cX4_endDay 14 = .ok (.if_icmp .ge 14, 3) := by decide +kernel
theorem dX4_endDay_17 : decode cX4_endDay 17 = .ok (.aload_n 0, 1) := by decide +kernel
theorem dX4_endDay_18 : decode cX4_endDay 18 = .ok (.iload_n 1, 1) := by decide +kernel
theorem dX4_endDay_19 : decode cX4_endDay 19 = .ok (.invokevirtual 229, 3) := by decide +kernel
theorem dX4_endDay_22 : decode cX4_endDay 22 = .ok (.iinc 1 1, 3) := by decide +kernel
theorem dX4_endDay_25 : decode cX4_endDay 25 = .ok (.goto (-19), 3) := by decide +kernel
theorem dX4_endDay_28 : decode cX4_endDay 28 = .ok (.iconst 0, 1) := by decide +kernel
theorem dX4_endDay_29 : decode cX4_endDay 29 = .ok (.istore_n 1, 1) := by decide +kernel
theorem dX4_endDay_30 : decode cX4_endDay 30 = .ok (.iload_n 1, 1) := by decide +kernel
theorem dX4_endDay_31 : decode cX4_endDay 31 = .ok (.aload_n 0, 1) := by decide +kernel
theorem dX4_endDay_32 : decode cX4_endDay 32 = .ok (.getfield 10, 3) := by decide +kernel
theorem dX4_endDay_35 : decode cX4_endDay 35 = .ok (.getfield 52, 3) := by decide +kernel
theorem dX4_endDay_38 : decode cX4_endDay 38 = .ok (.if_icmp .ge 14, 3) := by decide +kernel
theorem dX4_endDay_41 : decode cX4_endDay 41 = .ok (.aload_n 0, 1) := by decide +kernel
theorem dX4_endDay_42 : decode cX4_endDay 42 = .ok (.iload_n 1, 1) := by decide +kernel
theorem dX4_endDay_43 : decode cX4_endDay 43 = .ok (.invokevirtual 232, 3) := by decide +kernel
theorem dX4_endDay_46 : decode cX4_endDay 46 = .ok (.iinc 1 1, 3) := by decide +kernel
theorem dX4_endDay_49 : decode cX4_endDay 49 = .ok (.goto (-19), 3) := by decide +kernel
theorem dX4_endDay_52 : decode cX4_endDay 52 = .ok (.iconst 0, 1) := by decide +kernel
theorem dX4_endDay_53 : decode cX4_endDay 53 = .ok (.istore_n 1, 1) := by decide +kernel
theorem dX4_endDay_54 : decode cX4_endDay 54 = .ok (.iload_n 1, 1) := by decide +kernel
theorem dX4_endDay_55 : decode cX4_endDay 55 = .ok (.aload_n 0, 1) := by decide +kernel
theorem dX4_endDay_56 : decode cX4_endDay 56 = .ok (.getfield 10, 3) := by decide +kernel
theorem dX4_endDay_59 : decode cX4_endDay 59 = .ok (.getfield 52, 3) := by decide +kernel
theorem dX4_endDay_62 : decode cX4_endDay 62 = .ok (.if_icmp .ge 33, 3) := by decide +kernel
theorem dX4_endDay_65 : decode cX4_endDay 65 = .ok (.aload_n 0, 1) := by decide +kernel
theorem dX4_endDay_66 : decode cX4_endDay 66 = .ok (.getfield 10, 3) := by decide +kernel
theorem dX4_endDay_69 : decode cX4_endDay 69 = .ok (.getfield 78, 3) := by decide +kernel
theorem dX4_endDay_72 : decode cX4_endDay 72 = .ok (.iload_n 1, 1) := by decide +kernel
theorem dX4_endDay_73 : decode cX4_endDay 73 = .ok (.iaload, 1) := by decide +kernel
theorem dX4_endDay_74 : decode cX4_endDay 74 = .ok (.aload_n 0, 1) := by decide +kernel
theorem dX4_endDay_75 : decode cX4_endDay 75 = .ok (.getfield 171, 3) := by decide +kernel
theorem dX4_endDay_78 : decode cX4_endDay 78 = .ok (.bipush 7, 2) := by decide +kernel
theorem dX4_endDay_80 : decode cX4_endDay 80 = .ok (.irem, 1) := by decide +kernel
theorem dX4_endDay_81 : decode cX4_endDay 81 = .ok (.if_icmp .ne 8, 3) := by decide +kernel
theorem dX4_endDay_84 : decode cX4_endDay 84 = .ok (.aload_n 0, 1) := by decide +kernel
theorem dX4_endDay_85 : decode cX4_endDay 85 = .ok (.iload_n 1, 1) := by decide +kernel
theorem dX4_endDay_86 : decode cX4_endDay 86 = .ok (.invokevirtual 235, 3) := by decide +kernel
theorem dX4_endDay_89 : decode cX4_endDay 89 = .ok (.iinc 1 1, 3) := by decide +kernel
theorem dX4_endDay_92 : decode cX4_endDay 92 = .ok (.goto (-38), 3) := by decide +kernel
theorem dX4_endDay_95 : decode cX4_endDay 95 = .ok (.aload_n 0, 1) := by decide +kernel
theorem dX4_endDay_96 : decode cX4_endDay 96 = .ok (.dup, 1) := by decide +kernel
theorem dX4_endDay_97 : decode cX4_endDay 97 = .ok (.getfield 171, 3) := by decide +kernel
theorem dX4_endDay_100 : decode cX4_endDay 100 = .ok (.iconst 1, 1) := by decide +kernel
theorem dX4_endDay_101 : decode cX4_endDay 101 = .ok (.iadd, 1) := by decide +kernel
theorem dX4_endDay_102 : decode cX4_endDay 102 = .ok (.putfield 171, 3) := by decide +kernel
theorem dX4_endDay_105 : decode cX4_endDay 105 = .ok (.return_, 1) := by decide +kernel
set_option maxRecDepth 20000 in
theorem ggX4_releaseReserves_X4_release : GoodIn wsX4_releaseReserves wsX4_release := goodIn_r _ [10, 1, 5, 11, 12, 13, 14, 9, 15, 16, 17, 18, 19, 20, 21, 22, 23, 24, 25, 26, 27, 28, 29, 30, 31, 32, 33, 34, 35, 36, 37, 38, 39, 40, 41, 42, 43, 44, 45, 46, 47, 48, 49, 50, 51, 52, 53, 54, 55, 56, 57, 58, 59, 60, 61, 62, 63] (by decide +kernel) (by decide +kernel)
set_option maxRecDepth 20000 in
theorem gX4_releaseReserves_X4_release : GoodIn wsX4_releaseReserves (wsV RX4 238 RX4 yX4_release wsX4_release) := goodIn_app (goodIn_of _ (by decide +kernel)) ggX4_releaseReserves_X4_release
theorem dX4_releaseReserves_0 : decode cX4_releaseReserves 0 = .ok (.iconst 0, 1) := by decide +kernel
theorem dX4_releaseReserves_1 : decode cX4_releaseReserves 1 = .ok (.istore_n 1, 1) := by decide +kernel
theorem dX4_releaseReserves_2 : decode cX4_releaseReserves 2 = .ok (.iload_n 1, 1) := by decide +kernel
theorem dX4_releaseReserves_3 : decode cX4_releaseReserves 3 = .ok (.aload_n 0, 1) := by decide +kernel
theorem dX4_releaseReserves_4 : decode cX4_releaseReserves 4 = .ok (.getfield 19, 3) := by decide +kernel
theorem dX4_releaseReserves_7 : decode cX4_releaseReserves 7 = .ok (.getfield 129, 3) := by decide +kernel
theorem dX4_releaseReserves_10 : decode cX4_releaseReserves 10 = .ok (.if_icmp .ge 39, 3) := by decide +kernel
theorem dX4_releaseReserves_13 : decode cX4_releaseReserves 13 = .ok (.aload_n 0, 1) := by decide +kernel
theorem dX4_releaseReserves_14 : decode cX4_releaseReserves 14 = .ok (.getfield 19, 3) := by decide +kernel
theorem dX4_releaseReserves_17 : decode cX4_releaseReserves 17 = .ok (.getfield 221, 3) := by decide +kernel
theorem dX4_releaseReserves_20 : decode cX4_releaseReserves 20 = .ok (.iload_n 1, 1) := by decide +kernel
theorem dX4_releaseReserves_21 : decode cX4_releaseReserves 21 = .ok (.iaload, 1) := by decide +kernel
theorem dX4_releaseReserves_22 : decode cX4_releaseReserves 22 = .ok (.aload_n 0, 1) := by decide +kernel
theorem dX4_releaseReserves_23 : decode cX4_releaseReserves 23 = .ok (.getfield 171, 3) := by decide +kernel
theorem dX4_releaseReserves_26 : decode cX4_releaseReserves 26 = .ok (.if_icmp .ne 17, 3) := by decide +kernel
theorem dX4_releaseReserves_29 : decode cX4_releaseReserves 29 = .ok (.aload_n 0, 1) := by decide +kernel
theorem dX4_releaseReserves_30 : decode cX4_releaseReserves 30 = .ok (.iload_n 1, 1) := by decide +kernel
theorem dX4_releaseReserves_31 : decode cX4_releaseReserves 31 = .ok (.aload_n 0, 1) := by decide +kernel
theorem dX4_releaseReserves_32 : decode cX4_releaseReserves 32 = .ok (.getfield 19, 3) := by decide +kernel
theorem dX4_releaseReserves_35 : decode cX4_releaseReserves 35 = .ok (.getfield 218, 3) := by decide +kernel
theorem dX4_releaseReserves_38 : decode cX4_releaseReserves 38 = .ok (.iload_n 1, 1) := by decide +kernel
theorem dX4_releaseReserves_39 : decode cX4_releaseReserves 39 = .ok (.iaload, 1) := by decide +kernel
theorem dX4_releaseReserves_40 : decode cX4_releaseReserves 40 = .ok (.invokevirtual 238, 3) := by decide +kernel
theorem dX4_releaseReserves_43 : decode cX4_releaseReserves 43 = .ok (.iinc 1 1, 3) := by decide +kernel
theorem dX4_releaseReserves_46 : decode cX4_releaseReserves 46 = .ok (.goto (-44), 3) := by decide +kernel
theorem dX4_releaseReserves_49 : decode cX4_releaseReserves 49 = .ok (.return_, 1) := by decide +kernel
set_option maxRecDepth 20000 in
theorem ggX4_coverFromReserves_X4_release : GoodIn wsX4_coverFromReserves wsX4_release := goodIn_r _ [15, 1, 6, 5, 16, 17, 18, 14, 19, 3, 4, 20, 21, 22, 23, 24, 25, 26, 27, 28, 29, 30, 31, 32, 33, 34, 35, 36, 37, 38, 39, 40, 41, 42, 43, 44, 45, 46, 47, 48, 49, 50, 51, 52, 53, 54, 55, 56, 57, 58, 59, 60, 61, 62, 63, 64, 65] (by decide +kernel) (by decide +kernel)
set_option maxRecDepth 20000 in
theorem gX4_coverFromReserves_X4_release : GoodIn wsX4_coverFromReserves (wsV RX4 238 RX4 yX4_release wsX4_release) := goodIn_app (goodIn_of _ (by decide +kernel)) ggX4_coverFromReserves_X4_release
theorem dX4_coverFromReserves_0 : decode cX4_coverFromReserves 0 = .ok (.iconst 0, 1) := by decide +kernel
theorem dX4_coverFromReserves_1 : decode cX4_coverFromReserves 1 = .ok (.istore_n 2, 1) := by decide +kernel
theorem dX4_coverFromReserves_2 : decode cX4_coverFromReserves 2 = .ok (.iload_n 2, 1) := by decide +kernel
theorem dX4_coverFromReserves_3 : decode cX4_coverFromReserves 3 = .ok (.aload_n 0, 1) := by decide +kernel
theorem dX4_coverFromReserves_4 : decode cX4_coverFromReserves 4 = .ok (.getfield 19, 3) := by decide +kernel
theorem dX4_coverFromReserves_7 : decode cX4_coverFromReserves 7 = .ok (.getfield 129, 3) := by decide +kernel
theorem dX4_coverFromReserves_10 : decode cX4_coverFromReserves 10 = .ok (.if_icmp .ge 61, 3) := by decide +kernel
theorem dX4_coverFromReserves_13 : decode cX4_coverFromReserves 13 = .ok (.aload_n 0, 1) := by decide +kernel
theorem dX4_coverFromReserves_14 : decode cX4_coverFromReserves 14 = .ok (.getfield 10, 3) := by decide +kernel
theorem dX4_coverFromReserves_17 : decode cX4_coverFromReserves 17 = .ok (.getfield 168, 3) := by decide +kernel
theorem dX4_coverFromReserves_20 : decode cX4_coverFromReserves 20 = .ok (.iload_n 1, 1) := by decide +kernel
theorem dX4_coverFromReserves_21 : decode cX4_coverFromReserves 21 = .ok (.iaload, 1) := by decide +kernel
theorem dX4_coverFromReserves_22 : decode cX4_coverFromReserves 22 = .ok (.ifCond .ge 49, 3) := by decide +kernel
theorem dX4_coverFromReserves_25 : decode cX4_coverFromReserves 25 = .ok (.aload_n 0, 1) := by decide +kernel
theorem dX4_coverFromReserves_26 : decode cX4_coverFromReserves 26 = .ok (.getfield 19, 3) := by decide +kernel
theorem dX4_coverFromReserves_29 : decode cX4_coverFromReserves 29 = .ok (.getfield 137, 3) := by decide +kernel
theorem dX4_coverFromReserves_32 : decode cX4_coverFromReserves 32 = .ok (.iload_n 2, 1) := by decide +kernel
theorem dX4_coverFromReserves_33 : decode cX4_coverFromReserves 33 = .ok (.iaload, 1) := by decide +kernel
theorem dX4_coverFromReserves_34 : decode cX4_coverFromReserves 34 = .ok (.iload_n 1, 1) := by decide +kernel
theorem dX4_coverFromReserves_35 : decode cX4_coverFromReserves 35 = .ok (.if_icmp .ne 30, 3) := by decide +kernel
theorem dX4_coverFromReserves_38 : decode cX4_coverFromReserves 38 = .ok (.aload_n 0, 1) := by decide +kernel
theorem dX4_coverFromReserves_39 : decode cX4_coverFromReserves 39 = .ok (.iload_n 2, 1) := by decide +kernel
theorem dX4_coverFromReserves_40 : decode cX4_coverFromReserves 40 = .ok (.aload_n 0, 1) := by decide +kernel
theorem dX4_coverFromReserves_41 : decode cX4_coverFromReserves 41 = .ok (.getfield 19, 3) := by decide +kernel
theorem dX4_coverFromReserves_44 : decode cX4_coverFromReserves 44 = .ok (.getfield 218, 3) := by decide +kernel
theorem dX4_coverFromReserves_47 : decode cX4_coverFromReserves 47 = .ok (.iload_n 2, 1) := by decide +kernel
theorem dX4_coverFromReserves_48 : decode cX4_coverFromReserves 48 = .ok (.iaload, 1) := by decide +kernel
theorem dX4_coverFromReserves_49 : decode cX4_coverFromReserves 49 = .ok (.aload_n 0, 1) := by decide +kernel
theorem dX4_coverFromReserves_50 : decode cX4_coverFromReserves 50 = .ok (.getfield 10, 3) := by decide +kernel
theorem dX4_coverFromReserves_53 : decode cX4_coverFromReserves 53 = .ok (.getfield 168, 3) := by decide +kernel
theorem dX4_coverFromReserves_56 : decode cX4_coverFromReserves 56 = .ok (.iload_n 1, 1) := by decide +kernel
theorem dX4_coverFromReserves_57 : decode cX4_coverFromReserves 57 = .ok (.iaload, 1) := by decide +kernel
theorem dX4_coverFromReserves_58 : decode cX4_coverFromReserves 58 = .ok (.ineg, 1) := by decide +kernel
theorem dX4_coverFromReserves_59 : decode cX4_coverFromReserves 59 = .ok (.invokestatic 119, 3) := by decide +kernel
theorem dX4_coverFromReserves_62 : decode cX4_coverFromReserves 62 = .ok (.invokevirtual 238, 3) := by decide +kernel
theorem dX4_coverFromReserves_65 : decode cX4_coverFromReserves 65 = .ok (.iinc 2 1, 3) := by decide +kernel
theorem dX4_coverFromReserves_68 : decode cX4_coverFromReserves 68 = .ok (.goto (-66), 3) := by decide +kernel
theorem dX4_coverFromReserves_71 : decode cX4_coverFromReserves 71 = .ok (.return_, 1) := by decide +kernel
set_option maxRecDepth 20000 in
theorem ggX4_release_X4_post : GoodIn wsX4_release wsX4_post := goodIn_r _ [8, 9, 10, 11, 12, 13, 14, 15, 16, 17, 18, 19, 20, 21, 22, 23, 24, 25, 26, 27, 28, 29, 30, 31, 32, 33, 34, 35, 44, 45, 46, 47, 48, 49, 50, 51, 52, 53, 54, 55, 56] (by decide +kernel) (by decide +kernel)
set_option maxRecDepth 20000 in
theorem gX4_release_X4_post : GoodIn wsX4_release (wsV RX4 164 RX4 yX4_post wsX4_post) := goodIn_app (goodIn_of _ (by decide +kernel)) ggX4_release_X4_post
theorem dX4_release_0 : decode cX4_release 0 = .ok (.aload_n 0, 1) := by decide +kernel
theorem dX4_release_1 : decode cX4_release 1 = .ok (.getfield 19, 3) := by decide +kernel
theorem dX4_release_4 : decode cX4_release 4 = .ok (.getfield 218, 3) := by decide +kernel
theorem dX4_release_7 : decode cX4_release 7 = .ok (.iload_n 1, 1) := by decide +kernel
theorem dX4_release_8 : decode cX4_release 8 = .ok (.dup2, 1) := by decide +kernel
theorem dX4_release_9 : decode cX4_release 9 = .ok (.iaload, 1) := by decide +kernel
theorem dX4_release_10 : decode cX4_release 10 = .ok (.iload_n 2, 1) := by decide +kernel
theorem dX4_release_11 : decode cX4_release 11 = .ok (.isub, 1) := by decide +kernel
theorem dX4_release_12 : decode cX4_release 12 = .ok (.iastore, 1) := by decide +kernel
theorem dX4_release_13 : decode cX4_release 13 = .ok (.aload_n 0, 1) := by decide +kernel
theorem dX4_release_14 : decode cX4_release 14 = .ok (.aload_n 0, 1) := by decide +kernel
theorem dX4_release_15 : decode cX4_release 15 = .ok (.getfield 19, 3) := by decide +kernel
theorem dX4_release_18 : decode cX4_release 18 = .ok (.getfield 137, 3) := by decide +kernel
theorem dX4_release_21 : decode cX4_release 21 = .ok (.iload_n 1, 1) := by decide +kernel
theorem dX4_release_22 : decode cX4_release 22 = .ok (.iaload, 1) := by decide +kernel
theorem dX4_release_23 : decode cX4_release 23 = .ok (.iload_n 2, 1) := by decide +kernel
theorem dX4_release_24 : decode cX4_release 24 = .ok (.invokevirtual 164, 3) := by decide +kernel
theorem dX4_release_27 : decode cX4_release 27 = .ok (.return_, 1) := by decide +kernel
set_option maxRecDepth 20000 in
theorem ggX4_coverFromOwner_X4_post : GoodIn wsX4_coverFromOwner wsX4_post := goodIn_r _ [13, 1, 3, 14, 15, 16, 17, 18, 19, 20, 21, 22, 23, 24, 25, 26, 27, 28, 29, 30, 31, 32, 33, 34, 35, 36, 37, 38, 39, 40, 41, 42, 43, 44, 45, 46, 47, 48, 49, 50, 51] (by decide +kernel) (by decide +kernel)
set_option maxRecDepth 20000 in
theorem gX4_coverFromOwner_X4_post : GoodIn wsX4_coverFromOwner (wsV RX4 164 RX4 yX4_post wsX4_post) := goodIn_app (goodIn_of _ (by decide +kernel)) ggX4_coverFromOwner_X4_post
theorem dX4_coverFromOwner_0 : decode cX4_coverFromOwner 0 = .ok (.iconst 0, 1) := by decide +kernel
theorem dX4_coverFromOwner_1 : decode cX4_coverFromOwner 1 = .ok (.istore_n 2, 1) := by decide +kernel
theorem dX4_coverFromOwner_2 : decode cX4_coverFromOwner 2 = .ok (.iload_n 2, 1) := by decide +kernel
theorem dX4_coverFromOwner_3 : decode cX4_coverFromOwner 3 = .ok (.aload_n 0, 1) := by decide +kernel
theorem dX4_coverFromOwner_4 : decode cX4_coverFromOwner 4 = .ok (.getfield 10, 3) := by decide +kernel
theorem dX4_coverFromOwner_7 : decode cX4_coverFromOwner 7 = .ok (.getfield 52, 3) := by decide +kernel
theorem dX4_coverFromOwner_10 : decode cX4_coverFromOwner 10 = .ok (.if_icmp .ge 90, 3) := by decide +kernel
theorem dX4_coverFromOwner_13 : decode cX4_coverFromOwner 13 = .ok (.aload_n 0, 1) := by decide +kernel
theorem dX4_coverFromOwner_14 : decode cX4_coverFromOwner 14 = .ok (.getfield 10, 3) := by decide +kernel
theorem dX4_coverFromOwner_17 : decode cX4_coverFromOwner 17 = .ok (.getfield 168, 3) := by decide +kernel
theorem dX4_coverFromOwner_20 : decode cX4_coverFromOwner 20 = .ok (.iload_n 1, 1) := by decide +kernel
theorem dX4_coverFromOwner_21 : decode cX4_coverFromOwner 21 = .ok (.iaload, 1) := by decide +kernel
theorem dX4_coverFromOwner_22 : decode cX4_coverFromOwner 22 = .ok (.ifCond .ge 78, 3) := by decide +kernel
theorem dX4_coverFromOwner_25 : decode cX4_coverFromOwner 25 = .ok (.aload_n 0, 1) := by decide +kernel
theorem dX4_coverFromOwner_26 : decode cX4_coverFromOwner 26 = .ok (.getfield 10, 3) := by decide +kernel
theorem dX4_coverFromOwner_29 : decode cX4_coverFromOwner 29 = .ok (.getfield 241, 3) := by decide +kernel
theorem dX4_coverFromOwner_32 : decode cX4_coverFromOwner 32 = .ok (.iload_n 2, 1) := by decide +kernel
theorem dX4_coverFromOwner_33 : decode cX4_coverFromOwner 33 = .ok (.iaload, 1) := by decide +kernel
theorem dX4_coverFromOwner_34 : decode cX4_coverFromOwner 34 = .ok (.aload_n 0, 1) := by decide +kernel
theorem dX4_coverFromOwner_35 : decode cX4_coverFromOwner 35 = .ok (.getfield 10, 3) := by decide +kernel
theorem dX4_coverFromOwner_38 : decode cX4_coverFromOwner 38 = .ok (.getfield 241, 3) := by decide +kernel
theorem dX4_coverFromOwner_41 : decode cX4_coverFromOwner 41 = .ok (.iload_n 1, 1) := by decide +kernel
theorem dX4_coverFromOwner_42 : decode cX4_coverFromOwner 42 = .ok (.iaload, 1) := by decide +kernel
theorem dX4_coverFromOwner_43 : decode cX4_coverFromOwner 43 = .ok (.if_icmp .ne 51, 3) := by decide +kernel
theorem dX4_coverFromOwner_46 : decode cX4_coverFromOwner 46 = .ok (.aload_n 0, 1) := by decide +kernel
theorem dX4_coverFromOwner_47 : decode cX4_coverFromOwner 47 = .ok (.getfield 10, 3) := by decide +kernel
theorem dX4_coverFromOwner_50 : decode cX4_coverFromOwner 50 = .ok (.getfield 168, 3) := by decide +kernel
theorem dX4_coverFromOwner_53 : decode cX4_coverFromOwner 53 = .ok (.iload_n 2, 1) := by decide +kernel
theorem dX4_coverFromOwner_54 : decode cX4_coverFromOwner 54 = .ok (.iaload, 1) := by decide +kernel
theorem dX4_coverFromOwner_55 : decode cX4_coverFromOwner 55 = .ok (.ifCond .le 39, 3) := by decide +kernel
theorem dX4_coverFromOwner_58 : decode cX4_coverFromOwner 58 = .ok (.aload_n 0, 1) := by decide +kernel
theorem dX4_coverFromOwner_59 : decode cX4_coverFromOwner 59 = .ok (.getfield 10, 3) := by decide +kernel
theorem dX4_coverFromOwner_62 : decode cX4_coverFromOwner 62 = .ok (.getfield 168, 3) := by decide +kernel
theorem dX4_coverFromOwner_65 : decode cX4_coverFromOwner 65 = .ok (.iload_n 2, 1) := by decide +kernel
theorem dX4_coverFromOwner_66 : decode cX4_coverFromOwner 66 = .ok (.iaload, 1) := by decide +kernel
theorem dX4_coverFromOwner_67 : decode cX4_coverFromOwner 67 = .ok (.aload_n 0, 1) := by decide +kernel
theorem dX4_coverFromOwner_68 : decode cX4_coverFromOwner 68 = .ok (.getfield 10, 3) := by decide +kernel
theorem dX4_coverFromOwner_71 : decode cX4_coverFromOwner 71 = .ok (.getfield 168, 3) := by decide +kernel
theorem dX4_coverFromOwner_74 : decode cX4_coverFromOwner 74 = .ok (.iload_n 1, 1) := by decide +kernel
theorem dX4_coverFromOwner_75 : decode cX4_coverFromOwner 75 = .ok (.iaload, 1) := by decide +kernel
theorem dX4_coverFromOwner_76 : decode cX4_coverFromOwner 76 = .ok (.ineg, 1) := by decide +kernel
theorem dX4_coverFromOwner_77 : decode cX4_coverFromOwner 77 = .ok (.invokestatic 119, 3) := by decide +kernel
theorem dX4_coverFromOwner_80 : decode cX4_coverFromOwner 80 = .ok (.istore_n 3, 1) := by decide +kernel
theorem dX4_coverFromOwner_81 : decode cX4_coverFromOwner 81 = .ok (.aload_n 0, 1) := by decide +kernel
theorem dX4_coverFromOwner_82 : decode cX4_coverFromOwner 82 = .ok (.iload_n 2, 1) := by decide +kernel
theorem dX4_coverFromOwner_83 : decode cX4_coverFromOwner 83 = .ok (.iload_n 3, 1) := by decide +kernel
theorem dX4_coverFromOwner_84 : decode cX4_coverFromOwner 84 = .ok (.ineg, 1) := by decide +kernel
theorem dX4_coverFromOwner_85 : decode cX4_coverFromOwner 85 = .ok (.invokevirtual 164, 3) := by decide +kernel
theorem dX4_coverFromOwner_88 : decode cX4_coverFromOwner 88 = .ok (.aload_n 0, 1) := by decide +kernel
theorem dX4_coverFromOwner_89 : decode cX4_coverFromOwner 89 = .ok (.iload_n 1, 1) := by decide +kernel
theorem dX4_coverFromOwner_90 : decode cX4_coverFromOwner 90 = .ok (.iload_n 3, 1) := by decide +kernel
theorem dX4_coverFromOwner_91 : decode cX4_coverFromOwner 91 = .ok (.invokevirtual 164, 3) := by decide +kernel
theorem dX4_coverFromOwner_94 : decode cX4_coverFromOwner 94 = .ok (.iinc 2 1, 3) := by decide +kernel
theorem dX4_coverFromOwner_97 : decode cX4_coverFromOwner 97 = .ok (.goto (-95), 3) := by decide +kernel
theorem dX4_coverFromOwner_100 : decode cX4_coverFromOwner 100 = .ok (.return_, 1) := by decide +kernel
set_option maxRecDepth 20000 in
theorem ggX4_payIfDue_X4_dueTo : GoodIn wsX4_payIfDue wsX4_dueTo := goodIn_r _ [8, 2, 9, 10, 11, 12, 3, 13, 14, 15, 16, 64, 65, 66, 67, 68, 69, 70, 71, 72, 73, 74, 75, 76, 77, 78, 79, 80, 81, 82, 83] (by decide +kernel) (by decide +kernel)
set_option maxRecDepth 20000 in
theorem gX4_payIfDue_X4_dueTo : GoodIn wsX4_payIfDue (wsV RX4 244 RX4 yX4_dueTo wsX4_dueTo) := goodIn_app (goodIn_of _ (by decide +kernel)) ggX4_payIfDue_X4_dueTo
set_option maxRecDepth 20000 in
theorem ggX4_payIfDue_X1_enter : GoodIn wsX4_payIfDue wsX1_enter := goodIn_r _ [21, 22, 23, 24, 25, 26, 27, 20, 28, 29, 30, 31, 32, 33, 34, 35, 36, 37, 38, 39, 40, 41, 14, 15, 16, 42, 43, 44, 45, 84, 85, 86, 87] (by decide +kernel) (by decide +kernel)
set_option maxRecDepth 20000 in
theorem gX4_payIfDue_X1_enter : GoodIn wsX4_payIfDue (wsV RX4 247 RX1 yX1_enter wsX1_enter) := goodIn_app (goodIn_of _ (by decide +kernel)) ggX4_payIfDue_X1_enter
set_option maxRecDepth 20000 in
theorem ggX4_payIfDue_X4_post : GoodIn wsX4_payIfDue wsX4_post := goodIn_r _ [49, 2, 9, 50, 51, 52, 53, 54, 55, 56, 57, 58, 59, 60, 61, 62, 63, 64, 65, 66, 67, 68, 69, 70, 71, 72, 73, 74, 75, 76, 77, 78, 79, 80, 81, 82, 83, 88, 89, 90, 91] (by decide +kernel) (by decide +kernel)
set_option maxRecDepth 20000 in
theorem gX4_payIfDue_X4_post : GoodIn wsX4_payIfDue (wsV RX4 164 RX4 yX4_post wsX4_post) := goodIn_app (goodIn_of _ (by decide +kernel)) ggX4_payIfDue_X4_post
theorem dX4_payIfDue_0 : decode cX4_payIfDue 0 = .ok (.aload_n 0, 1) := by decide +kernel
theorem dX4_payIfDue_1 : decode cX4_payIfDue 1 = .ok (.iload_n 1, 1) := by decide +kernel
theorem dX4_payIfDue_2 : decode cX4_payIfDue 2 = .ok (.invokevirtual 244, 3) := by decide +kernel
theorem dX4_payIfDue_5 : decode cX4_payIfDue 5 = .ok (.istore_n 2, 1) := by decide +kernel
theorem dX4_payIfDue_6 : decode cX4_payIfDue 6 = .ok (.iload_n 2, 1) := by decide +kernel
theorem dX4_payIfDue_7 : decode cX4_payIfDue 7 = .ok (.ifCond .le 35, 3) := by decide +kernel
theorem dX4_payIfDue_10 : decode cX4_payIfDue 10 = .ok (.aload_n 0, 1) := by decide +kernel
theorem dX4_payIfDue_11 : decode cX4_payIfDue 11 = .ok (.getfield 26, 3) := by decide +kernel
theorem dX4_payIfDue_14 : decode cX4_payIfDue 14 = .ok (.iload_n 1, 1) := by decide +kernel
theorem dX4_payIfDue_15 : decode cX4_payIfDue 15 = .ok (.iload_n 2, 1) := by decide +kernel
theorem dX4_payIfDue_16 : decode cX4_payIfDue 16 = .ok (.invokevirtual 247, 3) := by decide +kernel
theorem dX4_payIfDue_19 : decode cX4_payIfDue 19 = .ok (.ifCond .eq 23, 3) := by decide +kernel
theorem dX4_payIfDue_22 : decode cX4_payIfDue 22 = .ok (.aload_n 0, 1) := by decide +kernel
theorem dX4_payIfDue_23 : decode cX4_payIfDue 23 = .ok (.getfield 10, 3) := by decide +kernel
theorem dX4_payIfDue_26 : decode cX4_payIfDue 26 = .ok (.getfield 192, 3) := by decide +kernel
theorem dX4_payIfDue_29 : decode cX4_payIfDue 29 = .ok (.iload_n 1, 1) := by decide +kernel
theorem dX4_payIfDue_30 : decode cX4_payIfDue 30 = .ok (.dup2, 1) := by decide +kernel
theorem dX4_payIfDue_31 : decode cX4_payIfDue 31 = .ok (.iaload, 1) := by decide +kernel
theorem dX4_payIfDue_32 : decode cX4_payIfDue 32 = .ok (.iload_n 2, 1) := by decide +kernel
theorem dX4_payIfDue_33 : decode cX4_payIfDue 33 = .ok (.iadd, 1) := by decide +kernel
theorem dX4_payIfDue_34 : decode cX4_payIfDue 34 = .ok (.iastore, 1) := by decide +kernel
theorem dX4_payIfDue_35 : decode cX4_payIfDue 35 = .ok (.aload_n 0, 1) := by decide +kernel
theorem dX4_payIfDue_36 : decode cX4_payIfDue 36 = .ok (.iload_n 1, 1) := by decide +kernel
theorem dX4_payIfDue_37 : decode cX4_payIfDue 37 = .ok (.iload_n 2, 1) := by decide +kernel
theorem dX4_payIfDue_38 : decode cX4_payIfDue 38 = .ok (.ineg, 1) := by decide +kernel
theorem dX4_payIfDue_39 : decode cX4_payIfDue 39 = .ok (.invokevirtual 164, 3) := by decide +kernel
theorem dX4_payIfDue_42 : decode cX4_payIfDue 42 = .ok (.return_, 1) := by decide +kernel
theorem dX4_dueTo_0 : decode cX4_dueTo 0 = .ok (.aload_n 0, 1) := by decide +kernel
theorem dX4_dueTo_1 : decode cX4_dueTo 1 = .ok (.getfield 10, 3) := by decide +kernel
theorem dX4_dueTo_4 : decode cX4_dueTo 4 = .ok (.getfield 168, 3) := by decide +kernel
theorem dX4_dueTo_7 : decode cX4_dueTo 7 = .ok (.iload_n 1, 1) := by decide +kernel
theorem dX4_dueTo_8 : decode cX4_dueTo 8 = .ok (.iaload, 1) := by decide +kernel
theorem dX4_dueTo_9 : decode cX4_dueTo 9 = .ok (.istore_n 2, 1) := by decide +kernel
theorem dX4_dueTo_10 : decode cX4_dueTo 10 = .ok (.aload_n 0, 1) := by decide +kernel
theorem dX4_dueTo_11 : decode cX4_dueTo 11 = .ok (.getfield 10, 3) := by decide +kernel
theorem dX4_dueTo_14 : decode cX4_dueTo 14 = .ok (.getfield 73, 3) := by decide +kernel
theorem dX4_dueTo_17 : decode cX4_dueTo 17 = .ok (.iload_n 1, 1) := by decide +kernel
theorem dX4_dueTo_18 : decode cX4_dueTo 18 = .ok (.iaload, 1) := by decide +kernel
theorem dX4_dueTo_19 : decode cX4_dueTo 19 = .ok (.ifCond .eq 16, 3) := by decide +kernel
theorem dX4_dueTo_22 : decode cX4_dueTo 22 = .ok (.iload_n 2, 1) := by decide +kernel
theorem dX4_dueTo_23 : decode cX4_dueTo 23 = .ok (.aload_n 0, 1) := by decide +kernel
theorem dX4_dueTo_24 : decode cX4_dueTo 24 = .ok (.getfield 10, 3) := by decide +kernel
theorem dX4_dueTo_27 : decode cX4_dueTo 27 = .ok (.getfield 81, 3) := by decide +kernel
theorem dX4_dueTo_30 : decode cX4_dueTo 30 = .ok (.iload_n 1, 1) := by decide +kernel
theorem dX4_dueTo_31 : decode cX4_dueTo 31 = .ok (.iaload, 1) := by decide +kernel
theorem dX4_dueTo_32 : decode cX4_dueTo 32 = .ok (.if_icmp .ge 5, 3) := by decide +kernel
theorem dX4_dueTo_35 : decode cX4_dueTo 35 = .ok (.iconst 0, 1) := by decide +kernel
theorem dX4_dueTo_36 : decode cX4_dueTo 36 = .ok (.ireturn, 1) := by decide +kernel
theorem dX4_dueTo_37 : decode cX4_dueTo 37 = .ok (.aload_n 0, 1) := by decide +kernel
theorem dX4_dueTo_38 : decode cX4_dueTo 38 = .ok (.getfield 10, 3) := by decide +kernel
theorem dX4_dueTo_41 : decode cX4_dueTo 41 = .ok (.getfield 73, 3) := by decide +kernel
theorem dX4_dueTo_44 : decode cX4_dueTo 44 = .ok (.iload_n 1, 1) := by decide +kernel
theorem dX4_dueTo_45 : decode cX4_dueTo 45 = .ok (.iaload, 1) := by decide +kernel
theorem dX4_dueTo_46 : decode cX4_dueTo 46 = .ok (.iconst 1, 1) := by decide +kernel
theorem dX4_dueTo_47 : decode cX4_dueTo 47 = .ok (.if_icmp .ne 20, 3) := by decide +kernel
theorem dX4_dueTo_50 : decode cX4_dueTo 50 = .ok (.iload_n 2, 1) := by decide +kernel
theorem dX4_dueTo_51 : decode cX4_dueTo 51 = .ok (.ldc 250, 2) := by decide +kernel
theorem dX4_dueTo_53 : decode cX4_dueTo 53 = .ok (.aload_n 0, 1) := by decide +kernel
theorem dX4_dueTo_54 : decode cX4_dueTo 54 = .ok (.getfield 10, 3) := by decide +kernel
theorem dX4_dueTo_57 : decode cX4_dueTo 57 = .ok (.getfield 192, 3) := by decide +kernel
theorem dX4_dueTo_60 : decode cX4_dueTo 60 = .ok (.iload_n 1, 1) := by decide +kernel
theorem dX4_dueTo_61 : decode cX4_dueTo 61 = .ok (.iaload, 1) := by decide +kernel
theorem dX4_dueTo_62 : decode cX4_dueTo 62 = .ok (.isub, 1) := by decide +kernel
theorem dX4_dueTo_63 : decode cX4_dueTo 63 = .ok (.invokestatic 119, 3) := by decide +kernel
theorem dX4_dueTo_66 : decode cX4_dueTo 66 = .ok (.ireturn, 1) := by decide +kernel
theorem dX4_dueTo_67 : decode cX4_dueTo 67 = .ok (.iload_n 2, 1) := by decide +kernel
theorem dX4_dueTo_68 : decode cX4_dueTo 68 = .ok (.ireturn, 1) := by decide +kernel
end
section
theorem dX5_init_0 : decode cX5_init 0 = .ok (.aload_n 0, 1) := by decide +kernel
theorem dX5_init_1 : decode cX5_init 1 = .ok (.invokespecial 1, 3) := by decide +kernel
theorem dX5_init_4 : decode cX5_init 4 = .ok (.aload_n 0, 1) := by decide +kernel
theorem dX5_init_5 : decode cX5_init 5 = .ok (.bipush 8, 2) := by decide +kernel
theorem dX5_init_7 : decode cX5_init 7 = .ok (.newarray .int, 2) := by decide +kernel
theorem dX5_init_9 : decode cX5_init 9 = .ok (.putfield 7, 3) := by decide +kernel
theorem dX5_init_12 : decode cX5_init 12 = .ok (.aload_n 0, 1) := by decide +kernel
theorem dX5_init_13 : decode cX5_init 13 = .ok (.bipush 8, 2) := by decide +kernel
theorem dX5_init_15 : decode cX5_init 15 = .ok (.newarray .int, 2) := by decide +kernel
theorem dX5_init_17 : decode cX5_init 17 = .ok (.putfield 13, 3) := by decide +kernel
theorem dX5_init_20 : decode cX5_init 20 = .ok (.aload_n 0, 1) := by decide +kernel
theorem dX5_init_21 : decode cX5_init 21 = .ok (.bipush 8, 2) := by decide +kernel
theorem dX5_init_23 : decode cX5_init 23 = .ok (.newarray .int, 2) := by decide +kernel
theorem dX5_init_25 : decode cX5_init 25 = .ok (.putfield 16, 3) := by decide +kernel
theorem dX5_init_28 : decode cX5_init 28 = .ok (.aload_n 0, 1) := by decide +kernel
theorem dX5_init_29 : decode cX5_init 29 = .ok (.bipush 8, 2) := by decide +kernel
theorem dX5_init_31 : decode cX5_init 31 = .ok (.newarray .int, 2) := by decide +kernel
theorem dX5_init_33 : decode cX5_init 33 = .ok (.putfield 19, 3) := by decide +kernel
theorem dX5_init_36 : decode cX5_init 36 = .ok (.aload_n 0, 1) := by decide +kernel
theorem dX5_init_37 : decode cX5_init 37 = .ok (.bipush 8, 2) := by decide +kernel
theorem dX5_init_39 : decode cX5_init 39 = .ok (.newarray .int, 2) := by decide +kernel
theorem dX5_init_41 : decode cX5_init 41 = .ok (.putfield 22, 3) := by decide +kernel
theorem dX5_init_44 : decode cX5_init 44 = .ok (.aload_n 0, 1) := by decide +kernel
theorem dX5_init_45 : decode cX5_init 45 = .ok (.bipush 8, 2) := by decide +kernel
theorem dX5_init_47 : decode cX5_init 47 = .ok (.newarray .int, 2) := by decide +kernel
theorem dX5_init_49 : decode cX5_init 49 = .ok (.putfield 25, 3) := by decide +kernel
theorem dX5_init_52 : decode cX5_init 52 = .ok (.aload_n 0, 1) := by decide +kernel
theorem dX5_init_53 : decode cX5_init 53 = .ok (.bipush 8, 2) := by decide +kernel
theorem dX5_init_55 : decode cX5_init 55 = .ok (.newarray .int, 2) := by decide +kernel
theorem dX5_init_57 : decode cX5_init 57 = .ok (.putfield 28, 3) := by decide +kernel
theorem dX5_init_60 : decode cX5_init 60 = .ok (.aload_n 0, 1) := by decide +kernel
theorem dX5_init_61 : decode cX5_init 61 = .ok (.bipush 8, 2) := by decide +kernel
theorem dX5_init_63 : decode cX5_init 63 = .ok (.newarray .int, 2) := by decide +kernel
theorem dX5_init_65 : decode cX5_init 65 = .ok (.putfield 31, 3) := by decide +kernel
theorem dX5_init_68 : decode cX5_init 68 = .ok (.aload_n 0, 1) := by decide +kernel
theorem dX5_init_69 : decode cX5_init 69 = .ok (.iconst 4, 1) := by decide +kernel
theorem dX5_init_70 : decode cX5_init 70 = .ok (.newarray .float, 2) := by decide +kernel
theorem dX5_init_72 : decode cX5_init 72 = .ok (.putfield 34, 3) := by decide +kernel
theorem dX5_init_75 : decode cX5_init 75 = .ok (.aload_n 0, 1) := by decide +kernel
theorem dX5_init_76 : decode cX5_init 76 = .ok (.bipush 100, 2) := by decide +kernel
theorem dX5_init_78 : decode cX5_init 78 = .ok (.newarray .int, 2) := by decide +kernel
theorem dX5_init_80 : decode cX5_init 80 = .ok (.putfield 38, 3) := by decide +kernel
theorem dX5_init_83 : decode cX5_init 83 = .ok (.aload_n 0, 1) := by decide +kernel
theorem dX5_init_84 : decode cX5_init 84 = .ok (.bipush 100, 2) := by decide +kernel
theorem dX5_init_86 : decode cX5_init 86 = .ok (.newarray .int, 2) := by decide +kernel
theorem dX5_init_88 : decode cX5_init 88 = .ok (.putfield 41, 3) := by decide +kernel
theorem dX5_init_91 : decode cX5_init 91 = .ok (.aload_n 0, 1) := by decide +kernel
theorem dX5_init_92 : decode cX5_init 92 = .ok (.bipush 100, 2) := by decide +kernel
theorem dX5_init_94 : decode cX5_init 94 = .ok (.newarray .int, 2) := by decide +kernel
theorem dX5_init_96 : decode cX5_init 96 = .ok (.putfield 44, 3) := by decide +kernel
theorem dX5_init_99 : decode cX5_init 99 = .ok (.aload_n 0, 1) := by decide +kernel
theorem dX5_init_100 : decode cX5_init 100 = .ok (.bipush 100, 2) := by decide +kernel
theorem dX5_init_102 : decode cX5_init 102 = .ok (.newarray .float, 2) := by decide +kernel
theorem dX5_init_104 : decode cX5_init 104 = .ok (.putfield 47, 3) := by decide +kernel
theorem dX5_init_107 : decode cX5_init 107 = .ok (.aload_n 0, 1) := by decide +kernel
theorem dX5_init_108 : decode cX5_init 108 = .ok (.bipush 100, 2) := by decide +kernel
theorem dX5_init_110 : decode cX5_init 110 = .ok (.newarray .int, 2) := by decide +kernel
theorem dX5_init_112 : decode cX5_init 112 = .ok (.putfield 50, 3) := by decide +kernel
theorem dX5_init_115 : decode cX5_init 115 = .ok (.aload_n 0, 1) := by decide +kernel
theorem dX5_init_116 : decode cX5_init 116 = .ok (.bipush 100, 2) := by decide +kernel
theorem dX5_init_118 : decode cX5_init 118 = .ok (.newarray .int, 2) := by decide +kernel
theorem dX5_init_120 : decode cX5_init 120 = .ok (.putfield 53, 3) := by decide +kernel
theorem dX5_init_123 : decode cX5_init 123 = .ok (.aload_n 0, 1) := by decide +kernel
theorem dX5_init_124 : decode cX5_init 124 = .ok (.bipush 100, 2) := by decide +kernel
theorem dX5_init_126 : decode cX5_init 126 = .ok (.newarray .int, 2) := by decide +kernel
theorem dX5_init_128 : decode cX5_init 128 = .ok (.putfield 56, 3) := by decide +kernel
theorem dX5_init_131 : decode cX5_init 131 = .ok (.aload_n 0, 1) := by decide +kernel
theorem dX5_init_132 : decode cX5_init 132 = .ok (.bipush 100, 2) := by decide +kernel
theorem dX5_init_134 : decode cX5_init 134 = .ok (.newarray .int, 2) := by decide +kernel
theorem dX5_init_136 : decode cX5_init 136 = .ok (.putfield 59, 3) := by decide +kernel
theorem dX5_init_139 : decode cX5_init 139 = .ok (.aload_n 0, 1) := by decide +kernel
theorem dX5_init_140 : decode cX5_init 140 = .ok (.bipush 100, 2) := by decide +kernel
theorem dX5_init_142 : decode cX5_init 142 = .ok (.newarray .int, 2) := by decide +kernel
theorem dX5_init_144 : decode cX5_init 144 = .ok (.putfield 62, 3) := by decide +kernel
theorem dX5_init_147 : decode cX5_init 147 = .ok (.aload_n 0, 1) := by decide +kernel
theorem dX5_init_148 : decode cX5_init 148 = .ok (.sipush 2000, 3) := by decide +kernel
theorem dX5_init_151 : decode cX5_init 151 = .ok (.newarray .int, 2) := by decide +kernel
theorem dX5_init_153 : decode cX5_init 153 = .ok (.putfield 65, 3) := by decide +kernel
theorem dX5_init_156 : decode cX5_init 156 = .ok (.aload_n 0, 1) := by decide +kernel
theorem dX5_init_157 : decode cX5_init 157 = .ok (.sipush 2000, 3) := by decide +kernel
theorem dX5_init_160 : decode cX5_init 160 = .ok (.newarray .int, 2) := by decide +kernel
theorem dX5_init_162 : decode cX5_init 162 = .ok (.putfield 68, 3) := by decide +kernel
theorem dX5_init_165 : decode cX5_init 165 = .ok (.aload_n 0, 1) := by decide +kernel
theorem dX5_init_166 : decode cX5_init 166 = .ok (.sipush 2000, 3) := by decide +kernel
theorem dX5_init_169 : decode cX5_init 169 = .ok (.newarray .boolean, 2) := by decide +kernel
theorem dX5_init_171 : decode cX5_init 171 = .ok (.putfield 71, 3) := by decide +kernel
theorem dX5_init_174 : decode cX5_init 174 = .ok (.iconst 0, 1) := by decide +kernel
theorem dX5_init_175 : decode cX5_init 175 = .ok (.istore_n 1, 1) := by decide +kernel
theorem dX5_init_176 : decode cX5_init 176 = .ok (.iload_n 1, 1) := by decide +kernel
theorem dX5_init_177 : decode cX5_init 177 = .ok (.iconst 4, 1) := by decide +kernel
theorem dX5_init_178 : decode cX5_init 178 = .ok (.if_icmp .ge 17, 3) := by decide +kernel
theorem dX5_init_181 : decode cX5_init 181 = .ok (.aload_n 0, 1) := by decide +kernel
theorem dX5_init_182 : decode cX5_init 182 = .ok (.getfield 34, 3) := by decide +kernel
theorem dX5_init_185 : decode cX5_init 185 = .ok (.iload_n 1, 1) := by decide +kernel
theorem dX5_init_186 : decode cX5_init 186 = .ok (.ldc 75, 2) := by decide +kernel
theorem dX5_init_188 : decode cX5_init 188 = .ok (.fastore, 1) := by decide +kernel
theorem dX5_init_189 : decode cX5_init 189 = .ok (.iinc 1 1, 3) := by decide +kernel
theorem dX5_init_192 : decode cX5_init 192 = .ok (.goto (-16), 3) := by decide +kernel
theorem dX5_init_195 : decode cX5_init 195 = .ok (.return_, 1) := by decide +kernel
theorem dX5_thrown_0 : decode cX5_thrown 0 = .ok (.aload_n 0, 1) := by decide +kernel
theorem dX5_thrown_1 : decode cX5_thrown 1 = .ok (.getfield 76, 3) := by decide +kernel
theorem dX5_thrown_4 : decode cX5_thrown 4 = .ok (.ireturn, 1) := by decide +kernel
theorem dX5_holds_0 : decode cX5_holds 0 = .ok (.aload_n 0, 1) := by decide +kernel
theorem dX5_holds_1 : decode cX5_holds 1 = .ok (.iload_n 1, 1) := by decide +kernel
theorem dX5_holds_2 : decode cX5_holds 2 = .ok (.putfield 76, 3) := by decide +kernel
theorem dX5_holds_5 : decode cX5_holds 5 = .ok (.iload_n 1, 1) := by decide +kernel
theorem dX5_holds_6 : decode cX5_holds 6 = .ok (.ifCond .ne 7, 3) := by decide +kernel
theorem dX5_holds_9 : decode cX5_holds 9 = .ok (.iconst 1, 1) := by decide +kernel
theorem dX5_holds_10 : decode cX5_holds 10 = .ok (.goto 4, 3) := by decide +kernel
theorem dX5_holds_13 : decode cX5_holds 13 = .ok (.iconst 0, 1) := by decide +kernel
theorem dX5_holds_14 : decode cX5_holds 14 = .ok (.ireturn, 1) := by decide +kernel
theorem dX5_in_0 : decode cX5_in 0 = .ok (.iload_n 0, 1) := by decide +kernel
theorem dX5_in_1 : decode cX5_in 1 = .ok (.iload_n 1, 1) := by decide +kernel
theorem dX5_in_2 : decode cX5_in 2 = .ok (.if_icmp .lt 12, 3) := by decide +kernel
theorem dX5_in_5 : decode cX5_in 5 = .ok (.iload_n 0, 1) := by decide +kernel
theorem dX5_in_6 : decode cX5_in 6 = .ok (.iload_n 2, 1) := by decide +kernel
theorem dX5_in_7 : decode cX5_in 7 = .ok (.if_icmp .gt 7, 3) := by decide +kernel
theorem dX5_in_10 : decode cX5_in 10 = .ok (.iconst 1, 1) := by decide +kernel
theorem dX5_in_11 : decode cX5_in 11 = .ok (.goto 4, 3) := by decide +kernel
theorem dX5_in_14 : decode cX5_in 14 = .ok (.iconst 0, 1) := by decide +kernel
theorem dX5_in_15 : decode cX5_in 15 = .ok (.ireturn, 1) := by decide +kernel
set_option maxRecDepth 20000 in
theorem ggX5_isSeller_X5_in : GoodIn wsX5_isSeller wsX5_in := goodIn_r _ [5] (by decide +kernel) (by decide +kernel)
set_option maxRecDepth 20000 in
theorem gX5_isSeller_X5_in : GoodIn wsX5_isSeller (va_wsS RX5 83 yX5_in wsX5_in) := goodIn_app (goodIn_of _ (by decide +kernel)) ggX5_isSeller_X5_in
theorem dX5_isSeller_0 : decode cX5_isSeller 0 = .ok (.iload_n 1, 1) := by decide +kernel
theorem dX5_isSeller_1 : decode cX5_isSeller 1 = .ok (.iconst 0, 1) := by decide +kernel
theorem dX5_isSeller_2 : decode cX5_isSeller 2 = .ok (.aload_n 0, 1) := by decide +kernel
theorem dX5_isSeller_3 : decode cX5_isSeller 3 = .ok (.getfield 80, 3) := by decide +kernel
theorem dX5_isSeller_6 : decode cX5_isSeller 6 = .ok (.iconst 1, 1) := by decide +kernel
theorem dX5_isSeller_7 : decode cX5_isSeller 7 = .ok (.isub, 1) := by decide +kernel
theorem dX5_isSeller_8 : decode cX5_isSeller 8 = .ok (.invokestatic 83, 3) := by decide +kernel
theorem dX5_isSeller_11 : decode cX5_isSeller 11 = .ok (.ireturn, 1) := by decide +kernel
set_option maxRecDepth 20000 in
theorem ggX5_isKind_X5_in : GoodIn wsX5_isKind wsX5_in := goodIn_r _ [4] (by decide +kernel) (by decide +kernel)
set_option maxRecDepth 20000 in
theorem gX5_isKind_X5_in : GoodIn wsX5_isKind (va_wsS RX5 83 yX5_in wsX5_in) := goodIn_app (goodIn_of _ (by decide +kernel)) ggX5_isKind_X5_in
theorem dX5_isKind_0 : decode cX5_isKind 0 = .ok (.iload_n 0, 1) := by decide +kernel
theorem dX5_isKind_1 : decode cX5_isKind 1 = .ok (.iconst 0, 1) := by decide +kernel
theorem dX5_isKind_2 : decode cX5_isKind 2 = .ok (.iconst 3, 1) := by decide +kernel
theorem dX5_isKind_3 : decode cX5_isKind 3 = .ok (.invokestatic 83, 3) := by decide +kernel
theorem dX5_isKind_6 : decode cX5_isKind 6 = .ok (.ireturn, 1) := by decide +kernel
set_option maxRecDepth 20000 in
theorem ggX5_addSeller_X5_in : GoodIn wsX5_addSeller wsX5_in := goodIn_r _ [8] (by decide +kernel) (by decide +kernel)
set_option maxRecDepth 20000 in
theorem gX5_addSeller_X5_in : GoodIn wsX5_addSeller (va_wsS RX5 83 yX5_in wsX5_in) := goodIn_app (goodIn_of _ (by decide +kernel)) ggX5_addSeller_X5_in
set_option maxRecDepth 20000 in
theorem ggX5_addSeller_X5_holds : GoodIn wsX5_addSeller wsX5_holds := goodIn_r _ [12, 13, 14, 15, 16, 17, 18, 19, 20, 21, 22, 23, 24, 25, 26, 27, 28, 29, 30, 31, 32, 33, 34, 35, 36, 37, 38, 39, 40, 41, 42, 43, 44] (by decide +kernel) (by decide +kernel)
set_option maxRecDepth 20000 in
theorem gX5_addSeller_X5_holds : GoodIn wsX5_addSeller (wsV RX5 87 RX5 yX5_holds wsX5_holds) := goodIn_app (goodIn_of _ (by decide +kernel)) ggX5_addSeller_X5_holds
theorem dX5_addSeller_0 : decode cX5_addSeller 0 = .ok (.aload_n 0, 1) := by decide +kernel
theorem dX5_addSeller_1 : decode cX5_addSeller 1 = .ok (.iload_n 1, 1) := by decide +kernel
theorem dX5_addSeller_2 : decode cX5_addSeller 2 = .ok (.iconst 0, 1) := by decide +kernel
theorem dX5_addSeller_3 : decode cX5_addSeller 3 = .ok (.iconst 3, 1) := by decide +kernel
theorem dX5_addSeller_4 : decode cX5_addSeller 4 = .ok (.invokestatic 83, 3) := by decide +kernel
theorem dX5_addSeller_7 : decode cX5_addSeller 7 = .ok (.ifCond .ne 7, 3) := by decide +kernel
theorem dX5_addSeller_10 : decode cX5_addSeller 10 = .ok (.iconst 1, 1) := by decide +kernel
theorem dX5_addSeller_11 : decode cX5_addSeller 11 = .ok (.goto 17, 3) := by decide +kernel
theorem dX5_addSeller_14 : decode cX5_addSeller 14 = .ok (.aload_n 0, 1) := by decide +kernel
theorem dX5_addSeller_15 : decode cX5_addSeller 15 = .ok (.getfield 80, 3) := by decide +kernel
theorem dX5_addSeller_18 : decode cX5_addSeller 18 = .ok (.bipush 8, 2) := by decide +kernel
theorem dX5_addSeller_20 : decode cX5_addSeller 20 = .ok (.if_icmp .ne 7, 3) := by decide +kernel
theorem dX5_addSeller_23 : decode cX5_addSeller 23 = .ok (.iconst 2, 1) := by decide +kernel
theorem dX5_addSeller_24 : decode cX5_addSeller 24 = .ok (.goto 4, 3) := by decide +kernel
theorem dX5_addSeller_27 : decode cX5_addSeller 27 = .ok (.iconst 0, 1) := by decide +kernel
theorem dX5_addSeller_28 : decode cX5_addSeller 28 = .ok (.invokevirtual 87, 3) := by decide +kernel
theorem dX5_addSeller_31 : decode cX5_addSeller 31 = .ok (.ifCond .ne 5, 3) := by decide +kernel
theorem dX5_addSeller_34 : decode cX5_addSeller 34 = .ok (.iconst 0, 1) := by decide +kernel
theorem dX5_addSeller_35 : decode cX5_addSeller 35 = .ok (.ireturn, 1) := by decide +kernel
theorem dX5_addSeller_36 : decode cX5_addSeller 36 = .ok (.aload_n 0, 1) := by decide +kernel
theorem dX5_addSeller_37 : decode cX5_addSeller 37 = .ok (.getfield 7, 3) := by decide +kernel
theorem dX5_addSeller_40 : decode cX5_addSeller 40 = .ok (.aload_n 0, 1) := by decide +kernel
theorem dX5_addSeller_41 : decode cX5_addSeller 41 = .ok (.getfield 80, 3) := by decide +kernel
theorem dX5_addSeller_44 : decode cX5_addSeller 44 = .ok (.iload_n 1, 1) := by decide +kernel
theorem dX5_addSeller_45 : decode cX5_addSeller 45 = .ok (.iastore, 1) := by decide +kernel
theorem dX5_addSeller_46 : decode cX5_addSeller 46 = .ok (.aload_n 0, 1) := by decide +kernel
theorem dX5_addSeller_47 : decode cX5_addSeller 47 = .ok (.getfield 19, 3) := by decide +kernel
theorem dX5_addSeller_50 : decode cX5_addSeller 50 = .ok (.aload_n 0, 1) := by decide +kernel
theorem dX5_addSeller_51 : decode cX5_addSeller 51 = .ok (.getfield 80, 3) := by decide +kernel
theorem dX5_addSeller_54 : decode cX5_addSeller 54 = .ok (.iconst 1, 1) := by decide +kernel
theorem dX5_addSeller_55 : decode cX5_addSeller 55 = .ok (.iastore, 1) := by decide +kernel
theorem dX5_addSeller_56 : decode cX5_addSeller 56 = .ok (.aload_n 0, 1) := by decide +kernel
theorem dX5_addSeller_57 : decode cX5_addSeller 57 = .ok (.getfield 25, 3) := by decide +kernel
theorem dX5_addSeller_60 : decode cX5_addSeller 60 = .ok (.aload_n 0, 1) := by decide +kernel
theorem dX5_addSeller_61 : decode cX5_addSeller 61 = .ok (.getfield 80, 3) := by decide +kernel
theorem dX5_addSeller_64 : decode cX5_addSeller 64 = .ok (.bipush 30, 2) := by decide +kernel
theorem dX5_addSeller_66 : decode cX5_addSeller 66 = .ok (.iastore, 1) := by decide +kernel
theorem dX5_addSeller_67 : decode cX5_addSeller 67 = .ok (.aload_n 0, 1) := by decide +kernel
theorem dX5_addSeller_68 : decode cX5_addSeller 68 = .ok (.dup, 1) := by decide +kernel
theorem dX5_addSeller_69 : decode cX5_addSeller 69 = .ok (.getfield 80, 3) := by decide +kernel
theorem dX5_addSeller_72 : decode cX5_addSeller 72 = .ok (.iconst 1, 1) := by decide +kernel
theorem dX5_addSeller_73 : decode cX5_addSeller 73 = .ok (.iadd, 1) := by decide +kernel
theorem dX5_addSeller_74 : decode cX5_addSeller 74 = .ok (.putfield 80, 3) := by decide +kernel
theorem dX5_addSeller_77 : decode cX5_addSeller 77 = .ok (.aload_n 0, 1) := by decide +kernel
theorem dX5_addSeller_78 : decode cX5_addSeller 78 = .ok (.getfield 80, 3) := by decide +kernel
theorem dX5_addSeller_81 : decode cX5_addSeller 81 = .ok (.iconst 1, 1) := by decide +kernel
theorem dX5_addSeller_82 : decode cX5_addSeller 82 = .ok (.isub, 1) := by decide +kernel
theorem dX5_addSeller_83 : decode cX5_addSeller 83 = .ok (.ireturn, 1) := by decide +kernel
set_option maxRecDepth 20000 in
theorem ggX5_verify_X5_isSeller : GoodIn wsX5_verify wsX5_isSeller := goodIn_r _ [6, 7, 8, 9, 5, 10, 16, 17, 18, 19, 20, 21, 22, 23, 24, 25, 26, 27, 28, 29, 30, 31, 32, 33, 34, 35, 36, 37, 38, 39, 40, 41, 42, 43, 44, 45, 46] (by decide +kernel) (by decide +kernel)
set_option maxRecDepth 20000 in
theorem gX5_verify_X5_isSeller : GoodIn wsX5_verify (wsV RX5 91 RX5 yX5_isSeller wsX5_isSeller) := goodIn_app (goodIn_of _ (by decide +kernel)) ggX5_verify_X5_isSeller
set_option maxRecDepth 20000 in
theorem ggX5_verify_X5_in : GoodIn wsX5_verify wsX5_in := goodIn_r _ [10] (by decide +kernel) (by decide +kernel)
set_option maxRecDepth 20000 in
theorem gX5_verify_X5_in : GoodIn wsX5_verify (va_wsS RX5 83 yX5_in wsX5_in) := goodIn_app (goodIn_of _ (by decide +kernel)) ggX5_verify_X5_in
set_option maxRecDepth 20000 in
theorem ggX5_verify_X5_holds : GoodIn wsX5_verify wsX5_holds := goodIn_r _ [14, 15, 16, 17, 18, 19, 20, 21, 22, 23, 24, 25, 26, 27, 28, 29, 30, 31, 32, 33, 34, 35, 36, 37, 38, 39, 40, 41, 42, 43, 44, 45, 46] (by decide +kernel) (by decide +kernel)
set_option maxRecDepth 20000 in
theorem gX5_verify_X5_holds : GoodIn wsX5_verify (wsV RX5 87 RX5 yX5_holds wsX5_holds) := goodIn_app (goodIn_of _ (by decide +kernel)) ggX5_verify_X5_holds
theorem dX5_verify_0 : decode cX5_verify 0 = .ok (.aload_n 0, 1) := by decide +kernel
theorem dX5_verify_1 : decode cX5_verify 1 = .ok (.aload_n 0, 1) := by decide +kernel
theorem dX5_verify_2 : decode cX5_verify 2 = .ok (.iload_n 1, 1) := by decide +kernel
theorem dX5_verify_3 : decode cX5_verify 3 = .ok (.invokevirtual 91, 3) := by decide +kernel
theorem dX5_verify_6 : decode cX5_verify 6 = .ok (.ifCond .ne 7, 3) := by decide +kernel
theorem dX5_verify_9 : decode cX5_verify 9 = .ok (.iconst 1, 1) := by decide +kernel
theorem dX5_verify_10 : decode cX5_verify 10 = .ok (.goto 17, 3) := by decide +kernel
theorem dX5_verify_13 : decode cX5_verify 13 = .ok (.iload_n 2, 1) := by decide +kernel
theorem dX5_verify_14 : decode cX5_verify 14 = .ok (.iconst 0, 1) := by decide +kernel
theorem dX5_verify_15 : decode cX5_verify 15 = .ok (.iconst 2, 1) := by decide +kernel
theorem dX5_verify_16 : decode cX5_verify 16 = .ok (.invokestatic 83, 3) := by decide +kernel
theorem dX5_verify_19 : decode cX5_verify 19 = .ok (.ifCond .eq 7, 3) := by decide +kernel
theorem dX5_verify_22 : decode cX5_verify 22 = .ok (.iconst 0, 1) := by decide +kernel
theorem dX5_verify_23 : decode cX5_verify 23 = .ok (.goto 4, 3) := by decide +kernel
theorem dX5_verify_26 : decode cX5_verify 26 = .ok (.iconst 2, 1) := by decide +kernel
theorem dX5_verify_27 : decode cX5_verify 27 = .ok (.invokevirtual 87, 3) := by decide +kernel
theorem dX5_verify_30 : decode cX5_verify 30 = .ok (.ifCond .ne 5, 3) := by decide +kernel
theorem dX5_verify_33 : decode cX5_verify 33 = .ok (.iconst 0, 1) := by decide +kernel
theorem dX5_verify_34 : decode cX5_verify 34 = .ok (.ireturn, 1) := by decide +kernel
theorem dX5_verify_35 : decode cX5_verify 35 = .ok (.aload_n 0, 1) := by decide +kernel
theorem dX5_verify_36 : decode cX5_verify 36 = .ok (.getfield 13, 3) := by decide +kernel
theorem dX5_verify_39 : decode cX5_verify 39 = .ok (.iload_n 1, 1) := by decide +kernel
theorem dX5_verify_40 : decode cX5_verify 40 = .ok (.iaload, 1) := by decide +kernel
theorem dX5_verify_41 : decode cX5_verify 41 = .ok (.istore_n 3, 1) := by decide +kernel
theorem dX5_verify_42 : decode cX5_verify 42 = .ok (.aload_n 0, 1) := by decide +kernel
theorem dX5_verify_43 : decode cX5_verify 43 = .ok (.getfield 13, 3) := by decide +kernel
theorem dX5_verify_46 : decode cX5_verify 46 = .ok (.iload_n 1, 1) := by decide +kernel
theorem dX5_verify_47 : decode cX5_verify 47 = .ok (.iload_n 2, 1) := by decide +kernel
theorem dX5_verify_48 : decode cX5_verify 48 = .ok (.iastore, 1) := by decide +kernel
theorem dX5_verify_49 : decode cX5_verify 49 = .ok (.iload_n 3, 1) := by decide +kernel
theorem dX5_verify_50 : decode cX5_verify 50 = .ok (.ireturn, 1) := by decide +kernel
set_option maxRecDepth 20000 in
theorem ggX5_setPayouts_X5_isSeller : GoodIn wsX5_setPayouts wsX5_isSeller := goodIn_r _ [8, 9, 10, 11, 7, 12, 18, 19, 20, 21, 22, 23, 24, 25, 26, 27, 28, 29, 30, 31, 32, 33, 34, 35, 36, 37, 38, 39, 40, 41, 42, 43, 44, 45, 46, 47, 48] (by decide +kernel) (by decide +kernel)
set_option maxRecDepth 20000 in
theorem gX5_setPayouts_X5_isSeller : GoodIn wsX5_setPayouts (wsV RX5 91 RX5 yX5_isSeller wsX5_isSeller) := goodIn_app (goodIn_of _ (by decide +kernel)) ggX5_setPayouts_X5_isSeller
set_option maxRecDepth 20000 in
theorem ggX5_setPayouts_X5_in : GoodIn wsX5_setPayouts wsX5_in := goodIn_r _ [12] (by decide +kernel) (by decide +kernel)
set_option maxRecDepth 20000 in
theorem gX5_setPayouts_X5_in : GoodIn wsX5_setPayouts (va_wsS RX5 83 yX5_in wsX5_in) := goodIn_app (goodIn_of _ (by decide +kernel)) ggX5_setPayouts_X5_in
set_option maxRecDepth 20000 in
theorem ggX5_setPayouts_X5_holds : GoodIn wsX5_setPayouts wsX5_holds := goodIn_r _ [16, 17, 18, 19, 20, 21, 22, 23, 24, 25, 26, 27, 28, 29, 30, 31, 32, 33, 34, 35, 36, 37, 38, 39, 40, 41, 42, 43, 44, 45, 46, 47, 48] (by decide +kernel) (by decide +kernel)
set_option maxRecDepth 20000 in
theorem gX5_setPayouts_X5_holds : GoodIn wsX5_setPayouts (wsV RX5 87 RX5 yX5_holds wsX5_holds) := goodIn_app (goodIn_of _ (by decide +kernel)) ggX5_setPayouts_X5_holds
theorem dX5_setPayouts_0 : decode cX5_setPayouts 0 = .ok (.aload_n 0, 1) := by decide +kernel
theorem dX5_setPayouts_1 : decode cX5_setPayouts 1 = .ok (.aload_n 0, 1) := by decide +kernel
theorem dX5_setPayouts_2 : decode cX5_setPayouts 2 = .ok (.iload_n 1, 1) := by decide +kernel
theorem dX5_setPayouts_3 : decode cX5_setPayouts 3 = .ok (.invokevirtual 91, 3) := by decide +kernel
theorem dX5_setPayouts_6 : decode cX5_setPayouts 6 = .ok (.ifCond .ne 7, 3) := by decide +kernel
theorem dX5_setPayouts_9 : decode cX5_setPayouts 9 = .ok (.iconst 1, 1) := by decide +kernel
theorem dX5_setPayouts_10 : decode cX5_setPayouts 10 = .ok (.goto 28, 3) := by decide +kernel
theorem dX5_setPayouts_13 : decode cX5_setPayouts 13 = .ok (.iload_n 2, 1) := by decide +kernel
theorem dX5_setPayouts_14 : decode cX5_setPayouts 14 = .ok (.iconst 0, 1) := by decide +kernel
theorem dX5_setPayouts_15 : decode cX5_setPayouts 15 = .ok (.bipush 6, 2) := by decide +kernel
theorem dX5_setPayouts_17 : decode cX5_setPayouts 17 = .ok (.invokestatic 83, 3) := by decide +kernel
theorem dX5_setPayouts_20 : decode cX5_setPayouts 20 = .ok (.ifCond .eq 17, 3) := by decide +kernel
theorem dX5_setPayouts_23 : decode cX5_setPayouts 23 = .ok (.iload_n 3, 1) := by decide +kernel
theorem dX5_setPayouts_24 : decode cX5_setPayouts 24 = .ok (.iconst 1, 1) := by decide +kernel
theorem dX5_setPayouts_25 : decode cX5_setPayouts 25 = .ok (.ldc 94, 2) := by decide +kernel
theorem dX5_setPayouts_27 : decode cX5_setPayouts 27 = .ok (.invokestatic 83, 3) := by decide +kernel
theorem dX5_setPayouts_30 : decode cX5_setPayouts 30 = .ok (.ifCond .eq 7, 3) := by decide +kernel
theorem dX5_setPayouts_33 : decode cX5_setPayouts 33 = .ok (.iconst 0, 1) := by decide +kernel
theorem dX5_setPayouts_34 : decode cX5_setPayouts 34 = .ok (.goto 4, 3) := by decide +kernel
theorem dX5_setPayouts_37 : decode cX5_setPayouts 37 = .ok (.iconst 2, 1) := by decide +kernel
theorem dX5_setPayouts_38 : decode cX5_setPayouts 38 = .ok (.invokevirtual 87, 3) := by decide +kernel
theorem dX5_setPayouts_41 : decode cX5_setPayouts 41 = .ok (.ifCond .eq 17, 3) := by decide +kernel
theorem dX5_setPayouts_44 : decode cX5_setPayouts 44 = .ok (.aload_n 0, 1) := by decide +kernel
theorem dX5_setPayouts_45 : decode cX5_setPayouts 45 = .ok (.getfield 16, 3) := by decide +kernel
theorem dX5_setPayouts_48 : decode cX5_setPayouts 48 = .ok (.iload_n 1, 1) := by decide +kernel
theorem dX5_setPayouts_49 : decode cX5_setPayouts 49 = .ok (.iload_n 2, 1) := by decide +kernel
theorem dX5_setPayouts_50 : decode cX5_setPayouts 50 = .ok (.iastore, 1) := by decide +kernel
theorem dX5_setPayouts_51 : decode cX5_setPayouts 51 = .ok (.aload_n 0, 1) := by decide +kernel
theorem dX5_setPayouts_52 : decode cX5_setPayouts 52 = .ok (.getfield 19, 3) := by decide +kernel
theorem dX5_setPayouts_55 : decode cX5_setPayouts 55 = .ok (.iload_n 1, 1) := by decide +kernel
theorem dX5_setPayouts_56 : decode cX5_setPayouts 56 = .ok (.iload_n 3, 1) := by decide +kernel
theorem dX5_setPayouts_57 : decode cX5_setPayouts 57 = .ok (.iastore, 1) := by decide +kernel
theorem dX5_setPayouts_58 : decode cX5_setPayouts 58 = .ok (.return_, 1) := by decide +kernel
set_option maxRecDepth 20000 in
theorem ggX5_setReserve_X5_isSeller : GoodIn wsX5_setReserve wsX5_isSeller := goodIn_r _ [7, 8, 9, 10, 6, 11, 17, 18, 19, 20, 21, 22, 23, 24, 25, 26, 27, 28, 29, 30, 31, 32, 33, 34, 35, 36, 37, 38, 39, 40, 41, 42, 43, 44, 45, 46, 47] (by decide +kernel) (by decide +kernel)
set_option maxRecDepth 20000 in
theorem gX5_setReserve_X5_isSeller : GoodIn wsX5_setReserve (wsV RX5 91 RX5 yX5_isSeller wsX5_isSeller) := goodIn_app (goodIn_of _ (by decide +kernel)) ggX5_setReserve_X5_isSeller
set_option maxRecDepth 20000 in
theorem ggX5_setReserve_X5_in : GoodIn wsX5_setReserve wsX5_in := goodIn_r _ [11] (by decide +kernel) (by decide +kernel)
set_option maxRecDepth 20000 in
theorem gX5_setReserve_X5_in : GoodIn wsX5_setReserve (va_wsS RX5 83 yX5_in wsX5_in) := goodIn_app (goodIn_of _ (by decide +kernel)) ggX5_setReserve_X5_in
set_option maxRecDepth 20000 in
theorem ggX5_setReserve_X5_holds : GoodIn wsX5_setReserve wsX5_holds := goodIn_r _ [15, 16, 17, 18, 19, 20, 21, 22, 23, 24, 25, 26, 27, 28, 29, 30, 31, 32, 33, 34, 35, 36, 37, 38, 39, 40, 41, 42, 43, 44, 45, 46, 47] (by decide +kernel) (by decide +kernel)
set_option maxRecDepth 20000 in
theorem gX5_setReserve_X5_holds : GoodIn wsX5_setReserve (wsV RX5 87 RX5 yX5_holds wsX5_holds) := goodIn_app (goodIn_of _ (by decide +kernel)) ggX5_setReserve_X5_holds
theorem dX5_setReserve_0 : decode cX5_setReserve 0 = .ok (.aload_n 0, 1) := by decide +kernel
theorem dX5_setReserve_1 : decode cX5_setReserve 1 = .ok (.aload_n 0, 1) := by decide +kernel
theorem dX5_setReserve_2 : decode cX5_setReserve 2 = .ok (.iload_n 1, 1) := by decide +kernel
theorem dX5_setReserve_3 : decode cX5_setReserve 3 = .ok (.invokevirtual 91, 3) := by decide +kernel
theorem dX5_setReserve_6 : decode cX5_setReserve 6 = .ok (.ifCond .ne 7, 3) := by decide +kernel
theorem dX5_setReserve_9 : decode cX5_setReserve 9 = .ok (.iconst 1, 1) := by decide +kernel
theorem dX5_setReserve_10 : decode cX5_setReserve 10 = .ok (.goto 30, 3) := by decide +kernel
theorem dX5_setReserve_13 : decode cX5_setReserve 13 = .ok (.iload_n 2, 1) := by decide +kernel
theorem dX5_setReserve_14 : decode cX5_setReserve 14 = .ok (.iconst 0, 1) := by decide +kernel
theorem dX5_setReserve_15 : decode cX5_setReserve 15 = .ok (.sipush 1000, 3) := by decide +kernel
theorem dX5_setReserve_18 : decode cX5_setReserve 18 = .ok (.invokestatic 83, 3) := by decide +kernel
theorem dX5_setReserve_21 : decode cX5_setReserve 21 = .ok (.ifCond .eq 18, 3) := by decide +kernel
theorem dX5_setReserve_24 : decode cX5_setReserve 24 = .ok (.iload_n 3, 1) := by decide +kernel
theorem dX5_setReserve_25 : decode cX5_setReserve 25 = .ok (.iconst 1, 1) := by decide +kernel
theorem dX5_setReserve_26 : decode cX5_setReserve 26 = .ok (.sipush 180, 3) := by decide +kernel
theorem dX5_setReserve_29 : decode cX5_setReserve 29 = .ok (.invokestatic 83, 3) := by decide +kernel
theorem dX5_setReserve_32 : decode cX5_setReserve 32 = .ok (.ifCond .eq 7, 3) := by decide +kernel
theorem dX5_setReserve_35 : decode cX5_setReserve 35 = .ok (.iconst 0, 1) := by decide +kernel
theorem dX5_setReserve_36 : decode cX5_setReserve 36 = .ok (.goto 4, 3) := by decide +kernel
theorem dX5_setReserve_39 : decode cX5_setReserve 39 = .ok (.iconst 2, 1) := by decide +kernel
theorem dX5_setReserve_40 : decode cX5_setReserve 40 = .ok (.invokevirtual 87, 3) := by decide +kernel
theorem dX5_setReserve_43 : decode cX5_setReserve 43 = .ok (.ifCond .eq 17, 3) := by decide +kernel
theorem dX5_setReserve_46 : decode cX5_setReserve 46 = .ok (.aload_n 0, 1) := by decide +kernel
theorem dX5_setReserve_47 : decode cX5_setReserve 47 = .ok (.getfield 22, 3) := by decide +kernel
theorem dX5_setReserve_50 : decode cX5_setReserve 50 = .ok (.iload_n 1, 1) := by decide +kernel
theorem dX5_setReserve_51 : decode cX5_setReserve 51 = .ok (.iload_n 2, 1) := by decide +kernel
theorem dX5_setReserve_52 : decode cX5_setReserve 52 = .ok (.iastore, 1) := by decide +kernel
theorem dX5_setReserve_53 : decode cX5_setReserve 53 = .ok (.aload_n 0, 1) := by decide +kernel
theorem dX5_setReserve_54 : decode cX5_setReserve 54 = .ok (.getfield 25, 3) := by decide +kernel
theorem dX5_setReserve_57 : decode cX5_setReserve 57 = .ok (.iload_n 1, 1) := by decide +kernel
theorem dX5_setReserve_58 : decode cX5_setReserve 58 = .ok (.iload_n 3, 1) := by decide +kernel
theorem dX5_setReserve_59 : decode cX5_setReserve 59 = .ok (.iastore, 1) := by decide +kernel
theorem dX5_setReserve_60 : decode cX5_setReserve 60 = .ok (.return_, 1) := by decide +kernel
set_option maxRecDepth 20000 in
theorem ggX5_setShare_X5_isKind : GoodIn wsX5_setShare wsX5_isKind := goodIn_r _ [6, 7, 8, 5, 9] (by decide +kernel) (by decide +kernel)
set_option maxRecDepth 20000 in
theorem gX5_setShare_X5_isKind : GoodIn wsX5_setShare (va_wsS RX5 95 yX5_isKind wsX5_isKind) := goodIn_app (goodIn_of _ (by decide +kernel)) ggX5_setShare_X5_isKind
set_option maxRecDepth 20000 in
theorem ggX5_setShare_X5_in : GoodIn wsX5_setShare wsX5_in := goodIn_r _ [9] (by decide +kernel) (by decide +kernel)
set_option maxRecDepth 20000 in
theorem gX5_setShare_X5_in : GoodIn wsX5_setShare (va_wsS RX5 83 yX5_in wsX5_in) := goodIn_app (goodIn_of _ (by decide +kernel)) ggX5_setShare_X5_in
set_option maxRecDepth 20000 in
theorem ggX5_setShare_X5_holds : GoodIn wsX5_setShare wsX5_holds := goodIn_r _ [13, 14, 27, 28, 29, 30, 31, 32, 33, 34, 35, 36, 37, 38, 39, 40, 41, 42, 43, 44, 45, 46, 47, 48, 49, 50, 51, 52, 53, 54, 55, 56, 57] (by decide +kernel) (by decide +kernel)
set_option maxRecDepth 20000 in
theorem gX5_setShare_X5_holds : GoodIn wsX5_setShare (wsV RX5 87 RX5 yX5_holds wsX5_holds) := goodIn_app (goodIn_of _ (by decide +kernel)) ggX5_setShare_X5_holds
set_option maxRecDepth 20000 in
theorem ggX5_setShare_Jxf58ca_floatToIntBits_5c35a : GoodIn wsX5_setShare wsJxf58ca_floatToIntBits_5c35a := goodIn_r _ [18, 19, 20, 21, 22, 23, 24, 25, 17, 26] (by decide +kernel) (by decide +kernel)
set_option maxRecDepth 20000 in
theorem gX5_setShare_Jxf58ca_floatToIntBits_5c35a : GoodIn wsX5_setShare (va_wsS RX5 99 yJxf58ca_floatToIntBits_5c35a wsJxf58ca_floatToIntBits_5c35a) := goodIn_app (goodIn_of _ (by decide +kernel)) ggX5_setShare_Jxf58ca_floatToIntBits_5c35a
theorem dX5_setShare_0 : decode cX5_setShare 0 = .ok (.aload_n 0, 1) := by decide +kernel
theorem dX5_setShare_1 : decode cX5_setShare 1 = .ok (.iload_n 1, 1) := by decide +kernel
theorem dX5_setShare_2 : decode cX5_setShare 2 = .ok (.invokestatic 95, 3) := by decide +kernel
theorem dX5_setShare_5 : decode cX5_setShare 5 = .ok (.ifCond .ne 7, 3) := by decide +kernel
theorem dX5_setShare_8 : decode cX5_setShare 8 = .ok (.iconst 1, 1) := by decide +kernel
theorem dX5_setShare_9 : decode cX5_setShare 9 = .ok (.goto 19, 3) := by decide +kernel
theorem dX5_setShare_12 : decode cX5_setShare 12 = .ok (.iload_n 2, 1) := by decide +kernel
theorem dX5_setShare_13 : decode cX5_setShare 13 = .ok (.iconst 0, 1) := by decide +kernel
theorem dX5_setShare_14 : decode cX5_setShare 14 = .ok (.sipush 999, 3) := by decide +kernel
theorem dX5_setShare_17 : decode cX5_setShare 17 = .ok (.invokestatic 83, 3) := by decide +kernel
theorem dX5_setShare_20 : decode cX5_setShare 20 = .ok (.ifCond .eq 7, 3) := by decide +kernel
theorem dX5_setShare_23 : decode cX5_setShare 23 = .ok (.iconst 0, 1) := by decide +kernel
theorem dX5_setShare_24 : decode cX5_setShare 24 = .ok (.goto 4, 3) := by decide +kernel
theorem dX5_setShare_27 : decode cX5_setShare 27 = .ok (.iconst 2, 1) := by decide +kernel
theorem dX5_setShare_28 : decode cX5_setShare 28 = .ok (.invokevirtual 87, 3) := by decide +kernel
theorem dX5_setShare_31 : decode cX5_setShare 31 = .ok (.ifCond .ne 5, 3) := by decide +kernel
theorem dX5_setShare_34 : decode cX5_setShare 34 = .ok (.iconst 0, 1) := by decide +kernel
theorem dX5_setShare_35 : decode cX5_setShare 35 = .ok (.ireturn, 1) := by decide +kernel
theorem dX5_setShare_36 : decode cX5_setShare 36 = .ok (.aload_n 0, 1) := by decide +kernel
theorem dX5_setShare_37 : decode cX5_setShare 37 = .ok (.getfield 34, 3) := by decide +kernel
theorem dX5_setShare_40 : decode cX5_setShare 40 = .ok (.iload_n 1, 1) := by decide +kernel
theorem dX5_setShare_41 : decode cX5_setShare 41 = .ok (.iload_n 2, 1) := by decide +kernel
theorem dX5_setShare_42 : decode cX5_setShare 42 = .ok (.i2f, 1) := by decide +kernel
theorem dX5_setShare_43 : decode cX5_setShare 43 = .ok (.ldc 98, 2) := by decide +kernel
theorem dX5_setShare_45 : decode cX5_setShare 45 = .ok (.fdiv, 1) := by decide +kernel
theorem dX5_setShare_46 : decode cX5_setShare 46 = .ok (.fastore, 1) := by decide +kernel
theorem dX5_setShare_47 : decode cX5_setShare 47 = .ok (.aload_n 0, 1) := by decide +kernel
theorem dX5_setShare_48 : decode cX5_setShare 48 = .ok (.getfield 34, 3) := by decide +kernel
theorem dX5_setShare_51 : decode cX5_setShare 51 = .ok (.iload_n 1, 1) := by decide +kernel
theorem dX5_setShare_52 : decode cX5_setShare 52 = .ok (.faload, 1) := by decide +kernel
theorem dX5_setShare_53 : decode cX5_setShare 53 = .ok (.invokestatic 99, 3) := by decide +kernel
theorem dX5_setShare_56 : decode cX5_setShare 56 = .ok (.ireturn, 1) := by decide +kernel
set_option maxRecDepth 20000 in
theorem ggX5_setTax_X5_in : GoodIn wsX5_setTax wsX5_in := goodIn_r _ [5] (by decide +kernel) (by decide +kernel)
set_option maxRecDepth 20000 in
theorem gX5_setTax_X5_in : GoodIn wsX5_setTax (va_wsS RX5 83 yX5_in wsX5_in) := goodIn_app (goodIn_of _ (by decide +kernel)) ggX5_setTax_X5_in
set_option maxRecDepth 20000 in
theorem ggX5_setTax_X5_holds : GoodIn wsX5_setTax wsX5_holds := goodIn_r _ [9, 10, 11, 12, 13, 14, 15, 16, 17, 18, 19, 20, 21, 22, 23, 24, 25, 26, 27, 28, 29, 30, 31, 32, 33, 34, 35, 36, 37, 38, 39, 40, 41] (by decide +kernel) (by decide +kernel)
set_option maxRecDepth 20000 in
theorem gX5_setTax_X5_holds : GoodIn wsX5_setTax (wsV RX5 87 RX5 yX5_holds wsX5_holds) := goodIn_app (goodIn_of _ (by decide +kernel)) ggX5_setTax_X5_holds
theorem dX5_setTax_0 : decode cX5_setTax 0 = .ok (.aload_n 0, 1) := by decide +kernel
theorem dX5_setTax_1 : decode cX5_setTax 1 = .ok (.iload_n 1, 1) := by decide +kernel
theorem dX5_setTax_2 : decode cX5_setTax 2 = .ok (.iconst 0, 1) := by decide +kernel
theorem dX5_setTax_3 : decode cX5_setTax 3 = .ok (.sipush 500, 3) := by decide +kernel
theorem dX5_setTax_6 : decode cX5_setTax 6 = .ok (.invokestatic 83, 3) := by decide +kernel
theorem dX5_setTax_9 : decode cX5_setTax 9 = .ok (.ifCond .eq 7, 3) := by decide +kernel
theorem dX5_setTax_12 : decode cX5_setTax 12 = .ok (.iconst 0, 1) := by decide +kernel
theorem dX5_setTax_13 : decode cX5_setTax 13 = .ok (.goto 4, 3) := by decide +kernel
theorem dX5_setTax_16 : decode cX5_setTax 16 = .ok (.iconst 1, 1) := by decide +kernel
theorem dX5_setTax_17 : decode cX5_setTax 17 = .ok (.invokevirtual 87, 3) := by decide +kernel
theorem dX5_setTax_20 : decode cX5_setTax 20 = .ok (.ifCond .ne 5, 3) := by decide +kernel
theorem dX5_setTax_23 : decode cX5_setTax 23 = .ok (.iconst 0, 1) := by decide +kernel
theorem dX5_setTax_24 : decode cX5_setTax 24 = .ok (.ireturn, 1) := by decide +kernel
theorem dX5_setTax_25 : decode cX5_setTax 25 = .ok (.aload_n 0, 1) := by decide +kernel
theorem dX5_setTax_26 : decode cX5_setTax 26 = .ok (.getfield 105, 3) := by decide +kernel
theorem dX5_setTax_29 : decode cX5_setTax 29 = .ok (.istore_n 2, 1) := by decide +kernel
theorem dX5_setTax_30 : decode cX5_setTax 30 = .ok (.aload_n 0, 1) := by decide +kernel
theorem dX5_setTax_31 : decode cX5_setTax 31 = .ok (.iload_n 1, 1) := by decide +kernel
theorem dX5_setTax_32 : decode cX5_setTax 32 = .ok (.putfield 105, 3) := by decide +kernel
theorem dX5_setTax_35 : decode cX5_setTax 35 = .ok (.iload_n 2, 1) := by decide +kernel
theorem dX5_setTax_36 : decode cX5_setTax 36 = .ok (.ireturn, 1) := by decide +kernel
theorem dX5_feeOn_0 : decode cX5_feeOn 0 = .ok (.iload_n 0, 1) := by decide +kernel
theorem dX5_feeOn_1 : decode cX5_feeOn 1 = .ok (.i2f, 1) := by decide +kernel
theorem dX5_feeOn_2 : decode cX5_feeOn 2 = .ok (.fload_n 1, 1) := by decide +kernel
theorem dX5_feeOn_3 : decode cX5_feeOn 3 = .ok (.fmul, 1) := by decide +kernel
theorem dX5_feeOn_4 : decode cX5_feeOn 4 = .ok (.f2i, 1) := by decide +kernel
theorem dX5_feeOn_5 : decode cX5_feeOn 5 = .ok (.ireturn, 1) := by decide +kernel
set_option maxRecDepth 20000 in
theorem ggX5_settles_X5_feeOn : GoodIn wsX5_settles wsX5_feeOn := goodIn_r _ [22] (by decide +kernel) (by decide +kernel)
set_option maxRecDepth 20000 in
theorem gX5_settles_X5_feeOn : GoodIn wsX5_settles (va_wsS RX5 108 yX5_feeOn wsX5_feeOn) := goodIn_app (goodIn_of _ (by decide +kernel)) ggX5_settles_X5_feeOn
theorem dX5_settles_0 : decode cX5_settles 0 = .ok (.iload_n 3, 1) := by decide +kernel
theorem dX5_settles_1 : decode cX5_settles 1 = .ok (.aload_n 0, 1) := by decide +kernel
theorem dX5_settles_2 : decode cX5_settles 2 = .ok (.getfield 105, 3) := by decide +kernel
theorem dX5_settles_5 : decode cX5_settles 5 = .ok (.imul, 1) := by decide +kernel
theorem dX5_settles_6 : decode cX5_settles 6 = .ok (.sipush 1000, 3) := by decide +kernel
theorem dX5_settles_9 : decode cX5_settles 9 = .ok (.idiv, 1) := by decide +kernel
theorem dX5_settles_10 : decode cX5_settles 10 = .ok (.istore 4, 2) := by decide +kernel
theorem dX5_settles_12 : decode cX5_settles 12 = .ok (.iload_n 3, 1) := by decide +kernel
theorem dX5_settles_13 : decode cX5_settles 13 = .ok (.aload_n 0, 1) := by decide +kernel
theorem dX5_settles_14 : decode cX5_settles 14 = .ok (.getfield 34, 3) := by decide +kernel
theorem dX5_settles_17 : decode cX5_settles 17 = .ok (.iload_n 2, 1) := by decide +kernel
theorem dX5_settles_18 : decode cX5_settles 18 = .ok (.faload, 1) := by decide +kernel
theorem dX5_settles_19 : decode cX5_settles 19 = .ok (.invokestatic 108, 3) := by decide +kernel
theorem dX5_settles_22 : decode cX5_settles 22 = .ok (.istore 5, 2) := by decide +kernel
theorem dX5_settles_24 : decode cX5_settles 24 = .ok (.iload 5, 2) := by decide +kernel
theorem dX5_settles_26 : decode cX5_settles 26 = .ok (.iload 4, 2) := by decide +kernel
theorem dX5_settles_28 : decode cX5_settles 28 = .ok (.iadd, 1) := by decide +kernel
theorem dX5_settles_29 : decode cX5_settles 29 = .ok (.iload_n 3, 1) := by decide +kernel
theorem dX5_settles_30 : decode cX5_settles 30 = .ok (.if_icmp .le 10, 3) := by decide +kernel
theorem dX5_settles_33 : decode cX5_settles 33 = .ok (.iload_n 3, 1) := by decide +kernel
theorem dX5_settles_34 : decode cX5_settles 34 = .ok (.iload 4, 2) := by decide +kernel
theorem dX5_settles_36 : decode cX5_settles 36 = .ok (.isub, 1) := by decide +kernel
theorem dX5_settles_37 : decode cX5_settles 37 = .ok (.goto 5, 3) := by decide +kernel
theorem dX5_settles_40 : decode cX5_settles 40 = .ok (.iload 5, 2) := by decide +kernel
theorem dX5_settles_42 : decode cX5_settles 42 = .ok (.istore 5, 2) := by decide +kernel
theorem dX5_settles_44 : decode cX5_settles 44 = .ok (.iload_n 3, 1) := by decide +kernel
theorem dX5_settles_45 : decode cX5_settles 45 = .ok (.iload 5, 2) := by decide +kernel
theorem dX5_settles_47 : decode cX5_settles 47 = .ok (.isub, 1) := by decide +kernel
theorem dX5_settles_48 : decode cX5_settles 48 = .ok (.iload 4, 2) := by decide +kernel
theorem dX5_settles_50 : decode cX5_settles 50 = .ok (.isub, 1) := by decide +kernel
theorem dX5_settles_51 : decode cX5_settles 51 = .ok (.istore 6, 2) := by decide +kernel
theorem dX5_settles_53 : decode cX5_settles 53 = .ok (.iload 6, 2) := by decide +kernel
theorem dX5_settles_55 : decode cX5_settles 55 = .ok (.i2l, 1) := by decide +kernel
theorem dX5_settles_56 : decode cX5_settles 56 = .ok (.aload_n 0, 1) := by decide +kernel
theorem dX5_settles_57 : decode cX5_settles 57 = .ok (.getfield 22, 3) := by decide +kernel
theorem dX5_settles_60 : decode cX5_settles 60 = .ok (.iload_n 1, 1) := by decide +kernel
theorem dX5_settles_61 : decode cX5_settles 61 = .ok (.iaload, 1) := by decide +kernel
theorem dX5_settles_62 : decode cX5_settles 62 = .ok (.i2l, 1) := by decide +kernel
theorem dX5_settles_63 : decode cX5_settles 63 = .ok (.lmul, 1) := by decide +kernel
theorem dX5_settles_64 : decode cX5_settles 64 = .ok (.ldc2_w 112, 3) := by decide +kernel
theorem dX5_settles_67 : decode cX5_settles 67 = .ok (.ldiv, 1) := by decide +kernel
theorem dX5_settles_68 : decode cX5_settles 68 = .ok (.l2i, 1) := by decide +kernel
theorem dX5_settles_69 : decode cX5_settles 69 = .ok (.istore 7, 2) := by decide +kernel
theorem dX5_settles_71 : decode cX5_settles 71 = .ok (.aload_n 0, 1) := by decide +kernel
theorem dX5_settles_72 : decode cX5_settles 72 = .ok (.getfield 38, 3) := by decide +kernel
theorem dX5_settles_75 : decode cX5_settles 75 = .ok (.aload_n 0, 1) := by decide +kernel
theorem dX5_settles_76 : decode cX5_settles 76 = .ok (.getfield 114, 3) := by decide +kernel
theorem dX5_settles_79 : decode cX5_settles 79 = .ok (.iload_n 1, 1) := by decide +kernel
theorem dX5_settles_80 : decode cX5_settles 80 = .ok (.iastore, 1) := by decide +kernel
theorem dX5_settles_81 : decode cX5_settles 81 = .ok (.aload_n 0, 1) := by decide +kernel
theorem dX5_settles_82 : decode cX5_settles 82 = .ok (.getfield 41, 3) := by decide +kernel
theorem dX5_settles_85 : decode cX5_settles 85 = .ok (.aload_n 0, 1) := by decide +kernel
theorem dX5_settles_86 : decode cX5_settles 86 = .ok (.getfield 114, 3) := by decide +kernel
theorem dX5_settles_89 : decode cX5_settles 89 = .ok (.iload_n 3, 1) := by decide +kernel
theorem dX5_settles_90 : decode cX5_settles 90 = .ok (.iastore, 1) := by decide +kernel
theorem dX5_settles_91 : decode cX5_settles 91 = .ok (.aload_n 0, 1) := by decide +kernel
theorem dX5_settles_92 : decode cX5_settles 92 = .ok (.getfield 47, 3) := by decide +kernel
theorem dX5_settles_95 : decode cX5_settles 95 = .ok (.aload_n 0, 1) := by decide +kernel
theorem dX5_settles_96 : decode cX5_settles 96 = .ok (.getfield 114, 3) := by decide +kernel
theorem dX5_settles_99 : decode cX5_settles 99 = .ok (.aload_n 0, 1) := by decide +kernel
theorem dX5_settles_100 : decode cX5_settles 100 = .ok (.getfield 34, 3) := by decide +kernel
theorem dX5_settles_103 : decode cX5_settles 103 = .ok (.iload_n 2, 1) := by decide +kernel
theorem dX5_settles_104 : decode cX5_settles 104 = .ok (.faload, 1) := by decide +kernel
theorem dX5_settles_105 : decode cX5_settles 105 = .ok (.fastore, 1) := by decide +kernel
theorem dX5_settles_106 : decode cX5_settles 106 = .ok (.aload_n 0, 1) := by decide +kernel
theorem dX5_settles_107 : decode cX5_settles 107 = .ok (.getfield 50, 3) := by decide +kernel
theorem dX5_settles_110 : decode cX5_settles 110 = .ok (.aload_n 0, 1) := by decide +kernel
theorem dX5_settles_111 : decode cX5_settles 111 = .ok (.getfield 114, 3) := by decide +kernel
theorem dX5_settles_114 : decode cX5_settles 114 = .ok (.aload_n 0, 1) := by decide +kernel
theorem dX5_settles_115 : decode cX5_settles 115 = .ok (.getfield 105, 3) := by decide +kernel
theorem dX5_settles_118 : decode cX5_settles 118 = .ok (.iastore, 1) := by decide +kernel
theorem dX5_settles_119 : decode cX5_settles 119 = .ok (.aload_n 0, 1) := by decide +kernel
theorem dX5_settles_120 : decode cX5_settles 120 = .ok (.getfield 53, 3) := by decide +kernel
theorem dX5_settles_123 : decode cX5_settles 123 = .ok (.aload_n 0, 1) := by decide +kernel
theorem dX5_settles_124 : decode cX5_settles 124 = .ok (.getfield 114, 3) := by decide +kernel
theorem dX5_settles_127 : decode cX5_settles 127 = .ok (.iload 5, 2) := by decide +kernel
theorem dX5_settles_129 : decode cX5_settles 129 = .ok (.iastore, 1) := by decide +kernel
theorem dX5_settles_130 : decode cX5_settles 130 = .ok (.aload_n 0, 1) := by decide +kernel
theorem dX5_settles_131 : decode cX5_settles 131 = .ok (.getfield 59, 3) := by decide +kernel
theorem dX5_settles_134 : decode cX5_settles 134 = .ok (.aload_n 0, 1) := by decide +kernel
theorem dX5_settles_135 : decode cX5_settles 135 = .ok (.getfield 114, 3) := by decide +kernel
theorem dX5_settles_138 : decode cX5_settles 138 = .ok (.iload 7, 2) := by decide +kernel
theorem dX5_settles_140 : decode cX5_settles 140 = .ok (.iastore, 1) := by decide +kernel
theorem dX5_settles_141 : decode cX5_settles 141 = .ok (.aload_n 0, 1) := by decide +kernel
theorem dX5_settles_142 : decode cX5_settles 142 = .ok (.getfield 62, 3) := by decide +kernel
theorem dX5_settles_145 : decode cX5_settles 145 = .ok (.aload_n 0, 1) := by decide +kernel
theorem dX5_settles_146 : decode cX5_settles 146 = .ok (.getfield 114, 3) := by decide +kernel
theorem dX5_settles_149 : decode cX5_settles 149 = .ok (.aload_n 0, 1) := by decide +kernel
theorem dX5_settles_150 : decode cX5_settles 150 = .ok (.getfield 117, 3) := by decide +kernel
theorem dX5_settles_153 : decode cX5_settles 153 = .ok (.aload_n 0, 1) := by decide +kernel
theorem dX5_settles_154 : decode cX5_settles 154 = .ok (.getfield 25, 3) := by decide +kernel
theorem dX5_settles_157 : decode cX5_settles 157 = .ok (.iload_n 1, 1) := by decide +kernel
theorem dX5_settles_158 : decode cX5_settles 158 = .ok (.iaload, 1) := by decide +kernel
theorem dX5_settles_159 : decode cX5_settles 159 = .ok (.iadd, 1) := by decide +kernel
theorem dX5_settles_160 : decode cX5_settles 160 = .ok (.iastore, 1) := by decide +kernel
theorem dX5_settles_161 : decode cX5_settles 161 = .ok (.aload_n 0, 1) := by decide +kernel
theorem dX5_settles_162 : decode cX5_settles 162 = .ok (.getfield 28, 3) := by decide +kernel
theorem dX5_settles_165 : decode cX5_settles 165 = .ok (.iload_n 1, 1) := by decide +kernel
theorem dX5_settles_166 : decode cX5_settles 166 = .ok (.dup2, 1) := by decide +kernel
theorem dX5_settles_167 : decode cX5_settles 167 = .ok (.iaload, 1) := by decide +kernel
theorem dX5_settles_168 : decode cX5_settles 168 = .ok (.iload 6, 2) := by decide +kernel
theorem dX5_settles_170 : decode cX5_settles 170 = .ok (.iload 7, 2) := by decide +kernel
theorem dX5_settles_172 : decode cX5_settles 172 = .ok (.isub, 1) := by decide +kernel
theorem dX5_settles_173 : decode cX5_settles 173 = .ok (.iadd, 1) := by decide +kernel
theorem dX5_settles_174 : decode cX5_settles 174 = .ok (.iastore, 1) := by decide +kernel
theorem dX5_settles_175 : decode cX5_settles 175 = .ok (.aload_n 0, 1) := by decide +kernel
theorem dX5_settles_176 : decode cX5_settles 176 = .ok (.dup, 1) := by decide +kernel
theorem dX5_settles_177 : decode cX5_settles 177 = .ok (.getfield 120, 3) := by decide +kernel
theorem dX5_settles_180 : decode cX5_settles 180 = .ok (.iload_n 3, 1) := by decide +kernel
theorem dX5_settles_181 : decode cX5_settles 181 = .ok (.iadd, 1) := by decide +kernel
theorem dX5_settles_182 : decode cX5_settles 182 = .ok (.putfield 120, 3) := by decide +kernel
theorem dX5_settles_185 : decode cX5_settles 185 = .ok (.aload_n 0, 1) := by decide +kernel
theorem dX5_settles_186 : decode cX5_settles 186 = .ok (.dup, 1) := by decide +kernel
theorem dX5_settles_187 : decode cX5_settles 187 = .ok (.getfield 123, 3) := by decide +kernel
theorem dX5_settles_190 : decode cX5_settles 190 = .ok (.iload 5, 2) := by decide +kernel
theorem dX5_settles_192 : decode cX5_settles 192 = .ok (.iadd, 1) := by decide +kernel
theorem dX5_settles_193 : decode cX5_settles 193 = .ok (.putfield 123, 3) := by decide +kernel
theorem dX5_settles_196 : decode cX5_settles 196 = .ok (.aload_n 0, 1) := by decide +kernel
theorem dX5_settles_197 : decode cX5_settles 197 = .ok (.dup, 1) := by decide +kernel
theorem dX5_settles_198 : decode cX5_settles 198 = .ok (.getfield 126, 3) := by decide +kernel
theorem dX5_settles_201 : decode cX5_settles 201 = .ok (.iload 4, 2) := by decide +kernel
theorem dX5_settles_203 : decode cX5_settles 203 = .ok (.iadd, 1) := by decide +kernel
theorem dX5_settles_204 : decode cX5_settles 204 = .ok (.putfield 126, 3) := by decide +kernel
theorem dX5_settles_207 : decode cX5_settles 207 = .ok (.aload_n 0, 1) := by decide +kernel
theorem dX5_settles_208 : decode cX5_settles 208 = .ok (.dup, 1) := by decide +kernel
theorem dX5_settles_209 : decode cX5_settles 209 = .ok (.getfield 114, 3) := by decide +kernel
theorem dX5_settles_212 : decode cX5_settles 212 = .ok (.iconst 1, 1) := by decide +kernel
theorem dX5_settles_213 : decode cX5_settles 213 = .ok (.iadd, 1) := by decide +kernel
theorem dX5_settles_214 : decode cX5_settles 214 = .ok (.putfield 114, 3) := by decide +kernel
theorem dX5_settles_217 : decode cX5_settles 217 = .ok (.return_, 1) := by decide +kernel
set_option maxRecDepth 20000 in
theorem ggX5_sell_X5_isSeller : GoodIn wsX5_sell wsX5_isSeller := goodIn_r _ [7, 8, 9, 10, 6, 11, 44, 45, 46, 47, 48, 49, 50, 51, 52, 53, 54, 55, 56, 57, 58, 59, 60, 61, 62, 63, 64, 65, 66, 67, 68, 69, 70, 71, 72, 73, 74] (by decide +kernel) (by decide +kernel)
set_option maxRecDepth 20000 in
theorem gX5_sell_X5_isSeller : GoodIn wsX5_sell (wsV RX5 91 RX5 yX5_isSeller wsX5_isSeller) := goodIn_app (goodIn_of _ (by decide +kernel)) ggX5_sell_X5_isSeller
set_option maxRecDepth 20000 in
theorem ggX5_sell_X5_isKind : GoodIn wsX5_sell wsX5_isKind := goodIn_r _ [14, 9, 10, 6, 11] (by decide +kernel) (by decide +kernel)
set_option maxRecDepth 20000 in
theorem gX5_sell_X5_isKind : GoodIn wsX5_sell (va_wsS RX5 95 yX5_isKind wsX5_isKind) := goodIn_app (goodIn_of _ (by decide +kernel)) ggX5_sell_X5_isKind
set_option maxRecDepth 20000 in
theorem ggX5_sell_X5_in : GoodIn wsX5_sell wsX5_in := goodIn_r _ [11] (by decide +kernel) (by decide +kernel)
set_option maxRecDepth 20000 in
theorem gX5_sell_X5_in : GoodIn wsX5_sell (va_wsS RX5 83 yX5_in wsX5_in) := goodIn_app (goodIn_of _ (by decide +kernel)) ggX5_sell_X5_in
set_option maxRecDepth 20000 in
theorem ggX5_sell_X5_holds : GoodIn wsX5_sell wsX5_holds := goodIn_r _ [18, 19, 44, 45, 46, 47, 48, 49, 50, 51, 52, 53, 54, 55, 56, 57, 58, 59, 60, 61, 62, 63, 64, 65, 66, 67, 68, 69, 70, 71, 72, 73, 74] (by decide +kernel) (by decide +kernel)
set_option maxRecDepth 20000 in
theorem gX5_sell_X5_holds : GoodIn wsX5_sell (wsV RX5 87 RX5 yX5_holds wsX5_holds) := goodIn_app (goodIn_of _ (by decide +kernel)) ggX5_sell_X5_holds
set_option maxRecDepth 20000 in
theorem ggX5_sell_X5_settles : GoodIn wsX5_sell wsX5_settles := goodIn_r _ [23, 24, 25, 26, 27, 28, 2, 29, 30, 31, 32, 33, 34, 35, 36, 37, 38, 39, 40, 41, 42, 6, 43, 44, 45, 46, 47, 48, 49, 50, 51, 52, 53, 54, 55, 56, 57, 58, 59, 60, 61, 62, 63, 64, 65, 66, 67, 68, 69, 70, 71, 72, 73, 74] (by decide +kernel) (by decide +kernel)
set_option maxRecDepth 20000 in
theorem gX5_sell_X5_settles : GoodIn wsX5_sell (wsV RX5 129 RX5 yX5_settles wsX5_settles) := goodIn_app (goodIn_of _ (by decide +kernel)) ggX5_sell_X5_settles
theorem dX5_sell_0 : decode cX5_sell 0 = .ok (.aload_n 0, 1) := by decide +kernel
theorem dX5_sell_1 : decode cX5_sell 1 = .ok (.iload_n 1, 1) := by decide +kernel
theorem dX5_sell_2 : decode cX5_sell 2 = .ok (.invokevirtual 91, 3) := by decide +kernel
theorem dX5_sell_5 : decode cX5_sell 5 = .ok (.ifCond .eq 14, 3) := by decide +kernel
theorem dX5_sell_8 : decode cX5_sell 8 = .ok (.iload_n 2, 1) := by decide +kernel
theorem dX5_sell_9 : decode cX5_sell 9 = .ok (.invokestatic 95, 3) := by decide +kernel
theorem dX5_sell_12 : decode cX5_sell 12 = .ok (.ifCond .eq 7, 3) := by decide +kernel
theorem dX5_sell_15 : decode cX5_sell 15 = .ok (.iconst 1, 1) := by decide +kernel
theorem dX5_sell_16 : decode cX5_sell 16 = .ok (.goto 4, 3) := by decide +kernel
theorem dX5_sell_19 : decode cX5_sell 19 = .ok (.iconst 0, 1) := by decide +kernel
theorem dX5_sell_20 : decode cX5_sell 20 = .ok (.istore 4, 2) := by decide +kernel
theorem dX5_sell_22 : decode cX5_sell 22 = .ok (.aload_n 0, 1) := by decide +kernel
theorem dX5_sell_23 : decode cX5_sell 23 = .ok (.iload 4, 2) := by decide +kernel
theorem dX5_sell_25 : decode cX5_sell 25 = .ok (.ifCond .ne 7, 3) := by decide +kernel
theorem dX5_sell_28 : decode cX5_sell 28 = .ok (.iconst 1, 1) := by decide +kernel
theorem dX5_sell_29 : decode cX5_sell 29 = .ok (.goto 31, 3) := by decide +kernel
theorem dX5_sell_32 : decode cX5_sell 32 = .ok (.iload_n 3, 1) := by decide +kernel
theorem dX5_sell_33 : decode cX5_sell 33 = .ok (.iconst 1, 1) := by decide +kernel
theorem dX5_sell_34 : decode cX5_sell 34 = .ok (.ldc 94, 2) := by decide +kernel
theorem dX5_sell_36 : decode cX5_sell 36 = .ok (.invokestatic 83, 3) := by decide +kernel
theorem dX5_sell_39 : decode cX5_sell 39 = .ok (.ifCond .ne 7, 3) := by decide +kernel
theorem dX5_sell_42 : decode cX5_sell 42 = .ok (.iconst 2, 1) := by decide +kernel
theorem dX5_sell_43 : decode cX5_sell 43 = .ok (.goto 17, 3) := by decide +kernel
theorem dX5_sell_46 : decode cX5_sell 46 = .ok (.aload_n 0, 1) := by decide +kernel
theorem dX5_sell_47 : decode cX5_sell 47 = .ok (.getfield 114, 3) := by decide +kernel
theorem dX5_sell_50 : decode cX5_sell 50 = .ok (.bipush 100, 2) := by decide +kernel
theorem dX5_sell_52 : decode cX5_sell 52 = .ok (.if_icmp .ne 7, 3) := by decide +kernel
theorem dX5_sell_55 : decode cX5_sell 55 = .ok (.iconst 3, 1) := by decide +kernel
theorem dX5_sell_56 : decode cX5_sell 56 = .ok (.goto 4, 3) := by decide +kernel
theorem dX5_sell_59 : decode cX5_sell 59 = .ok (.iconst 0, 1) := by decide +kernel
theorem dX5_sell_60 : decode cX5_sell 60 = .ok (.invokevirtual 87, 3) := by decide +kernel
theorem dX5_sell_63 : decode cX5_sell 63 = .ok (.ifCond .ne 5, 3) := by decide +kernel
theorem dX5_sell_66 : decode cX5_sell 66 = .ok (.iconst 0, 1) := by decide +kernel
theorem dX5_sell_67 : decode cX5_sell 67 = .ok (.ireturn, 1) := by decide +kernel
theorem dX5_sell_68 : decode cX5_sell 68 = .ok (.aload_n 0, 1) := by decide +kernel
theorem dX5_sell_69 : decode cX5_sell 69 = .ok (.iload_n 1, 1) := by decide +kernel
theorem dX5_sell_70 : decode cX5_sell 70 = .ok (.iload_n 2, 1) := by decide +kernel
theorem dX5_sell_71 : decode cX5_sell 71 = .ok (.iload_n 3, 1) := by decide +kernel
theorem dX5_sell_72 : decode cX5_sell 72 = .ok (.invokevirtual 129, 3) := by decide +kernel
theorem dX5_sell_75 : decode cX5_sell 75 = .ok (.aload_n 0, 1) := by decide +kernel
theorem dX5_sell_76 : decode cX5_sell 76 = .ok (.getfield 114, 3) := by decide +kernel
theorem dX5_sell_79 : decode cX5_sell 79 = .ok (.iconst 1, 1) := by decide +kernel
theorem dX5_sell_80 : decode cX5_sell 80 = .ok (.isub, 1) := by decide +kernel
theorem dX5_sell_81 : decode cX5_sell 81 = .ok (.ireturn, 1) := by decide +kernel
theorem dX5_many_0 : decode cX5_many 0 = .ok (.iconst 0, 1) := by decide +kernel
theorem dX5_many_1 : decode cX5_many 1 = .ok (.istore_n 1, 1) := by decide +kernel
theorem dX5_many_2 : decode cX5_many 2 = .ok (.iload_n 0, 1) := by decide +kernel
theorem dX5_many_3 : decode cX5_many 3 = .ok (.istore_n 2, 1) := by decide +kernel
theorem dX5_many_4 : decode cX5_many 4 = .ok (.iload_n 2, 1) := by decide +kernel
theorem dX5_many_5 : decode cX5_many 5 = .ok (.ifCond .eq 15, 3) := by decide +kernel
theorem dX5_many_8 : decode cX5_many 8 = .ok (.iinc 1 1, 3) := by decide +kernel
theorem dX5_many_11 : decode cX5_many 11 = .ok (.iload_n 2, 1) := by decide +kernel
theorem dX5_many_12 : decode cX5_many 12 = .ok (.iload_n 2, 1) := by decide +kernel
theorem dX5_many_13 : decode cX5_many 13 = .ok (.iconst 1, 1) := by decide +kernel
theorem dX5_many_14 : decode cX5_many 14 = .ok (.isub, 1) := by decide +kernel
theorem dX5_many_15 : decode cX5_many 15 = .ok (.iand, 1) := by decide +kernel
theorem dX5_many_16 : decode cX5_many 16 = .ok (.istore_n 2, 1) := by decide +kernel
theorem dX5_many_17 : decode cX5_many 17 = .ok (.goto (-13), 3) := by decide +kernel
theorem dX5_many_20 : decode cX5_many 20 = .ok (.iload_n 1, 1) := by decide +kernel
theorem dX5_many_21 : decode cX5_many 21 = .ok (.ireturn, 1) := by decide +kernel
set_option maxRecDepth 20000 in
theorem ggX5_order_X5_in : GoodIn wsX5_order wsX5_in := goodIn_r _ [7] (by decide +kernel) (by decide +kernel)
set_option maxRecDepth 20000 in
theorem gX5_order_X5_in : GoodIn wsX5_order (va_wsS RX5 83 yX5_in wsX5_in) := goodIn_app (goodIn_of _ (by decide +kernel)) ggX5_order_X5_in
set_option maxRecDepth 20000 in
theorem ggX5_order_X5_many : GoodIn wsX5_order wsX5_many := goodIn_r _ [10] (by decide +kernel) (by decide +kernel)
set_option maxRecDepth 20000 in
theorem gX5_order_X5_many : GoodIn wsX5_order (va_wsS RX5 133 yX5_many wsX5_many) := goodIn_app (goodIn_of _ (by decide +kernel)) ggX5_order_X5_many
set_option maxRecDepth 20000 in
theorem ggX5_order_X5_isKind : GoodIn wsX5_order wsX5_isKind := goodIn_r _ [13, 4, 5, 6, 7] (by decide +kernel) (by decide +kernel)
set_option maxRecDepth 20000 in
theorem gX5_order_X5_isKind : GoodIn wsX5_order (va_wsS RX5 95 yX5_isKind wsX5_isKind) := goodIn_app (goodIn_of _ (by decide +kernel)) ggX5_order_X5_isKind
set_option maxRecDepth 20000 in
theorem ggX5_order_X5_holds : GoodIn wsX5_order wsX5_holds := goodIn_r _ [17, 18, 43, 44, 45, 46, 47, 48, 49, 50, 51, 52, 53, 54, 55, 56, 57, 58, 59, 60, 61, 62, 63, 64, 65, 66, 67, 68, 69, 70, 71, 72, 73] (by decide +kernel) (by decide +kernel)
set_option maxRecDepth 20000 in
theorem gX5_order_X5_holds : GoodIn wsX5_order (wsV RX5 87 RX5 yX5_holds wsX5_holds) := goodIn_app (goodIn_of _ (by decide +kernel)) ggX5_order_X5_holds
set_option maxRecDepth 20000 in
theorem ggX5_order_X5_settles : GoodIn wsX5_order wsX5_settles := goodIn_r _ [22, 23, 24, 25, 26, 27, 3, 28, 29, 30, 31, 32, 33, 34, 35, 36, 37, 38, 39, 40, 41, 6, 42, 43, 44, 45, 46, 47, 48, 49, 50, 51, 52, 53, 54, 55, 56, 57, 58, 59, 60, 61, 62, 63, 64, 65, 66, 67, 68, 69, 70, 71, 72, 73] (by decide +kernel) (by decide +kernel)
set_option maxRecDepth 20000 in
theorem gX5_order_X5_settles : GoodIn wsX5_order (wsV RX5 129 RX5 yX5_settles wsX5_settles) := goodIn_app (goodIn_of _ (by decide +kernel)) ggX5_order_X5_settles
theorem dX5_order_0 : decode cX5_order 0 = .ok (.iload_n 1, 1) := by decide +kernel
theorem dX5_order_1 : decode cX5_order 1 = .ok (.iconst 1, 1) := by decide +kernel
theorem dX5_order_2 : decode cX5_order 2 = .ok (.sipush 255, 3) := by decide +kernel
theorem dX5_order_5 : decode cX5_order 5 = .ok (.invokestatic 83, 3) := by decide +kernel
theorem dX5_order_8 : decode cX5_order 8 = .ok (.ifCond .eq 17, 3) := by decide +kernel
theorem dX5_order_11 : decode cX5_order 11 = .ok (.iload_n 3, 1) := by decide +kernel
theorem dX5_order_12 : decode cX5_order 12 = .ok (.iconst 1, 1) := by decide +kernel
theorem dX5_order_13 : decode cX5_order 13 = .ok (.ldc 94, 2) := by decide +kernel
theorem dX5_order_15 : decode cX5_order 15 = .ok (.invokestatic 83, 3) := by decide +kernel
theorem dX5_order_18 : decode cX5_order 18 = .ok (.ifCond .eq 7, 3) := by decide +kernel
theorem dX5_order_21 : decode cX5_order 21 = .ok (.iconst 1, 1) := by decide +kernel
theorem dX5_order_22 : decode cX5_order 22 = .ok (.goto 4, 3) := by decide +kernel
theorem dX5_order_25 : decode cX5_order 25 = .ok (.iconst 0, 1) := by decide +kernel
theorem dX5_order_26 : decode cX5_order 26 = .ok (.istore 4, 2) := by decide +kernel
theorem dX5_order_28 : decode cX5_order 28 = .ok (.iload 4, 2) := by decide +kernel
theorem dX5_order_30 : decode cX5_order 30 = .ok (.ifCond .eq 10, 3) := by decide +kernel
theorem dX5_order_33 : decode cX5_order 33 = .ok (.iload_n 1, 1) := by decide +kernel
theorem dX5_order_34 : decode cX5_order 34 = .ok (.invokestatic 133, 3) := by decide +kernel
theorem dX5_order_37 : decode cX5_order 37 = .ok (.goto 4, 3) := by decide +kernel
theorem dX5_order_40 : decode cX5_order 40 = .ok (.iconst 1, 1) := by decide +kernel
theorem dX5_order_41 : decode cX5_order 41 = .ok (.istore 5, 2) := by decide +kernel
theorem dX5_order_43 : decode cX5_order 43 = .ok (.iload 4, 2) := by decide +kernel
theorem dX5_order_45 : decode cX5_order 45 = .ok (.ifCond .eq 13, 3) := by decide +kernel
theorem dX5_order_48 : decode cX5_order 48 = .ok (.iload_n 3, 1) := by decide +kernel
theorem dX5_order_49 : decode cX5_order 49 = .ok (.iload 5, 2) := by decide +kernel
theorem dX5_order_51 : decode cX5_order 51 = .ok (.if_icmp .ge 7, 3) := by decide +kernel
theorem dX5_order_54 : decode cX5_order 54 = .ok (.iload_n 3, 1) := by decide +kernel
theorem dX5_order_55 : decode cX5_order 55 = .ok (.goto 5, 3) := by decide +kernel
theorem dX5_order_58 : decode cX5_order 58 = .ok (.iload 5, 2) := by decide +kernel
theorem dX5_order_60 : decode cX5_order 60 = .ok (.istore 6, 2) := by decide +kernel
theorem dX5_order_62 : decode cX5_order 62 = .ok (.iload 4, 2) := by decide +kernel
theorem dX5_order_64 : decode cX5_order 64 = .ok (.ifCond .eq 29, 3) := by decide +kernel
theorem dX5_order_67 : decode cX5_order 67 = .ok (.iload_n 1, 1) := by decide +kernel
theorem dX5_order_68 : decode cX5_order 68 = .ok (.iconst 1, 1) := by decide +kernel
theorem dX5_order_69 : decode cX5_order 69 = .ok (.aload_n 0, 1) := by decide +kernel
theorem dX5_order_70 : decode cX5_order 70 = .ok (.getfield 80, 3) := by decide +kernel
theorem dX5_order_73 : decode cX5_order 73 = .ok (.ishl, 1) := by decide +kernel
theorem dX5_order_74 : decode cX5_order 74 = .ok (.if_icmp .ge 19, 3) := by decide +kernel
theorem dX5_order_77 : decode cX5_order 77 = .ok (.aload_n 0, 1) := by decide +kernel
theorem dX5_order_78 : decode cX5_order 78 = .ok (.getfield 114, 3) := by decide +kernel
theorem dX5_order_81 : decode cX5_order 81 = .ok (.iload 6, 2) := by decide +kernel
theorem dX5_order_83 : decode cX5_order 83 = .ok (.iadd, 1) := by decide +kernel
theorem dX5_order_84 : decode cX5_order 84 = .ok (.bipush 100, 2) := by decide +kernel
theorem dX5_order_86 : decode cX5_order 86 = .ok (.if_icmp .gt 7, 3) := by decide +kernel
theorem dX5_order_89 : decode cX5_order 89 = .ok (.iconst 1, 1) := by decide +kernel
theorem dX5_order_90 : decode cX5_order 90 = .ok (.goto 4, 3) := by decide +kernel
theorem dX5_order_93 : decode cX5_order 93 = .ok (.iconst 0, 1) := by decide +kernel
theorem dX5_order_94 : decode cX5_order 94 = .ok (.istore 7, 2) := by decide +kernel
theorem dX5_order_96 : decode cX5_order 96 = .ok (.aload_n 0, 1) := by decide +kernel
theorem dX5_order_97 : decode cX5_order 97 = .ok (.iload_n 2, 1) := by decide +kernel
theorem dX5_order_98 : decode cX5_order 98 = .ok (.invokestatic 95, 3) := by decide +kernel
theorem dX5_order_101 : decode cX5_order 101 = .ok (.ifCond .ne 7, 3) := by decide +kernel
theorem dX5_order_104 : decode cX5_order 104 = .ok (.iconst 1, 1) := by decide +kernel
theorem dX5_order_105 : decode cX5_order 105 = .ok (.goto 22, 3) := by decide +kernel
theorem dX5_order_108 : decode cX5_order 108 = .ok (.iload 4, 2) := by decide +kernel
theorem dX5_order_110 : decode cX5_order 110 = .ok (.ifCond .ne 7, 3) := by decide +kernel
theorem dX5_order_113 : decode cX5_order 113 = .ok (.iconst 2, 1) := by decide +kernel
theorem dX5_order_114 : decode cX5_order 114 = .ok (.goto 13, 3) := by decide +kernel
theorem dX5_order_117 : decode cX5_order 117 = .ok (.iload 7, 2) := by decide +kernel
theorem dX5_order_119 : decode cX5_order 119 = .ok (.ifCond .eq 7, 3) := by decide +kernel
theorem dX5_order_122 : decode cX5_order 122 = .ok (.iconst 0, 1) := by decide +kernel
theorem dX5_order_123 : decode cX5_order 123 = .ok (.goto 4, 3) := by decide +kernel
theorem dX5_order_126 : decode cX5_order 126 = .ok (.iconst 3, 1) := by decide +kernel
theorem dX5_order_127 : decode cX5_order 127 = .ok (.invokevirtual 87, 3) := by decide +kernel
theorem dX5_order_130 : decode cX5_order 130 = .ok (.ifCond .ne 5, 3) := by decide +kernel
theorem dX5_order_133 : decode cX5_order 133 = .ok (.iconst 0, 1) := by decide +kernel
theorem dX5_order_134 : decode cX5_order 134 = .ok (.ireturn, 1) := by decide +kernel
theorem dX5_order_135 : decode cX5_order 135 = .ok (.iconst 0, 1) := by decide +kernel
theorem dX5_order_136 : decode cX5_order 136 = .ok (.istore 8, 2) := by decide +kernel
theorem dX5_order_138 : decode cX5_order 138 = .ok (.iconst 0, 1) := by decide +kernel
theorem dX5_order_139 : decode cX5_order 139 = .ok (.istore 9, 2) := by decide +kernel
theorem dX5_order_141 : decode cX5_order 141 = .ok (.iload 9, 2) := by decide +kernel
theorem dX5_order_143 : decode cX5_order 143 = .ok (.bipush 8, 2) := by decide +kernel
theorem dX5_order_145 : decode cX5_order 145 = .ok (.if_icmp .ge 57, 3) := by decide +kernel
theorem dX5_order_148 : decode cX5_order 148 = .ok (.iload_n 1, 1) := by decide +kernel
theorem dX5_order_149 : decode cX5_order 149 = .ok (.iload 9, 2) := by decide +kernel
theorem dX5_order_151 : decode cX5_order 151 = .ok (.ishr, 1) := by decide +kernel
theorem dX5_order_152 : decode cX5_order 152 = .ok (.iconst 1, 1) := by decide +kernel
theorem dX5_order_153 : decode cX5_order 153 = .ok (.iand, 1) := by decide +kernel
theorem dX5_order_154 : decode cX5_order 154 = .ok (.iconst 1, 1) := by decide +kernel
theorem dX5_order_155 : decode cX5_order 155 = .ok (.if_icmp .ne 41, 3) := by decide +kernel
theorem dX5_order_158 : decode cX5_order 158 = .ok (.iload_n 3, 1) := by decide +kernel
theorem dX5_order_159 : decode cX5_order 159 = .ok (.iload 5, 2) := by decide +kernel
theorem dX5_order_161 : decode cX5_order 161 = .ok (.idiv, 1) := by decide +kernel
theorem dX5_order_162 : decode cX5_order 162 = .ok (.iload 8, 2) := by decide +kernel
theorem dX5_order_164 : decode cX5_order 164 = .ok (.iload_n 3, 1) := by decide +kernel
theorem dX5_order_165 : decode cX5_order 165 = .ok (.iload 5, 2) := by decide +kernel
theorem dX5_order_167 : decode cX5_order 167 = .ok (.irem, 1) := by decide +kernel
theorem dX5_order_168 : decode cX5_order 168 = .ok (.if_icmp .ge 7, 3) := by decide +kernel
theorem dX5_order_171 : decode cX5_order 171 = .ok (.iconst 1, 1) := by decide +kernel
theorem dX5_order_172 : decode cX5_order 172 = .ok (.goto 4, 3) := by decide +kernel
theorem dX5_order_175 : decode cX5_order 175 = .ok (.iconst 0, 1) := by decide +kernel
theorem dX5_order_176 : decode cX5_order 176 = .ok (.iadd, 1) := by decide +kernel
theorem dX5_order_177 : decode cX5_order 177 = .ok (.istore 10, 2) := by decide +kernel
theorem dX5_order_179 : decode cX5_order 179 = .ok (.iload 10, 2) := by decide +kernel
theorem dX5_order_181 : decode cX5_order 181 = .ok (.ifCond .le 12, 3) := by decide +kernel
theorem dX5_order_184 : decode cX5_order 184 = .ok (.aload_n 0, 1) := by decide +kernel
theorem dX5_order_185 : decode cX5_order 185 = .ok (.iload 9, 2) := by decide +kernel
theorem dX5_order_187 : decode cX5_order 187 = .ok (.iload_n 2, 1) := by decide +kernel
theorem dX5_order_188 : decode cX5_order 188 = .ok (.iload 10, 2) := by decide +kernel
theorem dX5_order_190 : decode cX5_order 190 = .ok (.invokevirtual 129, 3) := by decide +kernel
theorem dX5_order_193 : decode cX5_order 193 = .ok (.iinc 8 1, 3) := by decide +kernel
theorem dX5_order_196 : decode cX5_order 196 = .ok (.iinc 9 1, 3) := by decide +kernel
theorem dX5_order_199 : decode cX5_order 199 = .ok (.goto (-58), 3) := by decide +kernel
theorem dX5_order_202 : decode cX5_order 202 = .ok (.iload 6, 2) := by decide +kernel
theorem dX5_order_204 : decode cX5_order 204 = .ok (.ireturn, 1) := by decide +kernel
set_option maxRecDepth 20000 in
theorem ggX5_refund_X5_in : GoodIn wsX5_refund wsX5_in := goodIn_r _ [17] (by decide +kernel) (by decide +kernel)
set_option maxRecDepth 20000 in
theorem gX5_refund_X5_in : GoodIn wsX5_refund (va_wsS RX5 83 yX5_in wsX5_in) := goodIn_app (goodIn_of _ (by decide +kernel)) ggX5_refund_X5_in
set_option maxRecDepth 20000 in
theorem ggX5_refund_X5_holds : GoodIn wsX5_refund wsX5_holds := goodIn_r _ [21, 22, 26, 27, 28, 29, 30, 31, 32, 33, 34, 35, 36, 37, 38, 39, 40, 41, 42, 43, 44, 45, 46, 47, 48, 49, 50, 51, 52, 53, 54, 55, 56] (by decide +kernel) (by decide +kernel)
set_option maxRecDepth 20000 in
theorem gX5_refund_X5_holds : GoodIn wsX5_refund (wsV RX5 87 RX5 yX5_holds wsX5_holds) := goodIn_app (goodIn_of _ (by decide +kernel)) ggX5_refund_X5_holds
set_option maxRecDepth 20000 in
theorem ggX5_refund_X5_feeOn : GoodIn wsX5_refund wsX5_feeOn := goodIn_r _ [25] (by decide +kernel) (by decide +kernel)
set_option maxRecDepth 20000 in
theorem gX5_refund_X5_feeOn : GoodIn wsX5_refund (va_wsS RX5 108 yX5_feeOn wsX5_feeOn) := goodIn_app (goodIn_of _ (by decide +kernel)) ggX5_refund_X5_feeOn
theorem dX5_refund_0 : decode cX5_refund 0 = .ok (.iload_n 1, 1) := by decide +kernel
theorem dX5_refund_1 : decode cX5_refund 1 = .ok (.iconst 0, 1) := by decide +kernel
theorem dX5_refund_2 : decode cX5_refund 2 = .ok (.aload_n 0, 1) := by decide +kernel
theorem dX5_refund_3 : decode cX5_refund 3 = .ok (.getfield 114, 3) := by decide +kernel
theorem dX5_refund_6 : decode cX5_refund 6 = .ok (.iconst 1, 1) := by decide +kernel
theorem dX5_refund_7 : decode cX5_refund 7 = .ok (.isub, 1) := by decide +kernel
theorem dX5_refund_8 : decode cX5_refund 8 = .ok (.invokestatic 83, 3) := by decide +kernel
theorem dX5_refund_11 : decode cX5_refund 11 = .ok (.istore 4, 2) := by decide +kernel
theorem dX5_refund_13 : decode cX5_refund 13 = .ok (.aload_n 0, 1) := by decide +kernel
theorem dX5_refund_14 : decode cX5_refund 14 = .ok (.iload 4, 2) := by decide +kernel
theorem dX5_refund_16 : decode cX5_refund 16 = .ok (.ifCond .ne 7, 3) := by decide +kernel
theorem dX5_refund_19 : decode cX5_refund 19 = .ok (.iconst 1, 1) := by decide +kernel
theorem dX5_refund_20 : decode cX5_refund 20 = .ok (.goto 39, 3) := by decide +kernel
theorem dX5_refund_23 : decode cX5_refund 23 = .ok (.iload_n 2, 1) := by decide +kernel
theorem dX5_refund_24 : decode cX5_refund 24 = .ok (.iconst 1, 1) := by decide +kernel
theorem dX5_refund_25 : decode cX5_refund 25 = .ok (.ldc 94, 2) := by decide +kernel
theorem dX5_refund_27 : decode cX5_refund 27 = .ok (.invokestatic 83, 3) := by decide +kernel
theorem dX5_refund_30 : decode cX5_refund 30 = .ok (.ifCond .ne 7, 3) := by decide +kernel
theorem dX5_refund_33 : decode cX5_refund 33 = .ok (.iconst 2, 1) := by decide +kernel
theorem dX5_refund_34 : decode cX5_refund 34 = .ok (.goto 25, 3) := by decide +kernel
theorem dX5_refund_37 : decode cX5_refund 37 = .ok (.aload_n 0, 1) := by decide +kernel
theorem dX5_refund_38 : decode cX5_refund 38 = .ok (.getfield 41, 3) := by decide +kernel
theorem dX5_refund_41 : decode cX5_refund 41 = .ok (.iload_n 1, 1) := by decide +kernel
theorem dX5_refund_42 : decode cX5_refund 42 = .ok (.iaload, 1) := by decide +kernel
theorem dX5_refund_43 : decode cX5_refund 43 = .ok (.aload_n 0, 1) := by decide +kernel
theorem dX5_refund_44 : decode cX5_refund 44 = .ok (.getfield 44, 3) := by decide +kernel
theorem dX5_refund_47 : decode cX5_refund 47 = .ok (.iload_n 1, 1) := by decide +kernel
theorem dX5_refund_48 : decode cX5_refund 48 = .ok (.iaload, 1) := by decide +kernel
theorem dX5_refund_49 : decode cX5_refund 49 = .ok (.isub, 1) := by decide +kernel
theorem dX5_refund_50 : decode cX5_refund 50 = .ok (.iload_n 2, 1) := by decide +kernel
theorem dX5_refund_51 : decode cX5_refund 51 = .ok (.if_icmp .ge 7, 3) := by decide +kernel
theorem dX5_refund_54 : decode cX5_refund 54 = .ok (.iconst 3, 1) := by decide +kernel
theorem dX5_refund_55 : decode cX5_refund 55 = .ok (.goto 4, 3) := by decide +kernel
theorem dX5_refund_58 : decode cX5_refund 58 = .ok (.iconst 0, 1) := by decide +kernel
theorem dX5_refund_59 : decode cX5_refund 59 = .ok (.invokevirtual 87, 3) := by decide +kernel
theorem dX5_refund_62 : decode cX5_refund 62 = .ok (.ifCond .ne 5, 3) := by decide +kernel
theorem dX5_refund_65 : decode cX5_refund 65 = .ok (.iconst 0, 1) := by decide +kernel
theorem dX5_refund_66 : decode cX5_refund 66 = .ok (.ireturn, 1) := by decide +kernel
theorem dX5_refund_67 : decode cX5_refund 67 = .ok (.iload_n 2, 1) := by decide +kernel
theorem dX5_refund_68 : decode cX5_refund 68 = .ok (.aload_n 0, 1) := by decide +kernel
theorem dX5_refund_69 : decode cX5_refund 69 = .ok (.getfield 50, 3) := by decide +kernel
theorem dX5_refund_72 : decode cX5_refund 72 = .ok (.iload_n 1, 1) := by decide +kernel
theorem dX5_refund_73 : decode cX5_refund 73 = .ok (.iaload, 1) := by decide +kernel
theorem dX5_refund_74 : decode cX5_refund 74 = .ok (.imul, 1) := by decide +kernel
theorem dX5_refund_75 : decode cX5_refund 75 = .ok (.sipush 1000, 3) := by decide +kernel
theorem dX5_refund_78 : decode cX5_refund 78 = .ok (.idiv, 1) := by decide +kernel
theorem dX5_refund_79 : decode cX5_refund 79 = .ok (.istore 5, 2) := by decide +kernel
theorem dX5_refund_81 : decode cX5_refund 81 = .ok (.iload_n 3, 1) := by decide +kernel
theorem dX5_refund_82 : decode cX5_refund 82 = .ok (.ifCond .eq 16, 3) := by decide +kernel
theorem dX5_refund_85 : decode cX5_refund 85 = .ok (.iload_n 2, 1) := by decide +kernel
theorem dX5_refund_86 : decode cX5_refund 86 = .ok (.aload_n 0, 1) := by decide +kernel
theorem dX5_refund_87 : decode cX5_refund 87 = .ok (.getfield 47, 3) := by decide +kernel
theorem dX5_refund_90 : decode cX5_refund 90 = .ok (.iload_n 1, 1) := by decide +kernel
theorem dX5_refund_91 : decode cX5_refund 91 = .ok (.faload, 1) := by decide +kernel
theorem dX5_refund_92 : decode cX5_refund 92 = .ok (.invokestatic 108, 3) := by decide +kernel
theorem dX5_refund_95 : decode cX5_refund 95 = .ok (.goto 4, 3) := by decide +kernel
theorem dX5_refund_98 : decode cX5_refund 98 = .ok (.iconst 0, 1) := by decide +kernel
theorem dX5_refund_99 : decode cX5_refund 99 = .ok (.istore 6, 2) := by decide +kernel
theorem dX5_refund_101 : decode cX5_refund 101 = .ok (.aload_n 0, 1) := by decide +kernel
theorem dX5_refund_102 : decode cX5_refund 102 = .ok (.getfield 56, 3) := by decide +kernel
theorem dX5_refund_105 : decode cX5_refund 105 = .ok (.iload_n 1, 1) := by decide +kernel
theorem dX5_refund_106 : decode cX5_refund 106 = .ok (.iaload, 1) := by decide +kernel
theorem dX5_refund_107 : decode cX5_refund 107 = .ok (.iload 6, 2) := by decide +kernel
theorem dX5_refund_109 : decode cX5_refund 109 = .ok (.iadd, 1) := by decide +kernel
theorem dX5_refund_110 : decode cX5_refund 110 = .ok (.aload_n 0, 1) := by decide +kernel
theorem dX5_refund_111 : decode cX5_refund 111 = .ok (.getfield 53, 3) := by decide +kernel
theorem dX5_refund_114 : decode cX5_refund 114 = .ok (.iload_n 1, 1) := by decide +kernel
theorem dX5_refund_115 : decode cX5_refund 115 = .ok (.iaload, 1) := by decide +kernel
theorem dX5_refund_116 : decode cX5_refund 116 = .ok (.if_icmp .le 19, 3) := by decide +kernel
theorem dX5_refund_119 : decode cX5_refund 119 = .ok (.aload_n 0, 1) := by decide +kernel
theorem dX5_refund_120 : decode cX5_refund 120 = .ok (.getfield 53, 3) := by decide +kernel
theorem dX5_refund_123 : decode cX5_refund 123 = .ok (.iload_n 1, 1) := by decide +kernel
theorem dX5_refund_124 : decode cX5_refund 124 = .ok (.iaload, 1) := by decide +kernel
theorem dX5_refund_125 : decode cX5_refund 125 = .ok (.aload_n 0, 1) := by decide +kernel
theorem dX5_refund_126 : decode cX5_refund 126 = .ok (.getfield 56, 3) := by decide +kernel
theorem dX5_refund_129 : decode cX5_refund 129 = .ok (.iload_n 1, 1) := by decide +kernel
theorem dX5_refund_130 : decode cX5_refund 130 = .ok (.iaload, 1) := by decide +kernel
theorem dX5_refund_131 : decode cX5_refund 131 = .ok (.isub, 1) := by decide +kernel
theorem dX5_refund_132 : decode cX5_refund 132 = .ok (.goto 5, 3) := by decide +kernel
theorem dX5_refund_135 : decode cX5_refund 135 = .ok (.iload 6, 2) := by decide +kernel
theorem dX5_refund_137 : decode cX5_refund 137 = .ok (.istore 6, 2) := by decide +kernel
theorem dX5_refund_139 : decode cX5_refund 139 = .ok (.aload_n 0, 1) := by decide +kernel
theorem dX5_refund_140 : decode cX5_refund 140 = .ok (.getfield 44, 3) := by decide +kernel
theorem dX5_refund_143 : decode cX5_refund 143 = .ok (.iload_n 1, 1) := by decide +kernel
theorem dX5_refund_144 : decode cX5_refund 144 = .ok (.dup2, 1) := by decide +kernel
theorem dX5_refund_145 : decode cX5_refund 145 = .ok (.iaload, 1) := by decide +kernel
theorem dX5_refund_146 : decode cX5_refund 146 = .ok (.iload_n 2, 1) := by decide +kernel
theorem dX5_refund_147 : decode cX5_refund 147 = .ok (.iadd, 1) := by decide +kernel
theorem dX5_refund_148 : decode cX5_refund 148 = .ok (.iastore, 1) := by decide +kernel
theorem dX5_refund_149 : decode cX5_refund 149 = .ok (.aload_n 0, 1) := by decide +kernel
theorem dX5_refund_150 : decode cX5_refund 150 = .ok (.getfield 56, 3) := by decide +kernel
theorem dX5_refund_153 : decode cX5_refund 153 = .ok (.iload_n 1, 1) := by decide +kernel
theorem dX5_refund_154 : decode cX5_refund 154 = .ok (.dup2, 1) := by decide +kernel
theorem dX5_refund_155 : decode cX5_refund 155 = .ok (.iaload, 1) := by decide +kernel
theorem dX5_refund_156 : decode cX5_refund 156 = .ok (.iload 6, 2) := by decide +kernel
theorem dX5_refund_158 : decode cX5_refund 158 = .ok (.iadd, 1) := by decide +kernel
theorem dX5_refund_159 : decode cX5_refund 159 = .ok (.iastore, 1) := by decide +kernel
theorem dX5_refund_160 : decode cX5_refund 160 = .ok (.aload_n 0, 1) := by decide +kernel
theorem dX5_refund_161 : decode cX5_refund 161 = .ok (.dup, 1) := by decide +kernel
theorem dX5_refund_162 : decode cX5_refund 162 = .ok (.getfield 137, 3) := by decide +kernel
theorem dX5_refund_165 : decode cX5_refund 165 = .ok (.iload_n 2, 1) := by decide +kernel
theorem dX5_refund_166 : decode cX5_refund 166 = .ok (.iadd, 1) := by decide +kernel
theorem dX5_refund_167 : decode cX5_refund 167 = .ok (.putfield 137, 3) := by decide +kernel
theorem dX5_refund_170 : decode cX5_refund 170 = .ok (.aload_n 0, 1) := by decide +kernel
theorem dX5_refund_171 : decode cX5_refund 171 = .ok (.dup, 1) := by decide +kernel
theorem dX5_refund_172 : decode cX5_refund 172 = .ok (.getfield 126, 3) := by decide +kernel
theorem dX5_refund_175 : decode cX5_refund 175 = .ok (.iload 5, 2) := by decide +kernel
theorem dX5_refund_177 : decode cX5_refund 177 = .ok (.isub, 1) := by decide +kernel
theorem dX5_refund_178 : decode cX5_refund 178 = .ok (.putfield 126, 3) := by decide +kernel
theorem dX5_refund_181 : decode cX5_refund 181 = .ok (.aload_n 0, 1) := by decide +kernel
theorem dX5_refund_182 : decode cX5_refund 182 = .ok (.dup, 1) := by decide +kernel
theorem dX5_refund_183 : decode cX5_refund 183 = .ok (.getfield 123, 3) := by decide +kernel
theorem dX5_refund_186 : decode cX5_refund 186 = .ok (.iload 6, 2) := by decide +kernel
theorem dX5_refund_188 : decode cX5_refund 188 = .ok (.isub, 1) := by decide +kernel
theorem dX5_refund_189 : decode cX5_refund 189 = .ok (.putfield 123, 3) := by decide +kernel
theorem dX5_refund_192 : decode cX5_refund 192 = .ok (.aload_n 0, 1) := by decide +kernel
theorem dX5_refund_193 : decode cX5_refund 193 = .ok (.getfield 28, 3) := by decide +kernel
theorem dX5_refund_196 : decode cX5_refund 196 = .ok (.aload_n 0, 1) := by decide +kernel
theorem dX5_refund_197 : decode cX5_refund 197 = .ok (.getfield 38, 3) := by decide +kernel
theorem dX5_refund_200 : decode cX5_refund 200 = .ok (.iload_n 1, 1) := by decide +kernel
theorem dX5_refund_201 : decode cX5_refund 201 = .ok (.iaload, 1) := by decide +kernel
theorem dX5_refund_202 : decode cX5_refund 202 = .ok (.dup2, 1) := by decide +kernel
theorem dX5_refund_203 : decode cX5_refund 203 = .ok (.iaload, 1) := by decide +kernel
theorem dX5_refund_204 : decode cX5_refund 204 = .ok (.iload 5, 2) := by decide +kernel
theorem dX5_refund_206 : decode cX5_refund 206 = .ok (.iload 6, 2) := by decide +kernel
theorem dX5_refund_208 : decode cX5_refund 208 = .ok (.iadd, 1) := by decide +kernel
theorem dX5_refund_209 : decode cX5_refund 209 = .ok (.iload_n 2, 1) := by decide +kernel
theorem dX5_refund_210 : decode cX5_refund 210 = .ok (.isub, 1) := by decide +kernel
theorem dX5_refund_211 : decode cX5_refund 211 = .ok (.iadd, 1) := by decide +kernel
theorem dX5_refund_212 : decode cX5_refund 212 = .ok (.iastore, 1) := by decide +kernel
theorem dX5_refund_213 : decode cX5_refund 213 = .ok (.aload_n 0, 1) := by decide +kernel
theorem dX5_refund_214 : decode cX5_refund 214 = .ok (.getfield 28, 3) := by decide +kernel
theorem dX5_refund_217 : decode cX5_refund 217 = .ok (.aload_n 0, 1) := by decide +kernel
theorem dX5_refund_218 : decode cX5_refund 218 = .ok (.getfield 38, 3) := by decide +kernel
theorem dX5_refund_221 : decode cX5_refund 221 = .ok (.iload_n 1, 1) := by decide +kernel
theorem dX5_refund_222 : decode cX5_refund 222 = .ok (.iaload, 1) := by decide +kernel
theorem dX5_refund_223 : decode cX5_refund 223 = .ok (.iaload, 1) := by decide +kernel
theorem dX5_refund_224 : decode cX5_refund 224 = .ok (.ireturn, 1) := by decide +kernel
theorem dX5_releases_0 : decode cX5_releases 0 = .ok (.iconst 0, 1) := by decide +kernel
theorem dX5_releases_1 : decode cX5_releases 1 = .ok (.istore_n 1, 1) := by decide +kernel
theorem dX5_releases_2 : decode cX5_releases 2 = .ok (.iload_n 1, 1) := by decide +kernel
theorem dX5_releases_3 : decode cX5_releases 3 = .ok (.aload_n 0, 1) := by decide +kernel
theorem dX5_releases_4 : decode cX5_releases 4 = .ok (.getfield 114, 3) := by decide +kernel
theorem dX5_releases_7 : decode cX5_releases 7 = .ok (.if_icmp .ge 49, 3) := by decide +kernel
theorem dX5_releases_10 : decode cX5_releases 10 = .ok (.aload_n 0, 1) := by decide +kernel
theorem dX5_releases_11 : decode cX5_releases 11 = .ok (.getfield 62, 3) := by decide +kernel
theorem dX5_releases_14 : decode cX5_releases 14 = .ok (.iload_n 1, 1) := by decide +kernel
theorem dX5_releases_15 : decode cX5_releases 15 = .ok (.iaload, 1) := by decide +kernel
theorem dX5_releases_16 : decode cX5_releases 16 = .ok (.aload_n 0, 1) := by decide +kernel
theorem dX5_releases_17 : decode cX5_releases 17 = .ok (.getfield 117, 3) := by decide +kernel
theorem dX5_releases_20 : decode cX5_releases 20 = .ok (.if_icmp .gt 30, 3) := by decide +kernel
theorem dX5_releases_23 : decode cX5_releases 23 = .ok (.aload_n 0, 1) := by decide +kernel
theorem dX5_releases_24 : decode cX5_releases 24 = .ok (.getfield 28, 3) := by decide +kernel
theorem dX5_releases_27 : decode cX5_releases 27 = .ok (.aload_n 0, 1) := by decide +kernel
theorem dX5_releases_28 : decode cX5_releases 28 = .ok (.getfield 38, 3) := by decide +kernel
theorem dX5_releases_31 : decode cX5_releases 31 = .ok (.iload_n 1, 1) := by decide +kernel
theorem dX5_releases_32 : decode cX5_releases 32 = .ok (.iaload, 1) := by decide +kernel
theorem dX5_releases_33 : decode cX5_releases 33 = .ok (.dup2, 1) := by decide +kernel
theorem dX5_releases_34 : decode cX5_releases 34 = .ok (.iaload, 1) := by decide +kernel
theorem dX5_releases_35 : decode cX5_releases 35 = .ok (.aload_n 0, 1) := by decide +kernel
theorem dX5_releases_36 : decode cX5_releases 36 = .ok (.getfield 59, 3) := by decide +kernel
theorem dX5_releases_39 : decode cX5_releases 39 = .ok (.iload_n 1, 1) := by decide +kernel
theorem dX5_releases_40 : decode cX5_releases 40 = .ok (.iaload, 1) := by decide +kernel
theorem dX5_releases_41 : decode cX5_releases 41 = .ok (.iadd, 1) := by decide +kernel
theorem dX5_releases_42 : decode cX5_releases 42 = .ok (.iastore, 1) := by decide +kernel
theorem dX5_releases_43 : decode cX5_releases 43 = .ok (.aload_n 0, 1) := by decide +kernel
theorem dX5_releases_44 : decode cX5_releases 44 = .ok (.getfield 59, 3) := by decide +kernel
theorem dX5_releases_47 : decode cX5_releases 47 = .ok (.iload_n 1, 1) := by decide +kernel
theorem dX5_releases_48 : decode cX5_releases 48 = .ok (.iconst 0, 1) := by decide +kernel
theorem dX5_releases_49 : decode cX5_releases 49 = .ok (.iastore, 1) := by decide +kernel
theorem dX5_releases_50 : decode cX5_releases 50 = .ok (.iinc 1 1, 3) := by decide +kernel
theorem dX5_releases_53 : decode cX5_releases 53 = .ok (.goto (-51), 3) := by decide +kernel
theorem dX5_releases_56 : decode cX5_releases 56 = .ok (.return_, 1) := by decide +kernel
theorem dX5_least_0 : decode cX5_least 0 = .ok (.iload_n 0, 1) := by decide +kernel
theorem dX5_least_1 : decode cX5_least 1 = .ok (.iload_n 1, 1) := by decide +kernel
theorem dX5_least_2 : decode cX5_least 2 = .ok (.if_icmp .ge 7, 3) := by decide +kernel
theorem dX5_least_5 : decode cX5_least 5 = .ok (.iload_n 0, 1) := by decide +kernel
theorem dX5_least_6 : decode cX5_least 6 = .ok (.goto 4, 3) := by decide +kernel
theorem dX5_least_9 : decode cX5_least 9 = .ok (.iload_n 1, 1) := by decide +kernel
theorem dX5_least_10 : decode cX5_least 10 = .ok (.ireturn, 1) := by decide +kernel
set_option maxRecDepth 20000 in
theorem ggX5_coversByReserves_X5_least : GoodIn wsX5_coversByReserves wsX5_least := goodIn_r _ [8] (by decide +kernel) (by decide +kernel)
set_option maxRecDepth 20000 in
theorem gX5_coversByReserves_X5_least : GoodIn wsX5_coversByReserves (va_wsS RX5 140 yX5_least wsX5_least) := goodIn_app (goodIn_of _ (by decide +kernel)) ggX5_coversByReserves_X5_least
theorem dX5_coversByReserves_0 : decode cX5_coversByReserves 0 = .ok (.iconst 0, 1) := by decide +kernel
theorem dX5_coversByReserves_1 : decode cX5_coversByReserves 1 = .ok (.istore_n 2, 1) := by decide +kernel
theorem dX5_coversByReserves_2 : decode cX5_coversByReserves 2 = .ok (.iload_n 2, 1) := by decide +kernel
theorem dX5_coversByReserves_3 : decode cX5_coversByReserves 3 = .ok (.aload_n 0, 1) := by decide +kernel
theorem dX5_coversByReserves_4 : decode cX5_coversByReserves 4 = .ok (.getfield 114, 3) := by decide +kernel
theorem dX5_coversByReserves_7 : decode cX5_coversByReserves 7 = .ok (.if_icmp .ge 69, 3) := by decide +kernel
theorem dX5_coversByReserves_10 : decode cX5_coversByReserves 10 = .ok (.aload_n 0, 1) := by decide +kernel
theorem dX5_coversByReserves_11 : decode cX5_coversByReserves 11 = .ok (.getfield 28, 3) := by decide +kernel
theorem dX5_coversByReserves_14 : decode cX5_coversByReserves 14 = .ok (.iload_n 1, 1) := by decide +kernel
theorem dX5_coversByReserves_15 : decode cX5_coversByReserves 15 = .ok (.iaload, 1) := by decide +kernel
theorem dX5_coversByReserves_16 : decode cX5_coversByReserves 16 = .ok (.ifCond .ge 60, 3) := by decide +kernel
theorem dX5_coversByReserves_19 : decode cX5_coversByReserves 19 = .ok (.aload_n 0, 1) := by decide +kernel
theorem dX5_coversByReserves_20 : decode cX5_coversByReserves 20 = .ok (.getfield 38, 3) := by decide +kernel
theorem dX5_coversByReserves_23 : decode cX5_coversByReserves 23 = .ok (.iload_n 2, 1) := by decide +kernel
theorem dX5_coversByReserves_24 : decode cX5_coversByReserves 24 = .ok (.iaload, 1) := by decide +kernel
theorem dX5_coversByReserves_25 : decode cX5_coversByReserves 25 = .ok (.iload_n 1, 1) := by decide +kernel
theorem dX5_coversByReserves_26 : decode cX5_coversByReserves 26 = .ok (.if_icmp .ne 22, 3) := by decide +kernel
theorem dX5_coversByReserves_29 : decode cX5_coversByReserves 29 = .ok (.aload_n 0, 1) := by decide +kernel
theorem dX5_coversByReserves_30 : decode cX5_coversByReserves 30 = .ok (.getfield 59, 3) := by decide +kernel
theorem dX5_coversByReserves_33 : decode cX5_coversByReserves 33 = .ok (.iload_n 2, 1) := by decide +kernel
theorem dX5_coversByReserves_34 : decode cX5_coversByReserves 34 = .ok (.iaload, 1) := by decide +kernel
theorem dX5_coversByReserves_35 : decode cX5_coversByReserves 35 = .ok (.aload_n 0, 1) := by decide +kernel
theorem dX5_coversByReserves_36 : decode cX5_coversByReserves 36 = .ok (.getfield 28, 3) := by decide +kernel
theorem dX5_coversByReserves_39 : decode cX5_coversByReserves 39 = .ok (.iload_n 1, 1) := by decide +kernel
theorem dX5_coversByReserves_40 : decode cX5_coversByReserves 40 = .ok (.iaload, 1) := by decide +kernel
theorem dX5_coversByReserves_41 : decode cX5_coversByReserves 41 = .ok (.ineg, 1) := by decide +kernel
theorem dX5_coversByReserves_42 : decode cX5_coversByReserves 42 = .ok (.invokestatic 140, 3) := by decide +kernel
theorem dX5_coversByReserves_45 : decode cX5_coversByReserves 45 = .ok (.goto 4, 3) := by decide +kernel
theorem dX5_coversByReserves_48 : decode cX5_coversByReserves 48 = .ok (.iconst 0, 1) := by decide +kernel
theorem dX5_coversByReserves_49 : decode cX5_coversByReserves 49 = .ok (.istore_n 3, 1) := by decide +kernel
theorem dX5_coversByReserves_50 : decode cX5_coversByReserves 50 = .ok (.aload_n 0, 1) := by decide +kernel
theorem dX5_coversByReserves_51 : decode cX5_coversByReserves 51 = .ok (.getfield 59, 3) := by decide +kernel
theorem dX5_coversByReserves_54 : decode cX5_coversByReserves 54 = .ok (.iload_n 2, 1) := by decide +kernel
theorem dX5_coversByReserves_55 : decode cX5_coversByReserves 55 = .ok (.dup2, 1) := by decide +kernel
theorem dX5_coversByReserves_56 : decode cX5_coversByReserves 56 = .ok (.iaload, 1) := by decide +kernel
theorem dX5_coversByReserves_57 : decode cX5_coversByReserves 57 = .ok (.iload_n 3, 1) := by decide +kernel
theorem dX5_coversByReserves_58 : decode cX5_coversByReserves 58 = .ok (.isub, 1) := by decide +kernel
theorem dX5_coversByReserves_59 : decode cX5_coversByReserves 59 = .ok (.iastore, 1) := by decide +kernel
theorem dX5_coversByReserves_60 : decode cX5_coversByReserves 60 = .ok (.aload_n 0, 1) := by decide +kernel
theorem dX5_coversByReserves_61 : decode cX5_coversByReserves 61 = .ok (.getfield 28, 3) := by decide +kernel
theorem dX5_coversByReserves_64 : decode cX5_coversByReserves 64 = .ok (.iload_n 1, 1) := by decide +kernel
theorem dX5_coversByReserves_65 : decode cX5_coversByReserves 65 = .ok (.dup2, 1) := by decide +kernel
theorem dX5_coversByReserves_66 : decode cX5_coversByReserves 66 = .ok (.iaload, 1) := by decide +kernel
theorem dX5_coversByReserves_67 : decode cX5_coversByReserves 67 = .ok (.iload_n 3, 1) := by decide +kernel
theorem dX5_coversByReserves_68 : decode cX5_coversByReserves 68 = .ok (.iadd, 1) := by decide +kernel
theorem dX5_coversByReserves_69 : decode cX5_coversByReserves 69 = .ok (.iastore, 1) := by decide +kernel
theorem dX5_coversByReserves_70 : decode cX5_coversByReserves 70 = .ok (.iinc 2 1, 3) := by decide +kernel
theorem dX5_coversByReserves_73 : decode cX5_coversByReserves 73 = .ok (.goto (-71), 3) := by decide +kernel
theorem dX5_coversByReserves_76 : decode cX5_coversByReserves 76 = .ok (.return_, 1) := by decide +kernel
set_option maxRecDepth 20000 in
theorem ggX5_coversByOthers_X5_least : GoodIn wsX5_coversByOthers wsX5_least := goodIn_r _ [7] (by decide +kernel) (by decide +kernel)
set_option maxRecDepth 20000 in
theorem gX5_coversByOthers_X5_least : GoodIn wsX5_coversByOthers (va_wsS RX5 140 yX5_least wsX5_least) := goodIn_app (goodIn_of _ (by decide +kernel)) ggX5_coversByOthers_X5_least
theorem dX5_coversByOthers_0 : decode cX5_coversByOthers 0 = .ok (.iconst 0, 1) := by decide +kernel
theorem dX5_coversByOthers_1 : decode cX5_coversByOthers 1 = .ok (.istore_n 2, 1) := by decide +kernel
theorem dX5_coversByOthers_2 : decode cX5_coversByOthers 2 = .ok (.iload_n 2, 1) := by decide +kernel
theorem dX5_coversByOthers_3 : decode cX5_coversByOthers 3 = .ok (.aload_n 0, 1) := by decide +kernel
theorem dX5_coversByOthers_4 : decode cX5_coversByOthers 4 = .ok (.getfield 80, 3) := by decide +kernel
theorem dX5_coversByOthers_7 : decode cX5_coversByOthers 7 = .ok (.if_icmp .ge 101, 3) := by decide +kernel
theorem dX5_coversByOthers_10 : decode cX5_coversByOthers 10 = .ok (.aload_n 0, 1) := by decide +kernel
theorem dX5_coversByOthers_11 : decode cX5_coversByOthers 11 = .ok (.getfield 28, 3) := by decide +kernel
theorem dX5_coversByOthers_14 : decode cX5_coversByOthers 14 = .ok (.iload_n 1, 1) := by decide +kernel
theorem dX5_coversByOthers_15 : decode cX5_coversByOthers 15 = .ok (.iaload, 1) := by decide +kernel
theorem dX5_coversByOthers_16 : decode cX5_coversByOthers 16 = .ok (.ifCond .ge 92, 3) := by decide +kernel
theorem dX5_coversByOthers_19 : decode cX5_coversByOthers 19 = .ok (.iload_n 2, 1) := by decide +kernel
theorem dX5_coversByOthers_20 : decode cX5_coversByOthers 20 = .ok (.iload_n 1, 1) := by decide +kernel
theorem dX5_coversByOthers_21 : decode cX5_coversByOthers 21 = .ok (.if_icmp .eq 31, 3) := by decide +kernel
theorem dX5_coversByOthers_24 : decode cX5_coversByOthers 24 = .ok (.aload_n 0, 1) := by decide +kernel
theorem dX5_coversByOthers_25 : decode cX5_coversByOthers 25 = .ok (.getfield 7, 3) := by decide +kernel
theorem dX5_coversByOthers_28 : decode cX5_coversByOthers 28 = .ok (.iload_n 2, 1) := by decide +kernel
theorem dX5_coversByOthers_29 : decode cX5_coversByOthers 29 = .ok (.iaload, 1) := by decide +kernel
theorem dX5_coversByOthers_30 : decode cX5_coversByOthers 30 = .ok (.aload_n 0, 1) := by decide +kernel
theorem dX5_coversByOthers_31 : decode cX5_coversByOthers 31 = .ok (.getfield 7, 3) := by decide +kernel
theorem dX5_coversByOthers_34 : decode cX5_coversByOthers 34 = .ok (.iload_n 1, 1) := by decide +kernel
theorem dX5_coversByOthers_35 : decode cX5_coversByOthers 35 = .ok (.iaload, 1) := by decide +kernel
theorem dX5_coversByOthers_36 : decode cX5_coversByOthers 36 = .ok (.if_icmp .ne 16, 3) := by decide +kernel
theorem dX5_coversByOthers_39 : decode cX5_coversByOthers 39 = .ok (.aload_n 0, 1) := by decide +kernel
theorem dX5_coversByOthers_40 : decode cX5_coversByOthers 40 = .ok (.getfield 28, 3) := by decide +kernel
theorem dX5_coversByOthers_43 : decode cX5_coversByOthers 43 = .ok (.iload_n 2, 1) := by decide +kernel
theorem dX5_coversByOthers_44 : decode cX5_coversByOthers 44 = .ok (.iaload, 1) := by decide +kernel
theorem dX5_coversByOthers_45 : decode cX5_coversByOthers 45 = .ok (.ifCond .le 7, 3) := by decide +kernel
theorem dX5_coversByOthers_48 : decode cX5_coversByOthers 48 = .ok (.iconst 1, 1) := by decide +kernel
theorem dX5_coversByOthers_49 : decode cX5_coversByOthers 49 = .ok (.goto 4, 3) := by decide +kernel
theorem dX5_coversByOthers_52 : decode cX5_coversByOthers 52 = .ok (.iconst 0, 1) := by decide +kernel
theorem dX5_coversByOthers_53 : decode cX5_coversByOthers 53 = .ok (.istore_n 3, 1) := by decide +kernel
theorem dX5_coversByOthers_54 : decode cX5_coversByOthers 54 = .ok (.iload_n 3, 1) := by decide +kernel
theorem dX5_coversByOthers_55 : decode cX5_coversByOthers 55 = .ok (.ifCond .eq 22, 3) := by decide +kernel
theorem dX5_coversByOthers_58 : decode cX5_coversByOthers 58 = .ok (.aload_n 0, 1) := by decide +kernel
theorem dX5_coversByOthers_59 : decode cX5_coversByOthers 59 = .ok (.getfield 28, 3) := by decide +kernel
theorem dX5_coversByOthers_62 : decode cX5_coversByOthers 62 = .ok (.iload_n 2, 1) := by decide +kernel
theorem dX5_coversByOthers_63 : decode cX5_coversByOthers 63 = .ok (.iaload, 1) := by decide +kernel
theorem dX5_coversByOthers_64 : decode cX5_coversByOthers 64 = .ok (.aload_n 0, 1) := by decide +kernel
theorem dX5_coversByOthers_65 : decode cX5_coversByOthers 65 = .ok (.getfield 28, 3) := by decide +kernel
theorem dX5_coversByOthers_68 : decode cX5_coversByOthers 68 = .ok (.iload_n 1, 1) := by decide +kernel
theorem dX5_coversByOthers_69 : decode cX5_coversByOthers 69 = .ok (.iaload, 1) := by decide +kernel
theorem dX5_coversByOthers_70 : decode cX5_coversByOthers 70 = .ok (.ineg, 1) := by decide +kernel
theorem dX5_coversByOthers_71 : decode cX5_coversByOthers 71 = .ok (.invokestatic 140, 3) := by decide +kernel
theorem dX5_coversByOthers_74 : decode cX5_coversByOthers 74 = .ok (.goto 4, 3) := by decide +kernel
theorem dX5_coversByOthers_77 : decode cX5_coversByOthers 77 = .ok (.iconst 0, 1) := by decide +kernel
theorem dX5_coversByOthers_78 : decode cX5_coversByOthers 78 = .ok (.istore 4, 2) := by decide +kernel
theorem dX5_coversByOthers_80 : decode cX5_coversByOthers 80 = .ok (.aload_n 0, 1) := by decide +kernel
theorem dX5_coversByOthers_81 : decode cX5_coversByOthers 81 = .ok (.getfield 28, 3) := by decide +kernel
theorem dX5_coversByOthers_84 : decode cX5_coversByOthers 84 = .ok (.iload_n 2, 1) := by decide +kernel
theorem dX5_coversByOthers_85 : decode cX5_coversByOthers 85 = .ok (.dup2, 1) := by decide +kernel
theorem dX5_coversByOthers_86 : decode cX5_coversByOthers 86 = .ok (.iaload, 1) := by decide +kernel
theorem dX5_coversByOthers_87 : decode cX5_coversByOthers 87 = .ok (.iload 4, 2) := by decide +kernel
theorem dX5_coversByOthers_89 : decode cX5_coversByOthers 89 = .ok (.isub, 1) := by decide +kernel
theorem dX5_coversByOthers_90 : decode cX5_coversByOthers 90 = .ok (.iastore, 1) := by decide +kernel
theorem dX5_coversByOthers_91 : decode cX5_coversByOthers 91 = .ok (.aload_n 0, 1) := by decide +kernel
theorem dX5_coversByOthers_92 : decode cX5_coversByOthers 92 = .ok (.getfield 28, 3) := by decide +kernel
theorem dX5_coversByOthers_95 : decode cX5_coversByOthers 95 = .ok (.iload_n 1, 1) := by decide +kernel
theorem dX5_coversByOthers_96 : decode cX5_coversByOthers 96 = .ok (.dup2, 1) := by decide +kernel
theorem dX5_coversByOthers_97 : decode cX5_coversByOthers 97 = .ok (.iaload, 1) := by decide +kernel
theorem dX5_coversByOthers_98 : decode cX5_coversByOthers 98 = .ok (.iload 4, 2) := by decide +kernel
theorem dX5_coversByOthers_100 : decode cX5_coversByOthers 100 = .ok (.iadd, 1) := by decide +kernel
theorem dX5_coversByOthers_101 : decode cX5_coversByOthers 101 = .ok (.iastore, 1) := by decide +kernel
theorem dX5_coversByOthers_102 : decode cX5_coversByOthers 102 = .ok (.iinc 2 1, 3) := by decide +kernel
theorem dX5_coversByOthers_105 : decode cX5_coversByOthers 105 = .ok (.goto (-103), 3) := by decide +kernel
theorem dX5_coversByOthers_108 : decode cX5_coversByOthers 108 = .ok (.return_, 1) := by decide +kernel
set_option maxRecDepth 20000 in
theorem ggX5_pays_X5_least : GoodIn wsX5_pays wsX5_least := goodIn_r _ [12] (by decide +kernel) (by decide +kernel)
set_option maxRecDepth 20000 in
theorem gX5_pays_X5_least : GoodIn wsX5_pays (va_wsS RX5 140 yX5_least wsX5_least) := goodIn_app (goodIn_of _ (by decide +kernel)) ggX5_pays_X5_least
theorem dX5_pays_0 : decode cX5_pays 0 = .ok (.aload_n 0, 1) := by decide +kernel
theorem dX5_pays_1 : decode cX5_pays 1 = .ok (.getfield 28, 3) := by decide +kernel
theorem dX5_pays_4 : decode cX5_pays 4 = .ok (.iload_n 1, 1) := by decide +kernel
theorem dX5_pays_5 : decode cX5_pays 5 = .ok (.iaload, 1) := by decide +kernel
theorem dX5_pays_6 : decode cX5_pays 6 = .ok (.aload_n 0, 1) := by decide +kernel
theorem dX5_pays_7 : decode cX5_pays 7 = .ok (.getfield 19, 3) := by decide +kernel
theorem dX5_pays_10 : decode cX5_pays 10 = .ok (.iload_n 1, 1) := by decide +kernel
theorem dX5_pays_11 : decode cX5_pays 11 = .ok (.iaload, 1) := by decide +kernel
theorem dX5_pays_12 : decode cX5_pays 12 = .ok (.if_icmp .lt 12, 3) := by decide +kernel
theorem dX5_pays_15 : decode cX5_pays 15 = .ok (.aload_n 0, 1) := by decide +kernel
theorem dX5_pays_16 : decode cX5_pays 16 = .ok (.getfield 28, 3) := by decide +kernel
theorem dX5_pays_19 : decode cX5_pays 19 = .ok (.iload_n 1, 1) := by decide +kernel
theorem dX5_pays_20 : decode cX5_pays 20 = .ok (.iaload, 1) := by decide +kernel
theorem dX5_pays_21 : decode cX5_pays 21 = .ok (.goto 4, 3) := by decide +kernel
theorem dX5_pays_24 : decode cX5_pays 24 = .ok (.iconst 0, 1) := by decide +kernel
theorem dX5_pays_25 : decode cX5_pays 25 = .ok (.istore_n 2, 1) := by decide +kernel
theorem dX5_pays_26 : decode cX5_pays 26 = .ok (.aload_n 0, 1) := by decide +kernel
theorem dX5_pays_27 : decode cX5_pays 27 = .ok (.getfield 13, 3) := by decide +kernel
theorem dX5_pays_30 : decode cX5_pays 30 = .ok (.iload_n 1, 1) := by decide +kernel
theorem dX5_pays_31 : decode cX5_pays 31 = .ok (.iaload, 1) := by decide +kernel
theorem dX5_pays_32 : decode cX5_pays 32 = .ok (.ifCond .ne 7, 3) := by decide +kernel
theorem dX5_pays_35 : decode cX5_pays 35 = .ok (.iconst 0, 1) := by decide +kernel
theorem dX5_pays_36 : decode cX5_pays 36 = .ok (.goto 30, 3) := by decide +kernel
theorem dX5_pays_39 : decode cX5_pays 39 = .ok (.aload_n 0, 1) := by decide +kernel
theorem dX5_pays_40 : decode cX5_pays 40 = .ok (.getfield 13, 3) := by decide +kernel
theorem dX5_pays_43 : decode cX5_pays 43 = .ok (.iload_n 1, 1) := by decide +kernel
theorem dX5_pays_44 : decode cX5_pays 44 = .ok (.iaload, 1) := by decide +kernel
theorem dX5_pays_45 : decode cX5_pays 45 = .ok (.iconst 1, 1) := by decide +kernel
theorem dX5_pays_46 : decode cX5_pays 46 = .ok (.if_icmp .ne 19, 3) := by decide +kernel
theorem dX5_pays_49 : decode cX5_pays 49 = .ok (.iload_n 2, 1) := by decide +kernel
theorem dX5_pays_50 : decode cX5_pays 50 = .ok (.ldc 144, 2) := by decide +kernel
theorem dX5_pays_52 : decode cX5_pays 52 = .ok (.aload_n 0, 1) := by decide +kernel
theorem dX5_pays_53 : decode cX5_pays 53 = .ok (.getfield 31, 3) := by decide +kernel
theorem dX5_pays_56 : decode cX5_pays 56 = .ok (.iload_n 1, 1) := by decide +kernel
theorem dX5_pays_57 : decode cX5_pays 57 = .ok (.iaload, 1) := by decide +kernel
theorem dX5_pays_58 : decode cX5_pays 58 = .ok (.isub, 1) := by decide +kernel
theorem dX5_pays_59 : decode cX5_pays 59 = .ok (.invokestatic 140, 3) := by decide +kernel
theorem dX5_pays_62 : decode cX5_pays 62 = .ok (.goto 4, 3) := by decide +kernel
theorem dX5_pays_65 : decode cX5_pays 65 = .ok (.iload_n 2, 1) := by decide +kernel
theorem dX5_pays_66 : decode cX5_pays 66 = .ok (.istore_n 2, 1) := by decide +kernel
theorem dX5_pays_67 : decode cX5_pays 67 = .ok (.iload_n 2, 1) := by decide +kernel
theorem dX5_pays_68 : decode cX5_pays 68 = .ok (.ifCond .le 53, 3) := by decide +kernel
theorem dX5_pays_71 : decode cX5_pays 71 = .ok (.aload_n 0, 1) := by decide +kernel
theorem dX5_pays_72 : decode cX5_pays 72 = .ok (.getfield 28, 3) := by decide +kernel
theorem dX5_pays_75 : decode cX5_pays 75 = .ok (.iload_n 1, 1) := by decide +kernel
theorem dX5_pays_76 : decode cX5_pays 76 = .ok (.dup2, 1) := by decide +kernel
theorem dX5_pays_77 : decode cX5_pays 77 = .ok (.iaload, 1) := by decide +kernel
theorem dX5_pays_78 : decode cX5_pays 78 = .ok (.iload_n 2, 1) := by decide +kernel
theorem dX5_pays_79 : decode cX5_pays 79 = .ok (.isub, 1) := by decide +kernel
theorem dX5_pays_80 : decode cX5_pays 80 = .ok (.iastore, 1) := by decide +kernel
theorem dX5_pays_81 : decode cX5_pays 81 = .ok (.aload_n 0, 1) := by decide +kernel
theorem dX5_pays_82 : decode cX5_pays 82 = .ok (.getfield 31, 3) := by decide +kernel
theorem dX5_pays_85 : decode cX5_pays 85 = .ok (.iload_n 1, 1) := by decide +kernel
theorem dX5_pays_86 : decode cX5_pays 86 = .ok (.dup2, 1) := by decide +kernel
theorem dX5_pays_87 : decode cX5_pays 87 = .ok (.iaload, 1) := by decide +kernel
theorem dX5_pays_88 : decode cX5_pays 88 = .ok (.iload_n 2, 1) := by decide +kernel
theorem dX5_pays_89 : decode cX5_pays 89 = .ok (.iadd, 1) := by decide +kernel
theorem dX5_pays_90 : decode cX5_pays 90 = .ok (.iastore, 1) := by decide +kernel
theorem dX5_pays_91 : decode cX5_pays 91 = .ok (.aload_n 0, 1) := by decide +kernel
theorem dX5_pays_92 : decode cX5_pays 92 = .ok (.getfield 65, 3) := by decide +kernel
theorem dX5_pays_95 : decode cX5_pays 95 = .ok (.aload_n 0, 1) := by decide +kernel
theorem dX5_pays_96 : decode cX5_pays 96 = .ok (.getfield 145, 3) := by decide +kernel
theorem dX5_pays_99 : decode cX5_pays 99 = .ok (.iload_n 2, 1) := by decide +kernel
theorem dX5_pays_100 : decode cX5_pays 100 = .ok (.iastore, 1) := by decide +kernel
theorem dX5_pays_101 : decode cX5_pays 101 = .ok (.aload_n 0, 1) := by decide +kernel
theorem dX5_pays_102 : decode cX5_pays 102 = .ok (.getfield 68, 3) := by decide +kernel
theorem dX5_pays_105 : decode cX5_pays 105 = .ok (.aload_n 0, 1) := by decide +kernel
theorem dX5_pays_106 : decode cX5_pays 106 = .ok (.getfield 145, 3) := by decide +kernel
theorem dX5_pays_109 : decode cX5_pays 109 = .ok (.iload_n 1, 1) := by decide +kernel
theorem dX5_pays_110 : decode cX5_pays 110 = .ok (.iastore, 1) := by decide +kernel
theorem dX5_pays_111 : decode cX5_pays 111 = .ok (.aload_n 0, 1) := by decide +kernel
theorem dX5_pays_112 : decode cX5_pays 112 = .ok (.dup, 1) := by decide +kernel
theorem dX5_pays_113 : decode cX5_pays 113 = .ok (.getfield 145, 3) := by decide +kernel
theorem dX5_pays_116 : decode cX5_pays 116 = .ok (.iconst 1, 1) := by decide +kernel
theorem dX5_pays_117 : decode cX5_pays 117 = .ok (.iadd, 1) := by decide +kernel
theorem dX5_pays_118 : decode cX5_pays 118 = .ok (.putfield 145, 3) := by decide +kernel
theorem dX5_pays_121 : decode cX5_pays 121 = .ok (.return_, 1) := by decide +kernel
set_option maxRecDepth 20000 in
theorem ggX5_ends_X5_releases : GoodIn wsX5_ends wsX5_releases := goodIn_r _ [8, 9, 10, 3, 11, 12, 13, 37, 38, 39, 40, 41, 42, 43, 44, 45, 46, 47, 48, 49, 50, 51, 52, 53, 54, 55, 56, 57, 58, 59, 60, 61, 62, 63, 64, 65, 66, 67] (by decide +kernel) (by decide +kernel)
set_option maxRecDepth 20000 in
theorem gX5_ends_X5_releases : GoodIn wsX5_ends (wsV RX5 148 RX5 yX5_releases wsX5_releases) := goodIn_app (goodIn_of _ (by decide +kernel)) ggX5_ends_X5_releases
set_option maxRecDepth 20000 in
theorem ggX5_ends_X5_coversByReserves : GoodIn wsX5_ends wsX5_coversByReserves := goodIn_r _ [17, 9, 11, 12, 13, 18, 19, 7, 20, 37, 38, 39, 40, 41, 42, 43, 44, 45, 46, 47, 48, 49, 50, 51, 52, 53, 54, 55, 56, 57, 58, 59, 60, 61, 62, 63, 64, 65, 66, 67] (by decide +kernel) (by decide +kernel)
set_option maxRecDepth 20000 in
theorem gX5_ends_X5_coversByReserves : GoodIn wsX5_ends (wsV RX5 151 RX5 yX5_coversByReserves wsX5_coversByReserves) := goodIn_app (goodIn_of _ (by decide +kernel)) ggX5_ends_X5_coversByReserves
set_option maxRecDepth 20000 in
theorem ggX5_ends_X5_coversByOthers : GoodIn wsX5_ends wsX5_coversByOthers := goodIn_r _ [24, 1, 11, 25, 18, 19, 7, 20, 37, 38, 39, 40, 41, 42, 43, 44, 45, 46, 47, 48, 49, 50, 51, 52, 53, 54, 55, 56, 57, 58, 59, 60, 61, 62, 63, 64, 65, 66, 67] (by decide +kernel) (by decide +kernel)
set_option maxRecDepth 20000 in
theorem gX5_ends_X5_coversByOthers : GoodIn wsX5_ends (wsV RX5 155 RX5 yX5_coversByOthers wsX5_coversByOthers) := goodIn_app (goodIn_of _ (by decide +kernel)) ggX5_ends_X5_coversByOthers
set_option maxRecDepth 20000 in
theorem ggX5_ends_X5_pays : GoodIn wsX5_ends wsX5_pays := goodIn_r _ [29, 11, 30, 31, 32, 33, 34, 35, 36, 18, 19, 7, 20, 37, 38, 39, 40, 41, 42, 43, 44, 45, 46, 47, 48, 49, 50, 51, 52, 53, 54, 55, 56, 57, 58, 59, 60, 61, 62, 63, 64, 65, 66, 67] (by decide +kernel) (by decide +kernel)
set_option maxRecDepth 20000 in
theorem gX5_ends_X5_pays : GoodIn wsX5_ends (wsV RX5 158 RX5 yX5_pays wsX5_pays) := goodIn_app (goodIn_of _ (by decide +kernel)) ggX5_ends_X5_pays
theorem dX5_ends_0 : decode cX5_ends 0 = .ok (.aload_n 0, 1) := by decide +kernel
theorem dX5_ends_1 : decode cX5_ends 1 = .ok (.invokevirtual 148, 3) := by decide +kernel
theorem dX5_ends_4 : decode cX5_ends 4 = .ok (.iconst 0, 1) := by decide +kernel
theorem dX5_ends_5 : decode cX5_ends 5 = .ok (.istore_n 1, 1) := by decide +kernel
theorem dX5_ends_6 : decode cX5_ends 6 = .ok (.iload_n 1, 1) := by decide +kernel
theorem dX5_ends_7 : decode cX5_ends 7 = .ok (.aload_n 0, 1) := by decide +kernel
theorem dX5_ends_8 : decode cX5_ends 8 = .ok (.getfield 80, 3) := by decide +kernel
theorem dX5_ends_11 : decode cX5_ends 11 = .ok (.if_icmp .ge 14, 3) := by decide +kernel
theorem dX5_ends_14 : decode cX5_ends 14 = .ok (.aload_n 0, 1) := by decide +kernel
theorem dX5_ends_15 : decode cX5_ends 15 = .ok (.iload_n 1, 1) := by decide +kernel
theorem dX5_ends_16 : decode cX5_ends 16 = .ok (.invokevirtual 151, 3) := by decide +kernel
theorem dX5_ends_19 : decode cX5_ends 19 = .ok (.iinc 1 1, 3) := by decide +kernel
theorem dX5_ends_22 : decode cX5_ends 22 = .ok (.goto (-16), 3) := by decide +kernel
theorem dX5_ends_25 : decode cX5_ends 25 = .ok (.iconst 0, 1) := by decide +kernel
theorem dX5_ends_26 : decode cX5_ends 26 = .ok (.istore_n 1, 1) := by decide +kernel
theorem dX5_ends_27 : decode cX5_ends 27 = .ok (.iload_n 1, 1) := by decide +kernel
theorem dX5_ends_28 : decode cX5_ends 28 = .ok (.aload_n 0, 1) := by decide +kernel
theorem dX5_ends_29 : decode cX5_ends 29 = .ok (.getfield 80, 3) := by decide +kernel
theorem dX5_ends_32 : decode cX5_ends 32 = .ok (.if_icmp .ge 14, 3) := by decide +kernel
theorem dX5_ends_35 : decode cX5_ends 35 = .ok (.aload_n 0, 1) := by decide +kernel
theorem dX5_ends_36 : decode cX5_ends 36 = .ok (.iload_n 1, 1) := by decide +kernel
theorem dX5_ends_37 : decode cX5_ends 37 = .ok (.invokevirtual 155, 3) := by decide +kernel
theorem dX5_ends_40 : decode cX5_ends 40 = .ok (.iinc 1 1, 3) := by decide +kernel
theorem dX5_ends_43 : decode cX5_ends 43 = .ok (.goto (-16), 3) := by decide +kernel
theorem dX5_ends_46 : decode cX5_ends 46 = .ok (.iconst 0, 1) := by decide +kernel
theorem dX5_ends_47 : decode cX5_ends 47 = .ok (.istore_n 1, 1) := by decide +kernel
theorem dX5_ends_48 : decode cX5_ends 48 = .ok (.iload_n 1, 1) := by decide +kernel
theorem dX5_ends_49 : decode cX5_ends 49 = .ok (.aload_n 0, 1) := by decide +kernel
theorem dX5_ends_50 : decode cX5_ends 50 = .ok (.getfield 80, 3) := by decide +kernel
theorem dX5_ends_53 : decode cX5_ends 53 = .ok (.if_icmp .ge 30, 3) := by decide +kernel
theorem dX5_ends_56 : decode cX5_ends 56 = .ok (.aload_n 0, 1) := by decide +kernel
theorem dX5_ends_57 : decode cX5_ends 57 = .ok (.getfield 16, 3) := by decide +kernel
theorem dX5_ends_60 : decode cX5_ends 60 = .ok (.iload_n 1, 1) := by decide +kernel
theorem dX5_ends_61 : decode cX5_ends 61 = .ok (.iaload, 1) := by decide +kernel
theorem dX5_ends_62 : decode cX5_ends 62 = .ok (.aload_n 0, 1) := by decide +kernel
theorem dX5_ends_63 : decode cX5_ends 63 = .ok (.getfield 117, 3) := by decide +kernel
theorem dX5_ends_66 : decode cX5_ends 66 = .ok (.bipush 7, 2) := by decide +kernel
theorem dX5_ends_68 : decode cX5_ends 68 = .ok (.irem, 1) := by decide +kernel
theorem dX5_ends_69 : decode cX5_ends 69 = .ok (.if_icmp .ne 8, 3) := by decide +kernel
theorem dX5_ends_72 : decode cX5_ends 72 = .ok (.aload_n 0, 1) := by decide +kernel
theorem dX5_ends_73 : decode cX5_ends 73 = .ok (.iload_n 1, 1) := by decide +kernel
theorem dX5_ends_74 : decode cX5_ends 74 = .ok (.invokevirtual 158, 3) := by decide +kernel
theorem dX5_ends_77 : decode cX5_ends 77 = .ok (.iinc 1 1, 3) := by decide +kernel
theorem dX5_ends_80 : decode cX5_ends 80 = .ok (.goto (-32), 3) := by decide +kernel
theorem dX5_ends_83 : decode cX5_ends 83 = .ok (.aload_n 0, 1) := by decide +kernel
theorem dX5_ends_84 : decode cX5_ends 84 = .ok (.dup, 1) := by decide +kernel
theorem dX5_ends_85 : decode cX5_ends 85 = .ok (.getfield 117, 3) := by decide +kernel
theorem dX5_ends_88 : decode cX5_ends 88 = .ok (.iconst 1, 1) := by decide +kernel
theorem dX5_ends_89 : decode cX5_ends 89 = .ok (.iadd, 1) := by decide +kernel
theorem dX5_ends_90 : decode cX5_ends 90 = .ok (.putfield 117, 3) := by decide +kernel
theorem dX5_ends_93 : decode cX5_ends 93 = .ok (.return_, 1) := by decide +kernel
set_option maxRecDepth 20000 in
theorem ggX5_pass_X5_in : GoodIn wsX5_pass wsX5_in := goodIn_r _ [6] (by decide +kernel) (by decide +kernel)
set_option maxRecDepth 20000 in
theorem gX5_pass_X5_in : GoodIn wsX5_pass (va_wsS RX5 83 yX5_in wsX5_in) := goodIn_app (goodIn_of _ (by decide +kernel)) ggX5_pass_X5_in
set_option maxRecDepth 20000 in
theorem ggX5_pass_X5_holds : GoodIn wsX5_pass wsX5_holds := goodIn_r _ [10, 11, 49, 50, 51, 52, 53, 54, 55, 56, 57, 58, 59, 60, 61, 62, 63, 64, 65, 66, 67, 68, 69, 70, 71, 72, 73, 74, 75, 76, 77, 78, 79] (by decide +kernel) (by decide +kernel)
set_option maxRecDepth 20000 in
theorem gX5_pass_X5_holds : GoodIn wsX5_pass (wsV RX5 87 RX5 yX5_holds wsX5_holds) := goodIn_app (goodIn_of _ (by decide +kernel)) ggX5_pass_X5_holds
set_option maxRecDepth 20000 in
theorem ggX5_pass_X5_ends : GoodIn wsX5_pass wsX5_ends := goodIn_r _ [15, 16, 17, 1, 18, 19, 20, 5, 21, 22, 23, 24, 25, 26, 27, 28, 29, 30, 31, 32, 33, 34, 35, 36, 37, 38, 39, 40, 41, 42, 43, 44, 45, 46, 47, 2, 48, 49, 50, 51, 52, 53, 54, 55, 56, 57, 58, 59, 60, 61, 62, 63, 64, 65, 66, 67, 68, 69, 70, 71, 72, 73, 74, 75, 76, 77, 78, 79] (by decide +kernel) (by decide +kernel)
set_option maxRecDepth 20000 in
theorem gX5_pass_X5_ends : GoodIn wsX5_pass (wsV RX5 161 RX5 yX5_ends wsX5_ends) := goodIn_app (goodIn_of _ (by decide +kernel)) ggX5_pass_X5_ends
theorem dX5_pass_0 : decode cX5_pass 0 = .ok (.aload_n 0, 1) := by decide +kernel
theorem dX5_pass_1 : decode cX5_pass 1 = .ok (.iload_n 1, 1) := by decide +kernel
theorem dX5_pass_2 : decode cX5_pass 2 = .ok (.iconst 1, 1) := by decide +kernel
theorem dX5_pass_3 : decode cX5_pass 3 = .ok (.bipush 100, 2) := by decide +kernel
theorem dX5_pass_5 : decode cX5_pass 5 = .ok (.invokestatic 83, 3) := by decide +kernel
theorem dX5_pass_8 : decode cX5_pass 8 = .ok (.ifCond .ne 7, 3) := by decide +kernel
theorem dX5_pass_11 : decode cX5_pass 11 = .ok (.iconst 1, 1) := by decide +kernel
theorem dX5_pass_12 : decode cX5_pass 12 = .ok (.goto 20, 3) := by decide +kernel
theorem dX5_pass_15 : decode cX5_pass 15 = .ok (.aload_n 0, 1) := by decide +kernel
theorem dX5_pass_16 : decode cX5_pass 16 = .ok (.getfield 117, 3) := by decide +kernel
theorem dX5_pass_19 : decode cX5_pass 19 = .ok (.iload_n 1, 1) := by decide +kernel
theorem dX5_pass_20 : decode cX5_pass 20 = .ok (.iadd, 1) := by decide +kernel
theorem dX5_pass_21 : decode cX5_pass 21 = .ok (.sipush 5000, 3) := by decide +kernel
theorem dX5_pass_24 : decode cX5_pass 24 = .ok (.if_icmp .le 7, 3) := by decide +kernel
theorem dX5_pass_27 : decode cX5_pass 27 = .ok (.iconst 2, 1) := by decide +kernel
theorem dX5_pass_28 : decode cX5_pass 28 = .ok (.goto 4, 3) := by decide +kernel
theorem dX5_pass_31 : decode cX5_pass 31 = .ok (.iconst 0, 1) := by decide +kernel
theorem dX5_pass_32 : decode cX5_pass 32 = .ok (.invokevirtual 87, 3) := by decide +kernel
theorem dX5_pass_35 : decode cX5_pass 35 = .ok (.ifCond .ne 5, 3) := by decide +kernel
theorem dX5_pass_38 : decode cX5_pass 38 = .ok (.iconst 0, 1) := by decide +kernel
theorem dX5_pass_39 : decode cX5_pass 39 = .ok (.ireturn, 1) := by decide +kernel
theorem dX5_pass_40 : decode cX5_pass 40 = .ok (.aload_n 0, 1) := by decide +kernel
theorem dX5_pass_41 : decode cX5_pass 41 = .ok (.getfield 145, 3) := by decide +kernel
theorem dX5_pass_44 : decode cX5_pass 44 = .ok (.istore_n 2, 1) := by decide +kernel
theorem dX5_pass_45 : decode cX5_pass 45 = .ok (.iconst 0, 1) := by decide +kernel
theorem dX5_pass_46 : decode cX5_pass 46 = .ok (.istore_n 3, 1) := by decide +kernel
theorem dX5_pass_47 : decode cX5_pass 47 = .ok (.iload_n 3, 1) := by decide +kernel
theorem dX5_pass_48 : decode cX5_pass 48 = .ok (.iload_n 1, 1) := by decide +kernel
theorem dX5_pass_49 : decode cX5_pass 49 = .ok (.if_icmp .ge 13, 3) := by decide +kernel
theorem dX5_pass_52 : decode cX5_pass 52 = .ok (.aload_n 0, 1) := by decide +kernel
theorem dX5_pass_53 : decode cX5_pass 53 = .ok (.invokevirtual 161, 3) := by decide +kernel
theorem dX5_pass_56 : decode cX5_pass 56 = .ok (.iinc 3 1, 3) := by decide +kernel
theorem dX5_pass_59 : decode cX5_pass 59 = .ok (.goto (-12), 3) := by decide +kernel
theorem dX5_pass_62 : decode cX5_pass 62 = .ok (.aload_n 0, 1) := by decide +kernel
theorem dX5_pass_63 : decode cX5_pass 63 = .ok (.getfield 145, 3) := by decide +kernel
theorem dX5_pass_66 : decode cX5_pass 66 = .ok (.iload_n 2, 1) := by decide +kernel
theorem dX5_pass_67 : decode cX5_pass 67 = .ok (.isub, 1) := by decide +kernel
theorem dX5_pass_68 : decode cX5_pass 68 = .ok (.ireturn, 1) := by decide +kernel
set_option maxRecDepth 20000 in
theorem ggX5_isPayout_X5_in : GoodIn wsX5_isPayout wsX5_in := goodIn_r _ [5] (by decide +kernel) (by decide +kernel)
set_option maxRecDepth 20000 in
theorem gX5_isPayout_X5_in : GoodIn wsX5_isPayout (va_wsS RX5 83 yX5_in wsX5_in) := goodIn_app (goodIn_of _ (by decide +kernel)) ggX5_isPayout_X5_in
theorem dX5_isPayout_0 : decode cX5_isPayout 0 = .ok (.iload_n 1, 1) := by decide +kernel
theorem dX5_isPayout_1 : decode cX5_isPayout 1 = .ok (.iconst 0, 1) := by decide +kernel
theorem dX5_isPayout_2 : decode cX5_isPayout 2 = .ok (.aload_n 0, 1) := by decide +kernel
theorem dX5_isPayout_3 : decode cX5_isPayout 3 = .ok (.getfield 145, 3) := by decide +kernel
theorem dX5_isPayout_6 : decode cX5_isPayout 6 = .ok (.iconst 1, 1) := by decide +kernel
theorem dX5_isPayout_7 : decode cX5_isPayout 7 = .ok (.isub, 1) := by decide +kernel
theorem dX5_isPayout_8 : decode cX5_isPayout 8 = .ok (.invokestatic 83, 3) := by decide +kernel
theorem dX5_isPayout_11 : decode cX5_isPayout 11 = .ok (.ireturn, 1) := by decide +kernel
set_option maxRecDepth 20000 in
theorem ggX5_fail_X5_isPayout : GoodIn wsX5_fail wsX5_isPayout := goodIn_r _ [10, 11, 12, 13, 9, 14, 20, 21, 22, 23, 24, 25, 26, 27, 28, 29, 30, 31, 32, 33, 34, 35, 36, 37, 38, 39, 40, 41, 42, 43, 44, 45, 46, 47, 48, 49, 50] (by decide +kernel) (by decide +kernel)
set_option maxRecDepth 20000 in
theorem gX5_fail_X5_isPayout : GoodIn wsX5_fail (wsV RX5 164 RX5 yX5_isPayout wsX5_isPayout) := goodIn_app (goodIn_of _ (by decide +kernel)) ggX5_fail_X5_isPayout
set_option maxRecDepth 20000 in
theorem ggX5_fail_X5_holds : GoodIn wsX5_fail wsX5_holds := goodIn_r _ [18, 19, 20, 21, 22, 23, 24, 25, 26, 27, 28, 29, 30, 31, 32, 33, 34, 35, 36, 37, 38, 39, 40, 41, 42, 43, 44, 45, 46, 47, 48, 49, 50] (by decide +kernel) (by decide +kernel)
set_option maxRecDepth 20000 in
theorem gX5_fail_X5_holds : GoodIn wsX5_fail (wsV RX5 87 RX5 yX5_holds wsX5_holds) := goodIn_app (goodIn_of _ (by decide +kernel)) ggX5_fail_X5_holds
theorem dX5_fail_0 : decode cX5_fail 0 = .ok (.aload_n 0, 1) := by decide +kernel
theorem dX5_fail_1 : decode cX5_fail 1 = .ok (.aload_n 0, 1) := by decide +kernel
theorem dX5_fail_2 : decode cX5_fail 2 = .ok (.iload_n 1, 1) := by decide +kernel
theorem dX5_fail_3 : decode cX5_fail 3 = .ok (.invokevirtual 164, 3) := by decide +kernel
theorem dX5_fail_6 : decode cX5_fail 6 = .ok (.ifCond .ne 7, 3) := by decide +kernel
theorem dX5_fail_9 : decode cX5_fail 9 = .ok (.iconst 1, 1) := by decide +kernel
theorem dX5_fail_10 : decode cX5_fail 10 = .ok (.goto 17, 3) := by decide +kernel
theorem dX5_fail_13 : decode cX5_fail 13 = .ok (.aload_n 0, 1) := by decide +kernel
theorem dX5_fail_14 : decode cX5_fail 14 = .ok (.getfield 71, 3) := by decide +kernel
theorem dX5_fail_17 : decode cX5_fail 17 = .ok (.iload_n 1, 1) := by decide +kernel
theorem dX5_fail_18 : decode cX5_fail 18 = .ok (.baload, 1) := by decide +kernel
theorem dX5_fail_19 : decode cX5_fail 19 = .ok (.ifCond .eq 7, 3) := by decide +kernel
theorem dX5_fail_22 : decode cX5_fail 22 = .ok (.iconst 2, 1) := by decide +kernel
theorem dX5_fail_23 : decode cX5_fail 23 = .ok (.goto 4, 3) := by decide +kernel
theorem dX5_fail_26 : decode cX5_fail 26 = .ok (.iconst 0, 1) := by decide +kernel
theorem dX5_fail_27 : decode cX5_fail 27 = .ok (.invokevirtual 87, 3) := by decide +kernel
theorem dX5_fail_30 : decode cX5_fail 30 = .ok (.ifCond .ne 5, 3) := by decide +kernel
theorem dX5_fail_33 : decode cX5_fail 33 = .ok (.iconst 0, 1) := by decide +kernel
theorem dX5_fail_34 : decode cX5_fail 34 = .ok (.ireturn, 1) := by decide +kernel
theorem dX5_fail_35 : decode cX5_fail 35 = .ok (.aload_n 0, 1) := by decide +kernel
theorem dX5_fail_36 : decode cX5_fail 36 = .ok (.getfield 68, 3) := by decide +kernel
theorem dX5_fail_39 : decode cX5_fail 39 = .ok (.iload_n 1, 1) := by decide +kernel
theorem dX5_fail_40 : decode cX5_fail 40 = .ok (.iaload, 1) := by decide +kernel
theorem dX5_fail_41 : decode cX5_fail 41 = .ok (.istore_n 2, 1) := by decide +kernel
theorem dX5_fail_42 : decode cX5_fail 42 = .ok (.aload_n 0, 1) := by decide +kernel
theorem dX5_fail_43 : decode cX5_fail 43 = .ok (.getfield 71, 3) := by decide +kernel
theorem dX5_fail_46 : decode cX5_fail 46 = .ok (.iload_n 1, 1) := by decide +kernel
theorem dX5_fail_47 : decode cX5_fail 47 = .ok (.iconst 1, 1) := by decide +kernel
theorem dX5_fail_48 : decode cX5_fail 48 = .ok (.bastore, 1) := by decide +kernel
theorem dX5_fail_49 : decode cX5_fail 49 = .ok (.aload_n 0, 1) := by decide +kernel
theorem dX5_fail_50 : decode cX5_fail 50 = .ok (.getfield 28, 3) := by decide +kernel
theorem dX5_fail_53 : decode cX5_fail 53 = .ok (.iload_n 2, 1) := by decide +kernel
theorem dX5_fail_54 : decode cX5_fail 54 = .ok (.dup2, 1) := by decide +kernel
theorem dX5_fail_55 : decode cX5_fail 55 = .ok (.iaload, 1) := by decide +kernel
theorem dX5_fail_56 : decode cX5_fail 56 = .ok (.aload_n 0, 1) := by decide +kernel
theorem dX5_fail_57 : decode cX5_fail 57 = .ok (.getfield 65, 3) := by decide +kernel
theorem dX5_fail_60 : decode cX5_fail 60 = .ok (.iload_n 1, 1) := by decide +kernel
theorem dX5_fail_61 : decode cX5_fail 61 = .ok (.iaload, 1) := by decide +kernel
theorem dX5_fail_62 : decode cX5_fail 62 = .ok (.iadd, 1) := by decide +kernel
theorem dX5_fail_63 : decode cX5_fail 63 = .ok (.iastore, 1) := by decide +kernel
theorem dX5_fail_64 : decode cX5_fail 64 = .ok (.aload_n 0, 1) := by decide +kernel
theorem dX5_fail_65 : decode cX5_fail 65 = .ok (.getfield 31, 3) := by decide +kernel
theorem dX5_fail_68 : decode cX5_fail 68 = .ok (.iload_n 2, 1) := by decide +kernel
theorem dX5_fail_69 : decode cX5_fail 69 = .ok (.dup2, 1) := by decide +kernel
theorem dX5_fail_70 : decode cX5_fail 70 = .ok (.iaload, 1) := by decide +kernel
theorem dX5_fail_71 : decode cX5_fail 71 = .ok (.aload_n 0, 1) := by decide +kernel
theorem dX5_fail_72 : decode cX5_fail 72 = .ok (.getfield 65, 3) := by decide +kernel
theorem dX5_fail_75 : decode cX5_fail 75 = .ok (.iload_n 1, 1) := by decide +kernel
theorem dX5_fail_76 : decode cX5_fail 76 = .ok (.iaload, 1) := by decide +kernel
theorem dX5_fail_77 : decode cX5_fail 77 = .ok (.isub, 1) := by decide +kernel
theorem dX5_fail_78 : decode cX5_fail 78 = .ok (.iastore, 1) := by decide +kernel
theorem dX5_fail_79 : decode cX5_fail 79 = .ok (.aload_n 0, 1) := by decide +kernel
theorem dX5_fail_80 : decode cX5_fail 80 = .ok (.getfield 28, 3) := by decide +kernel
theorem dX5_fail_83 : decode cX5_fail 83 = .ok (.iload_n 2, 1) := by decide +kernel
theorem dX5_fail_84 : decode cX5_fail 84 = .ok (.iaload, 1) := by decide +kernel
theorem dX5_fail_85 : decode cX5_fail 85 = .ok (.ireturn, 1) := by decide +kernel
theorem dX5_today_0 : decode cX5_today 0 = .ok (.aload_n 0, 1) := by decide +kernel
theorem dX5_today_1 : decode cX5_today 1 = .ok (.iconst 0, 1) := by decide +kernel
theorem dX5_today_2 : decode cX5_today 2 = .ok (.putfield 76, 3) := by decide +kernel
theorem dX5_today_5 : decode cX5_today 5 = .ok (.aload_n 0, 1) := by decide +kernel
theorem dX5_today_6 : decode cX5_today 6 = .ok (.getfield 117, 3) := by decide +kernel
theorem dX5_today_9 : decode cX5_today 9 = .ok (.ireturn, 1) := by decide +kernel
theorem dX5_payouts_0 : decode cX5_payouts 0 = .ok (.aload_n 0, 1) := by decide +kernel
theorem dX5_payouts_1 : decode cX5_payouts 1 = .ok (.iconst 0, 1) := by decide +kernel
theorem dX5_payouts_2 : decode cX5_payouts 2 = .ok (.putfield 76, 3) := by decide +kernel
theorem dX5_payouts_5 : decode cX5_payouts 5 = .ok (.aload_n 0, 1) := by decide +kernel
theorem dX5_payouts_6 : decode cX5_payouts 6 = .ok (.getfield 145, 3) := by decide +kernel
theorem dX5_payouts_9 : decode cX5_payouts 9 = .ok (.ireturn, 1) := by decide +kernel
set_option maxRecDepth 20000 in
theorem ggX5_payout_X5_isPayout : GoodIn wsX5_payout wsX5_isPayout := goodIn_r _ [6, 7, 8, 9, 5, 10, 16, 17, 18, 19, 20, 21, 22, 23, 24, 25, 26, 27, 28, 29, 30, 31, 32, 33, 34, 35, 36, 37, 38, 39, 40, 41, 42, 43, 44, 45, 46] (by decide +kernel) (by decide +kernel)
set_option maxRecDepth 20000 in
theorem gX5_payout_X5_isPayout : GoodIn wsX5_payout (wsV RX5 164 RX5 yX5_isPayout wsX5_isPayout) := goodIn_app (goodIn_of _ (by decide +kernel)) ggX5_payout_X5_isPayout
set_option maxRecDepth 20000 in
theorem ggX5_payout_X5_holds : GoodIn wsX5_payout wsX5_holds := goodIn_r _ [14, 15, 16, 17, 18, 19, 20, 21, 22, 23, 24, 25, 26, 27, 28, 29, 30, 31, 32, 33, 34, 35, 36, 37, 38, 39, 40, 41, 42, 43, 44, 45, 46] (by decide +kernel) (by decide +kernel)
set_option maxRecDepth 20000 in
theorem gX5_payout_X5_holds : GoodIn wsX5_payout (wsV RX5 87 RX5 yX5_holds wsX5_holds) := goodIn_app (goodIn_of _ (by decide +kernel)) ggX5_payout_X5_holds
theorem dX5_payout_0 : decode cX5_payout 0 = .ok (.aload_n 0, 1) := by decide +kernel
theorem dX5_payout_1 : decode cX5_payout 1 = .ok (.aload_n 0, 1) := by decide +kernel
theorem dX5_payout_2 : decode cX5_payout 2 = .ok (.iload_n 1, 1) := by decide +kernel
theorem dX5_payout_3 : decode cX5_payout 3 = .ok (.invokevirtual 164, 3) := by decide +kernel
theorem dX5_payout_6 : decode cX5_payout 6 = .ok (.ifCond .eq 7, 3) := by decide +kernel
theorem dX5_payout_9 : decode cX5_payout 9 = .ok (.iconst 0, 1) := by decide +kernel
theorem dX5_payout_10 : decode cX5_payout 10 = .ok (.goto 4, 3) := by decide +kernel
theorem dX5_payout_13 : decode cX5_payout 13 = .ok (.iconst 1, 1) := by decide +kernel
theorem dX5_payout_14 : decode cX5_payout 14 = .ok (.invokevirtual 87, 3) := by decide +kernel
theorem dX5_payout_17 : decode cX5_payout 17 = .ok (.ifCond .eq 12, 3) := by decide +kernel
theorem dX5_payout_20 : decode cX5_payout 20 = .ok (.aload_n 0, 1) := by decide +kernel
theorem dX5_payout_21 : decode cX5_payout 21 = .ok (.getfield 65, 3) := by decide +kernel
theorem dX5_payout_24 : decode cX5_payout 24 = .ok (.iload_n 1, 1) := by decide +kernel
theorem dX5_payout_25 : decode cX5_payout 25 = .ok (.iaload, 1) := by decide +kernel
theorem dX5_payout_26 : decode cX5_payout 26 = .ok (.goto 4, 3) := by decide +kernel
theorem dX5_payout_29 : decode cX5_payout 29 = .ok (.iconst 0, 1) := by decide +kernel
theorem dX5_payout_30 : decode cX5_payout 30 = .ok (.ireturn, 1) := by decide +kernel
set_option maxRecDepth 20000 in
theorem ggX5_sellerOf_X5_isPayout : GoodIn wsX5_sellerOf wsX5_isPayout := goodIn_r _ [6, 7, 8, 9, 5, 10, 16, 17, 18, 19, 20, 21, 22, 23, 24, 25, 26, 27, 28, 29, 30, 31, 32, 33, 34, 35, 36, 37, 38, 39, 40, 41, 42, 43, 44, 45, 46] (by decide +kernel) (by decide +kernel)
set_option maxRecDepth 20000 in
theorem gX5_sellerOf_X5_isPayout : GoodIn wsX5_sellerOf (wsV RX5 164 RX5 yX5_isPayout wsX5_isPayout) := goodIn_app (goodIn_of _ (by decide +kernel)) ggX5_sellerOf_X5_isPayout
set_option maxRecDepth 20000 in
theorem ggX5_sellerOf_X5_holds : GoodIn wsX5_sellerOf wsX5_holds := goodIn_r _ [14, 15, 16, 17, 18, 19, 20, 21, 22, 23, 24, 25, 26, 27, 28, 29, 30, 31, 32, 33, 34, 35, 36, 37, 38, 39, 40, 41, 42, 43, 44, 45, 46] (by decide +kernel) (by decide +kernel)
set_option maxRecDepth 20000 in
theorem gX5_sellerOf_X5_holds : GoodIn wsX5_sellerOf (wsV RX5 87 RX5 yX5_holds wsX5_holds) := goodIn_app (goodIn_of _ (by decide +kernel)) ggX5_sellerOf_X5_holds
theorem dX5_sellerOf_0 : decode cX5_sellerOf 0 = .ok (.aload_n 0, 1) := by decide +kernel
theorem dX5_sellerOf_1 : decode cX5_sellerOf 1 = .ok (.aload_n 0, 1) := by decide +kernel
theorem dX5_sellerOf_2 : decode cX5_sellerOf 2 = .ok (.iload_n 1, 1) := by decide +kernel
theorem dX5_sellerOf_3 : decode cX5_sellerOf 3 = .ok (.invokevirtual 164, 3) := by decide +kernel
theorem dX5_sellerOf_6 : decode cX5_sellerOf 6 = .ok (.ifCond .eq 7, 3) := by decide +kernel
theorem dX5_sellerOf_9 : decode cX5_sellerOf 9 = .ok (.iconst 0, 1) := by decide +kernel
theorem dX5_sellerOf_10 : decode cX5_sellerOf 10 = .ok (.goto 4, 3) := by decide +kernel
theorem dX5_sellerOf_13 : decode cX5_sellerOf 13 = .ok (.iconst 1, 1) := by decide +kernel
theorem dX5_sellerOf_14 : decode cX5_sellerOf 14 = .ok (.invokevirtual 87, 3) := by decide +kernel
theorem dX5_sellerOf_17 : decode cX5_sellerOf 17 = .ok (.ifCond .eq 12, 3) := by decide +kernel
theorem dX5_sellerOf_20 : decode cX5_sellerOf 20 = .ok (.aload_n 0, 1) := by decide +kernel
theorem dX5_sellerOf_21 : decode cX5_sellerOf 21 = .ok (.getfield 68, 3) := by decide +kernel
theorem dX5_sellerOf_24 : decode cX5_sellerOf 24 = .ok (.iload_n 1, 1) := by decide +kernel
theorem dX5_sellerOf_25 : decode cX5_sellerOf 25 = .ok (.iaload, 1) := by decide +kernel
theorem dX5_sellerOf_26 : decode cX5_sellerOf 26 = .ok (.goto 4, 3) := by decide +kernel
theorem dX5_sellerOf_29 : decode cX5_sellerOf 29 = .ok (.iconst 0, 1) := by decide +kernel
theorem dX5_sellerOf_30 : decode cX5_sellerOf 30 = .ok (.ireturn, 1) := by decide +kernel
set_option maxRecDepth 20000 in
theorem ggX5_balance_X5_isSeller : GoodIn wsX5_balance wsX5_isSeller := goodIn_r _ [6, 7, 8, 9, 5, 10, 16, 17, 18, 19, 20, 21, 22, 23, 24, 25, 26, 27, 28, 29, 30, 31, 32, 33, 34, 35, 36, 37, 38, 39, 40, 41, 42, 43, 44, 45, 46] (by decide +kernel) (by decide +kernel)
set_option maxRecDepth 20000 in
theorem gX5_balance_X5_isSeller : GoodIn wsX5_balance (wsV RX5 91 RX5 yX5_isSeller wsX5_isSeller) := goodIn_app (goodIn_of _ (by decide +kernel)) ggX5_balance_X5_isSeller
set_option maxRecDepth 20000 in
theorem ggX5_balance_X5_holds : GoodIn wsX5_balance wsX5_holds := goodIn_r _ [14, 15, 16, 17, 18, 19, 20, 21, 22, 23, 24, 25, 26, 27, 28, 29, 30, 31, 32, 33, 34, 35, 36, 37, 38, 39, 40, 41, 42, 43, 44, 45, 46] (by decide +kernel) (by decide +kernel)
set_option maxRecDepth 20000 in
theorem gX5_balance_X5_holds : GoodIn wsX5_balance (wsV RX5 87 RX5 yX5_holds wsX5_holds) := goodIn_app (goodIn_of _ (by decide +kernel)) ggX5_balance_X5_holds
theorem dX5_balance_0 : decode cX5_balance 0 = .ok (.aload_n 0, 1) := by decide +kernel
theorem dX5_balance_1 : decode cX5_balance 1 = .ok (.aload_n 0, 1) := by decide +kernel
theorem dX5_balance_2 : decode cX5_balance 2 = .ok (.iload_n 1, 1) := by decide +kernel
theorem dX5_balance_3 : decode cX5_balance 3 = .ok (.invokevirtual 91, 3) := by decide +kernel
theorem dX5_balance_6 : decode cX5_balance 6 = .ok (.ifCond .eq 7, 3) := by decide +kernel
theorem dX5_balance_9 : decode cX5_balance 9 = .ok (.iconst 0, 1) := by decide +kernel
theorem dX5_balance_10 : decode cX5_balance 10 = .ok (.goto 4, 3) := by decide +kernel
theorem dX5_balance_13 : decode cX5_balance 13 = .ok (.iconst 1, 1) := by decide +kernel
theorem dX5_balance_14 : decode cX5_balance 14 = .ok (.invokevirtual 87, 3) := by decide +kernel
theorem dX5_balance_17 : decode cX5_balance 17 = .ok (.ifCond .eq 12, 3) := by decide +kernel
theorem dX5_balance_20 : decode cX5_balance 20 = .ok (.aload_n 0, 1) := by decide +kernel
theorem dX5_balance_21 : decode cX5_balance 21 = .ok (.getfield 28, 3) := by decide +kernel
theorem dX5_balance_24 : decode cX5_balance 24 = .ok (.iload_n 1, 1) := by decide +kernel
theorem dX5_balance_25 : decode cX5_balance 25 = .ok (.iaload, 1) := by decide +kernel
theorem dX5_balance_26 : decode cX5_balance 26 = .ok (.goto 4, 3) := by decide +kernel
theorem dX5_balance_29 : decode cX5_balance 29 = .ok (.iconst 0, 1) := by decide +kernel
theorem dX5_balance_30 : decode cX5_balance 30 = .ok (.ireturn, 1) := by decide +kernel
set_option maxRecDepth 20000 in
theorem ggX5_balanceByEntries_X5_isSeller : GoodIn wsX5_balanceByEntries wsX5_isSeller := goodIn_r _ [6, 7, 8, 9, 5, 10, 16, 17, 18, 19, 20, 21, 22, 23, 24, 25, 26, 27, 28, 29, 30, 31, 32, 33, 34, 35, 36, 37, 38, 39, 40, 41, 42, 43, 44, 45, 46] (by decide +kernel) (by decide +kernel)
set_option maxRecDepth 20000 in
theorem gX5_balanceByEntries_X5_isSeller : GoodIn wsX5_balanceByEntries (wsV RX5 91 RX5 yX5_isSeller wsX5_isSeller) := goodIn_app (goodIn_of _ (by decide +kernel)) ggX5_balanceByEntries_X5_isSeller
set_option maxRecDepth 20000 in
theorem ggX5_balanceByEntries_X5_holds : GoodIn wsX5_balanceByEntries wsX5_holds := goodIn_r _ [14, 15, 16, 17, 18, 19, 20, 21, 22, 23, 24, 25, 26, 27, 28, 29, 30, 31, 32, 33, 34, 35, 36, 37, 38, 39, 40, 41, 42, 43, 44, 45, 46] (by decide +kernel) (by decide +kernel)
set_option maxRecDepth 20000 in
theorem gX5_balanceByEntries_X5_holds : GoodIn wsX5_balanceByEntries (wsV RX5 87 RX5 yX5_holds wsX5_holds) := goodIn_app (goodIn_of _ (by decide +kernel)) ggX5_balanceByEntries_X5_holds
theorem dX5_balanceByEntries_0 : decode cX5_balanceByEntries 0 = .ok (.aload_n 0, 1) := by decide +kernel
theorem dX5_balanceByEntries_1 : decode cX5_balanceByEntries 1 = .ok (.aload_n 0, 1) := by decide +kernel
theorem dX5_balanceByEntries_2 : decode cX5_balanceByEntries 2 = .ok (.iload_n 1, 1) := by decide +kernel
theorem dX5_balanceByEntries_3 : decode cX5_balanceByEntries 3 = .ok (.invokevirtual 91, 3) := by decide +kernel
theorem dX5_balanceByEntries_6 : decode cX5_balanceByEntries 6 = .ok (.ifCond .eq 7, 3) := by decide +kernel
theorem dX5_balanceByEntries_9 : decode cX5_balanceByEntries 9 = .ok (.iconst 0, 1) := by decide +kernel
theorem dX5_balanceByEntries_10 : decode cX5_balanceByEntries 10 = .ok (.goto 4, 3) := by decide +kernel
theorem dX5_balanceByEntries_13 : decode cX5_balanceByEntries 13 = .ok (.iconst 1, 1) := by decide +kernel
theorem dX5_balanceByEntries_14 : decode cX5_balanceByEntries 14 = .ok (.invokevirtual 87, 3) := by decide +kernel
theorem dX5_balanceByEntries_17 : decode cX5_balanceByEntries 17 = .ok (.ifCond .eq 12, 3) := by decide +kernel
theorem dX5_balanceByEntries_20 : decode cX5_balanceByEntries 20 = .ok (.aload_n 0, 1) := by decide +kernel
theorem dX5_balanceByEntries_21 : decode cX5_balanceByEntries 21 = .ok (.getfield 28, 3) := by decide +kernel
theorem dX5_balanceByEntries_24 : decode cX5_balanceByEntries 24 = .ok (.iload_n 1, 1) := by decide +kernel
theorem dX5_balanceByEntries_25 : decode cX5_balanceByEntries 25 = .ok (.iaload, 1) := by decide +kernel
theorem dX5_balanceByEntries_26 : decode cX5_balanceByEntries 26 = .ok (.goto 4, 3) := by decide +kernel
theorem dX5_balanceByEntries_29 : decode cX5_balanceByEntries 29 = .ok (.iconst 0, 1) := by decide +kernel
theorem dX5_balanceByEntries_30 : decode cX5_balanceByEntries 30 = .ok (.ireturn, 1) := by decide +kernel
set_option maxRecDepth 20000 in
theorem ggX5_reserve_X5_isSeller : GoodIn wsX5_reserve wsX5_isSeller := goodIn_r _ [8, 9, 10, 11, 7, 12, 18, 19, 20, 21, 22, 23, 24, 25, 26, 27, 28, 29, 30, 31, 32, 33, 34, 35, 36, 37, 38, 39, 40, 41, 42, 43, 44, 45, 46, 47, 48] (by decide +kernel) (by decide +kernel)
set_option maxRecDepth 20000 in
theorem gX5_reserve_X5_isSeller : GoodIn wsX5_reserve (wsV RX5 91 RX5 yX5_isSeller wsX5_isSeller) := goodIn_app (goodIn_of _ (by decide +kernel)) ggX5_reserve_X5_isSeller
set_option maxRecDepth 20000 in
theorem ggX5_reserve_X5_holds : GoodIn wsX5_reserve wsX5_holds := goodIn_r _ [16, 17, 18, 19, 20, 21, 22, 23, 24, 25, 26, 27, 28, 29, 30, 31, 32, 33, 34, 35, 36, 37, 38, 39, 40, 41, 42, 43, 44, 45, 46, 47, 48] (by decide +kernel) (by decide +kernel)
set_option maxRecDepth 20000 in
theorem gX5_reserve_X5_holds : GoodIn wsX5_reserve (wsV RX5 87 RX5 yX5_holds wsX5_holds) := goodIn_app (goodIn_of _ (by decide +kernel)) ggX5_reserve_X5_holds
theorem dX5_reserve_0 : decode cX5_reserve 0 = .ok (.aload_n 0, 1) := by decide +kernel
theorem dX5_reserve_1 : decode cX5_reserve 1 = .ok (.aload_n 0, 1) := by decide +kernel
theorem dX5_reserve_2 : decode cX5_reserve 2 = .ok (.iload_n 1, 1) := by decide +kernel
theorem dX5_reserve_3 : decode cX5_reserve 3 = .ok (.invokevirtual 91, 3) := by decide +kernel
theorem dX5_reserve_6 : decode cX5_reserve 6 = .ok (.ifCond .eq 7, 3) := by decide +kernel
theorem dX5_reserve_9 : decode cX5_reserve 9 = .ok (.iconst 0, 1) := by decide +kernel
theorem dX5_reserve_10 : decode cX5_reserve 10 = .ok (.goto 4, 3) := by decide +kernel
theorem dX5_reserve_13 : decode cX5_reserve 13 = .ok (.iconst 1, 1) := by decide +kernel
theorem dX5_reserve_14 : decode cX5_reserve 14 = .ok (.invokevirtual 87, 3) := by decide +kernel
theorem dX5_reserve_17 : decode cX5_reserve 17 = .ok (.ifCond .ne 5, 3) := by decide +kernel
theorem dX5_reserve_20 : decode cX5_reserve 20 = .ok (.iconst 0, 1) := by decide +kernel
theorem dX5_reserve_21 : decode cX5_reserve 21 = .ok (.ireturn, 1) := by decide +kernel
theorem dX5_reserve_22 : decode cX5_reserve 22 = .ok (.iconst 0, 1) := by decide +kernel
theorem dX5_reserve_23 : decode cX5_reserve 23 = .ok (.istore_n 2, 1) := by decide +kernel
theorem dX5_reserve_24 : decode cX5_reserve 24 = .ok (.iconst 0, 1) := by decide +kernel
theorem dX5_reserve_25 : decode cX5_reserve 25 = .ok (.istore_n 3, 1) := by decide +kernel
theorem dX5_reserve_26 : decode cX5_reserve 26 = .ok (.iload_n 3, 1) := by decide +kernel
theorem dX5_reserve_27 : decode cX5_reserve 27 = .ok (.aload_n 0, 1) := by decide +kernel
theorem dX5_reserve_28 : decode cX5_reserve 28 = .ok (.getfield 114, 3) := by decide +kernel
theorem dX5_reserve_31 : decode cX5_reserve 31 = .ok (.if_icmp .ge 32, 3) := by decide +kernel
theorem dX5_reserve_34 : decode cX5_reserve 34 = .ok (.iload_n 2, 1) := by decide +kernel
theorem dX5_reserve_35 : decode cX5_reserve 35 = .ok (.aload_n 0, 1) := by decide +kernel
theorem dX5_reserve_36 : decode cX5_reserve 36 = .ok (.getfield 38, 3) := by decide +kernel
theorem dX5_reserve_39 : decode cX5_reserve 39 = .ok (.iload_n 3, 1) := by decide +kernel
theorem dX5_reserve_40 : decode cX5_reserve 40 = .ok (.iaload, 1) := by decide +kernel
theorem dX5_reserve_41 : decode cX5_reserve 41 = .ok (.iload_n 1, 1) := by decide +kernel
theorem dX5_reserve_42 : decode cX5_reserve 42 = .ok (.if_icmp .ne 12, 3) := by decide +kernel
theorem dX5_reserve_45 : decode cX5_reserve 45 = .ok (.aload_n 0, 1) := by decide +kernel
theorem dX5_reserve_46 : decode cX5_reserve 46 = .ok (.getfield 59, 3) := by decide +kernel
theorem dX5_reserve_49 : decode cX5_reserve 49 = .ok (.iload_n 3, 1) := by decide +kernel
theorem dX5_reserve_50 : decode cX5_reserve 50 = .ok (.iaload, 1) := by decide +kernel
theorem dX5_reserve_51 : decode cX5_reserve 51 = .ok (.goto 4, 3) := by decide +kernel
theorem dX5_reserve_54 : decode cX5_reserve 54 = .ok (.iconst 0, 1) := by decide +kernel
theorem dX5_reserve_55 : decode cX5_reserve 55 = .ok (.iadd, 1) := by decide +kernel
theorem dX5_reserve_56 : decode cX5_reserve 56 = .ok (.istore_n 2, 1) := by decide +kernel
theorem dX5_reserve_57 : decode cX5_reserve 57 = .ok (.iinc 3 1, 3) := by decide +kernel
theorem dX5_reserve_60 : decode cX5_reserve 60 = .ok (.goto (-34), 3) := by decide +kernel
theorem dX5_reserve_63 : decode cX5_reserve 63 = .ok (.iload_n 2, 1) := by decide +kernel
theorem dX5_reserve_64 : decode cX5_reserve 64 = .ok (.ireturn, 1) := by decide +kernel
set_option maxRecDepth 20000 in
theorem ggX5_paidTo_X5_isSeller : GoodIn wsX5_paidTo wsX5_isSeller := goodIn_r _ [6, 7, 8, 9, 5, 10, 16, 17, 18, 19, 20, 21, 22, 23, 24, 25, 26, 27, 28, 29, 30, 31, 32, 33, 34, 35, 36, 37, 38, 39, 40, 41, 42, 43, 44, 45, 46] (by decide +kernel) (by decide +kernel)
set_option maxRecDepth 20000 in
theorem gX5_paidTo_X5_isSeller : GoodIn wsX5_paidTo (wsV RX5 91 RX5 yX5_isSeller wsX5_isSeller) := goodIn_app (goodIn_of _ (by decide +kernel)) ggX5_paidTo_X5_isSeller
set_option maxRecDepth 20000 in
theorem ggX5_paidTo_X5_holds : GoodIn wsX5_paidTo wsX5_holds := goodIn_r _ [14, 15, 16, 17, 18, 19, 20, 21, 22, 23, 24, 25, 26, 27, 28, 29, 30, 31, 32, 33, 34, 35, 36, 37, 38, 39, 40, 41, 42, 43, 44, 45, 46] (by decide +kernel) (by decide +kernel)
set_option maxRecDepth 20000 in
theorem gX5_paidTo_X5_holds : GoodIn wsX5_paidTo (wsV RX5 87 RX5 yX5_holds wsX5_holds) := goodIn_app (goodIn_of _ (by decide +kernel)) ggX5_paidTo_X5_holds
theorem dX5_paidTo_0 : decode cX5_paidTo 0 = .ok (.aload_n 0, 1) := by decide +kernel
theorem dX5_paidTo_1 : decode cX5_paidTo 1 = .ok (.aload_n 0, 1) := by decide +kernel
theorem dX5_paidTo_2 : decode cX5_paidTo 2 = .ok (.iload_n 1, 1) := by decide +kernel
theorem dX5_paidTo_3 : decode cX5_paidTo 3 = .ok (.invokevirtual 91, 3) := by decide +kernel
theorem dX5_paidTo_6 : decode cX5_paidTo 6 = .ok (.ifCond .eq 7, 3) := by decide +kernel
theorem dX5_paidTo_9 : decode cX5_paidTo 9 = .ok (.iconst 0, 1) := by decide +kernel
theorem dX5_paidTo_10 : decode cX5_paidTo 10 = .ok (.goto 4, 3) := by decide +kernel
theorem dX5_paidTo_13 : decode cX5_paidTo 13 = .ok (.iconst 1, 1) := by decide +kernel
theorem dX5_paidTo_14 : decode cX5_paidTo 14 = .ok (.invokevirtual 87, 3) := by decide +kernel
theorem dX5_paidTo_17 : decode cX5_paidTo 17 = .ok (.ifCond .eq 12, 3) := by decide +kernel
theorem dX5_paidTo_20 : decode cX5_paidTo 20 = .ok (.aload_n 0, 1) := by decide +kernel
theorem dX5_paidTo_21 : decode cX5_paidTo 21 = .ok (.getfield 31, 3) := by decide +kernel
theorem dX5_paidTo_24 : decode cX5_paidTo 24 = .ok (.iload_n 1, 1) := by decide +kernel
theorem dX5_paidTo_25 : decode cX5_paidTo 25 = .ok (.iaload, 1) := by decide +kernel
theorem dX5_paidTo_26 : decode cX5_paidTo 26 = .ok (.goto 4, 3) := by decide +kernel
theorem dX5_paidTo_29 : decode cX5_paidTo 29 = .ok (.iconst 0, 1) := by decide +kernel
theorem dX5_paidTo_30 : decode cX5_paidTo 30 = .ok (.ireturn, 1) := by decide +kernel
theorem dX5_received_0 : decode cX5_received 0 = .ok (.aload_n 0, 1) := by decide +kernel
theorem dX5_received_1 : decode cX5_received 1 = .ok (.iconst 0, 1) := by decide +kernel
theorem dX5_received_2 : decode cX5_received 2 = .ok (.putfield 76, 3) := by decide +kernel
theorem dX5_received_5 : decode cX5_received 5 = .ok (.aload_n 0, 1) := by decide +kernel
theorem dX5_received_6 : decode cX5_received 6 = .ok (.getfield 120, 3) := by decide +kernel
theorem dX5_received_9 : decode cX5_received 9 = .ok (.ireturn, 1) := by decide +kernel
theorem dX5_refunded_0 : decode cX5_refunded 0 = .ok (.aload_n 0, 1) := by decide +kernel
theorem dX5_refunded_1 : decode cX5_refunded 1 = .ok (.iconst 0, 1) := by decide +kernel
theorem dX5_refunded_2 : decode cX5_refunded 2 = .ok (.putfield 76, 3) := by decide +kernel
theorem dX5_refunded_5 : decode cX5_refunded 5 = .ok (.aload_n 0, 1) := by decide +kernel
theorem dX5_refunded_6 : decode cX5_refunded 6 = .ok (.getfield 137, 3) := by decide +kernel
theorem dX5_refunded_9 : decode cX5_refunded 9 = .ok (.ireturn, 1) := by decide +kernel
theorem dX5_fees_0 : decode cX5_fees 0 = .ok (.aload_n 0, 1) := by decide +kernel
theorem dX5_fees_1 : decode cX5_fees 1 = .ok (.iconst 0, 1) := by decide +kernel
theorem dX5_fees_2 : decode cX5_fees 2 = .ok (.putfield 76, 3) := by decide +kernel
theorem dX5_fees_5 : decode cX5_fees 5 = .ok (.aload_n 0, 1) := by decide +kernel
theorem dX5_fees_6 : decode cX5_fees 6 = .ok (.getfield 123, 3) := by decide +kernel
theorem dX5_fees_9 : decode cX5_fees 9 = .ok (.ireturn, 1) := by decide +kernel
theorem dX5_taxes_0 : decode cX5_taxes 0 = .ok (.aload_n 0, 1) := by decide +kernel
theorem dX5_taxes_1 : decode cX5_taxes 1 = .ok (.iconst 0, 1) := by decide +kernel
theorem dX5_taxes_2 : decode cX5_taxes 2 = .ok (.putfield 76, 3) := by decide +kernel
theorem dX5_taxes_5 : decode cX5_taxes 5 = .ok (.aload_n 0, 1) := by decide +kernel
theorem dX5_taxes_6 : decode cX5_taxes 6 = .ok (.getfield 126, 3) := by decide +kernel
theorem dX5_taxes_9 : decode cX5_taxes 9 = .ok (.ireturn, 1) := by decide +kernel
theorem dJxf58ca_isNaN_12338_0 : decode cJxf58ca_isNaN_12338 0 = .ok (.fload_n 0, 1) := by decide +kernel
theorem dJxf58ca_isNaN_12338_1 : decode cJxf58ca_isNaN_12338 1 = .ok (.fload_n 0, 1) := by decide +kernel
theorem dJxf58ca_isNaN_12338_2 : decode cJxf58ca_isNaN_12338 2 = .ok (.fcmp .l, 1) := by decide +kernel
theorem dJxf58ca_isNaN_12338_3 : decode cJxf58ca_isNaN_12338 3 = .ok (.ifCond .eq 7, 3) := by decide +kernel
theorem dJxf58ca_isNaN_12338_6 : decode cJxf58ca_isNaN_12338 6 = .ok (.iconst 1, 1) := by decide +kernel
theorem dJxf58ca_isNaN_12338_7 : decode cJxf58ca_isNaN_12338 7 = .ok (.goto 4, 3) := by decide +kernel
theorem dJxf58ca_isNaN_12338_10 : decode cJxf58ca_isNaN_12338 10 = .ok (.iconst 0, 1) := by decide +kernel
theorem dJxf58ca_isNaN_12338_11 : decode cJxf58ca_isNaN_12338 11 = .ok (.ireturn, 1) := by decide +kernel
set_option maxRecDepth 20000 in
theorem ggJxf58ca_floatToIntBits_5c35a_Jxf58ca_isNaN_12338 : GoodIn wsJxf58ca_floatToIntBits_5c35a wsJxf58ca_isNaN_12338 := goodIn_r _ [9] (by decide +kernel) (by decide +kernel)
set_option maxRecDepth 20000 in
theorem gJxf58ca_floatToIntBits_5c35a_Jxf58ca_isNaN_12338 : GoodIn wsJxf58ca_floatToIntBits_5c35a (va_wsS RJxf58ca 59 yJxf58ca_isNaN_12338 wsJxf58ca_isNaN_12338) := goodIn_app (goodIn_of _ (by decide +kernel)) ggJxf58ca_floatToIntBits_5c35a_Jxf58ca_isNaN_12338
theorem dJxf58ca_floatToIntBits_5c35a_0 : decode cJxf58ca_floatToIntBits_5c35a 0 = .ok (.fload_n 0, 1) := by decide +kernel
theorem dJxf58ca_floatToIntBits_5c35a_1 : decode cJxf58ca_floatToIntBits_5c35a 1 = .ok (.invokestatic 59, 3) := by decide +kernel
theorem dJxf58ca_floatToIntBits_5c35a_4 : decode cJxf58ca_floatToIntBits_5c35a 4 = .ok (.ifCond .ne 8, 3) := by decide +kernel
theorem dJxf58ca_floatToIntBits_5c35a_7 : decode cJxf58ca_floatToIntBits_5c35a 7 = .ok (.fload_n 0, 1) := by decide +kernel
theorem dJxf58ca_floatToIntBits_5c35a_8 : decode cJxf58ca_floatToIntBits_5c35a 8 = .ok (.invokestatic 74, 3) := by decide +kernel
theorem dJxf58ca_floatToIntBits_5c35a_11 : decode cJxf58ca_floatToIntBits_5c35a 11 = .ok (.ireturn, 1) := by decide +kernel
theorem dJxf58ca_floatToIntBits_5c35a_12 : decode cJxf58ca_floatToIntBits_5c35a 12 = .ok (.ldc 77, 2) := by decide +kernel
theorem dJxf58ca_floatToIntBits_5c35a_14 : decode cJxf58ca_floatToIntBits_5c35a 14 = .ok (.ireturn, 1) := by decide +kernel
theorem dJ6_bitCount_0f7a4_0 : decode cJ6_bitCount_0f7a4 0 = .ok (.iload_n 0, 1) := by decide +kernel
theorem dJ6_bitCount_0f7a4_1 : decode cJ6_bitCount_0f7a4 1 = .ok (.iload_n 0, 1) := by decide +kernel
theorem dJ6_bitCount_0f7a4_2 : decode cJ6_bitCount_0f7a4 2 = .ok (.iconst 1, 1) := by decide +kernel
theorem dJ6_bitCount_0f7a4_3 : decode cJ6_bitCount_0f7a4 3 = .ok (.iushr, 1) := by decide +kernel
theorem dJ6_bitCount_0f7a4_4 : decode cJ6_bitCount_0f7a4 4 = .ok (.ldc_w 265, 3) := by decide +kernel
theorem dJ6_bitCount_0f7a4_7 : decode cJ6_bitCount_0f7a4 7 = .ok (.iand, 1) := by decide +kernel
theorem dJ6_bitCount_0f7a4_8 : decode cJ6_bitCount_0f7a4 8 = .ok (.isub, 1) := by decide +kernel
theorem dJ6_bitCount_0f7a4_9 : decode cJ6_bitCount_0f7a4 9 = .ok (.istore_n 0, 1) := by decide +kernel
theorem dJ6_bitCount_0f7a4_10 : decode cJ6_bitCount_0f7a4 10 = .ok (.iload_n 0, 1) := by decide +kernel
theorem dJ6_bitCount_0f7a4_11 : decode cJ6_bitCount_0f7a4 11 = .ok (.ldc_w 266, 3) := by decide +kernel
theorem dJ6_bitCount_0f7a4_14 : decode cJ6_bitCount_0f7a4 14 = .ok (.iand, 1) := by decide +kernel
theorem dJ6_bitCount_0f7a4_15 : decode cJ6_bitCount_0f7a4 15 = .ok (.iload_n 0, 1) := by decide +kernel
theorem dJ6_bitCount_0f7a4_16 : decode cJ6_bitCount_0f7a4 16 = .ok (.iconst 2, 1) := by decide +kernel
theorem dJ6_bitCount_0f7a4_17 : decode cJ6_bitCount_0f7a4 17 = .ok (.iushr, 1) := by decide +kernel
theorem dJ6_bitCount_0f7a4_18 : decode cJ6_bitCount_0f7a4 18 = .ok (.ldc_w 266, 3) := by decide +kernel
theorem dJ6_bitCount_0f7a4_21 : decode cJ6_bitCount_0f7a4 21 = .ok (.iand, 1) := by decide +kernel
theorem dJ6_bitCount_0f7a4_22 : decode cJ6_bitCount_0f7a4 22 = .ok (.iadd, 1) := by decide +kernel
theorem dJ6_bitCount_0f7a4_23 : decode cJ6_bitCount_0f7a4 23 = .ok (.istore_n 0, 1) := by decide +kernel
theorem dJ6_bitCount_0f7a4_24 : decode cJ6_bitCount_0f7a4 24 = .ok (.iload_n 0, 1) := by decide +kernel
theorem dJ6_bitCount_0f7a4_25 : decode cJ6_bitCount_0f7a4 25 = .ok (.iload_n 0, 1) := by decide +kernel
theorem dJ6_bitCount_0f7a4_26 : decode cJ6_bitCount_0f7a4 26 = .ok (.iconst 4, 1) := by decide +kernel
theorem dJ6_bitCount_0f7a4_27 : decode cJ6_bitCount_0f7a4 27 = .ok (.iushr, 1) := by decide +kernel
theorem dJ6_bitCount_0f7a4_28 : decode cJ6_bitCount_0f7a4 28 = .ok (.iadd, 1) := by decide +kernel
theorem dJ6_bitCount_0f7a4_29 : decode cJ6_bitCount_0f7a4 29 = .ok (.ldc_w 267, 3) := by decide +kernel
theorem dJ6_bitCount_0f7a4_32 : decode cJ6_bitCount_0f7a4 32 = .ok (.iand, 1) := by decide +kernel
theorem dJ6_bitCount_0f7a4_33 : decode cJ6_bitCount_0f7a4 33 = .ok (.istore_n 0, 1) := by decide +kernel
theorem dJ6_bitCount_0f7a4_34 : decode cJ6_bitCount_0f7a4 34 = .ok (.iload_n 0, 1) := by decide +kernel
theorem dJ6_bitCount_0f7a4_35 : decode cJ6_bitCount_0f7a4 35 = .ok (.iload_n 0, 1) := by decide +kernel
theorem dJ6_bitCount_0f7a4_36 : decode cJ6_bitCount_0f7a4 36 = .ok (.bipush 8, 2) := by decide +kernel
theorem dJ6_bitCount_0f7a4_38 : decode cJ6_bitCount_0f7a4 38 = .ok (.iushr, 1) := by decide +kernel
theorem dJ6_bitCount_0f7a4_39 : decode cJ6_bitCount_0f7a4 39 = .ok (.iadd, 1) := by decide +kernel
theorem dJ6_bitCount_0f7a4_40 : decode cJ6_bitCount_0f7a4 40 = .ok (.istore_n 0, 1) := by decide +kernel
theorem dJ6_bitCount_0f7a4_41 : decode cJ6_bitCount_0f7a4 41 = .ok (.iload_n 0, 1) := by decide +kernel
theorem dJ6_bitCount_0f7a4_42 : decode cJ6_bitCount_0f7a4 42 = .ok (.iload_n 0, 1) := by decide +kernel
theorem dJ6_bitCount_0f7a4_43 : decode cJ6_bitCount_0f7a4 43 = .ok (.bipush 16, 2) := by decide +kernel
theorem dJ6_bitCount_0f7a4_45 : decode cJ6_bitCount_0f7a4 45 = .ok (.iushr, 1) := by decide +kernel
theorem dJ6_bitCount_0f7a4_46 : decode cJ6_bitCount_0f7a4 46 = .ok (.iadd, 1) := by decide +kernel
theorem dJ6_bitCount_0f7a4_47 : decode cJ6_bitCount_0f7a4 47 = .ok (.istore_n 0, 1) := by decide +kernel
theorem dJ6_bitCount_0f7a4_48 : decode cJ6_bitCount_0f7a4 48 = .ok (.iload_n 0, 1) := by decide +kernel
theorem dJ6_bitCount_0f7a4_49 : decode cJ6_bitCount_0f7a4 49 = .ok (.bipush 63, 2) := by decide +kernel
theorem dJ6_bitCount_0f7a4_51 : decode cJ6_bitCount_0f7a4 51 = .ok (.iand, 1) := by decide +kernel
theorem dJ6_bitCount_0f7a4_52 : decode cJ6_bitCount_0f7a4 52 = .ok (.ireturn, 1) := by decide +kernel
theorem dJ9_min_7cf53_0 : decode cJ9_min_7cf53 0 = .ok (.iload_n 0, 1) := by decide +kernel
theorem dJ9_min_7cf53_1 : decode cJ9_min_7cf53 1 = .ok (.iload_n 1, 1) := by decide +kernel
theorem dJ9_min_7cf53_2 : decode cJ9_min_7cf53 2 = .ok (.if_icmp .gt 7, 3) := by decide +kernel
theorem dJ9_min_7cf53_5 : decode cJ9_min_7cf53 5 = .ok (.iload_n 0, 1) := by decide +kernel
theorem dJ9_min_7cf53_6 : decode cJ9_min_7cf53 6 = .ok (.goto 4, 3) := by decide +kernel
theorem dJ9_min_7cf53_9 : decode cJ9_min_7cf53 9 = .ok (.iload_n 1, 1) := by decide +kernel
theorem dJ9_min_7cf53_10 : decode cJ9_min_7cf53 10 = .ok (.ireturn, 1) := by decide +kernel
theorem dJ7_copyOf_59c91_0 : decode cJ7_copyOf_59c91 0 = .ok (.iload_n 1, 1) := by decide +kernel
theorem dJ7_copyOf_59c91_1 : decode cJ7_copyOf_59c91 1 = .ok (.aload_n 0, 1) := by decide +kernel
theorem dJ7_copyOf_59c91_2 : decode cJ7_copyOf_59c91 2 = .ok (.arraylength, 1) := by decide +kernel
theorem dJ7_copyOf_59c91_3 : decode cJ7_copyOf_59c91 3 = .ok (.if_icmp .ne 11, 3) := by decide +kernel
theorem dJ7_copyOf_59c91_6 : decode cJ7_copyOf_59c91 6 = .ok (.aload_n 0, 1) := by decide +kernel
theorem dJ7_copyOf_59c91_7 : decode cJ7_copyOf_59c91 7 = .ok (.invokevirtual 316, 3) := by decide +kernel
theorem dJ7_copyOf_59c91_10 : decode cJ7_copyOf_59c91 10 = .ok (.checkcast 317, 3) := by decide +kernel
theorem dJ7_copyOf_59c91_13 : decode cJ7_copyOf_59c91 13 = .ok (.areturn, 1) := by decide +kernel
theorem dJ7_copyOf_59c91_14 : decode cJ7_copyOf_59c91 14 = .ok (.iload_n 1, 1) := by decide +kernel
theorem dJ7_copyOf_59c91_15 : decode cJ7_copyOf_59c91 15 = .ok (.newarray .int, 2) := by decide +kernel
theorem dJ7_copyOf_59c91_17 : decode cJ7_copyOf_59c91 17 = .ok (.astore_n 2, 1) := by decide +kernel
theorem dJ7_copyOf_59c91_18 : decode cJ7_copyOf_59c91 18 = .ok (.aload_n 0, 1) := by decide +kernel
theorem dJ7_copyOf_59c91_19 : decode cJ7_copyOf_59c91 19 = .ok (.iconst 0, 1) := by decide +kernel
theorem dJ7_copyOf_59c91_20 : decode cJ7_copyOf_59c91 20 = .ok (.aload_n 2, 1) := by decide +kernel
theorem dJ7_copyOf_59c91_21 : decode cJ7_copyOf_59c91 21 = .ok (.iconst 0, 1) := by decide +kernel
theorem dJ7_copyOf_59c91_22 : decode cJ7_copyOf_59c91 22 = .ok (.aload_n 0, 1) := by decide +kernel
theorem dJ7_copyOf_59c91_23 : decode cJ7_copyOf_59c91 23 = .ok (.arraylength, 1) := by decide +kernel
theorem dJ7_copyOf_59c91_24 : decode cJ7_copyOf_59c91 24 = .ok (.iload_n 1, 1) := by decide +kernel
theorem dJ7_copyOf_59c91_25 : decode cJ7_copyOf_59c91 25 = .ok (.invokestatic 304, 3) := by decide +kernel
theorem dJ7_copyOf_59c91_28 : decode cJ7_copyOf_59c91 28 = .ok (.invokestatic 150, 3) := by decide +kernel
theorem dJ7_copyOf_59c91_31 : decode cJ7_copyOf_59c91 31 = .ok (.aload_n 2, 1) := by decide +kernel
theorem dJ7_copyOf_59c91_32 : decode cJ7_copyOf_59c91 32 = .ok (.areturn, 1) := by decide +kernel
set_option maxRecDepth 20000 in
theorem ggL_addSeller_X4_addSeller : GoodIn wsL_addSeller wsX4_addSeller := goodIn_ca (goodIn_ca (goodIn_r _ [7, 8, 9, 10, 11, 12, 13, 14, 15, 16, 17, 18, 19, 20, 21, 22, 23, 24, 25, 26, 27, 28, 29, 30, 31, 32, 33, 34, 35, 36, 37, 38, 39, 40, 41, 42] (by decide +kernel) (by decide +kernel)) (goodIn_sub (fun _ h => List.mem_cons_of_mem _ (List.mem_append_left _ (List.mem_append_right _ h))) (by decide +kernel))) (goodIn_sub (fun _ h => List.mem_cons_of_mem _ (List.mem_append_right _ h)) (by decide +kernel))
set_option maxRecDepth 20000 in
theorem gL_addSeller_X4_addSeller : GoodIn wsL_addSeller (wsV RL 7 RX4 yX4_addSeller wsX4_addSeller) := goodIn_app (goodIn_of _ (by decide +kernel)) ggL_addSeller_X4_addSeller
end
section
theorem dL_addSeller_0 : decode cL_addSeller 0 = .ok (.aload_n 2, 1) := by decide +kernel
theorem dL_addSeller_1 : decode cL_addSeller 1 = .ok (.iconst 0, 1) := by decide +kernel
theorem dL_addSeller_2 : decode cL_addSeller 2 = .ok (.aload_n 0, 1) := by decide +kernel
theorem dL_addSeller_3 : decode cL_addSeller 3 = .ok (.iload_n 1, 1) := by decide +kernel
theorem dL_addSeller_4 : decode cL_addSeller 4 = .ok (.invokevirtual 7, 3) := by decide +kernel
theorem dL_addSeller_7 : decode cL_addSeller 7 = .ok (.i2l, 1) := by decide +kernel
theorem dL_addSeller_8 : decode cL_addSeller 8 = .ok (.lastore, 1) := by decide +kernel
theorem dL_addSeller_9 : decode cL_addSeller 9 = .ok (.goto 9, 3) := by decide +kernel
theorem dL_addSeller_12 : decode cL_addSeller 12 = .ok (.astore_n 3, 1) := by decide +kernel
theorem dL_addSeller_13 : decode cL_addSeller 13 = .ok (.iconst 1, 1) := by decide +kernel
theorem dL_addSeller_14 : decode cL_addSeller 14 = .ok (.ireturn, 1) := by decide +kernel
theorem dL_addSeller_15 : decode cL_addSeller 15 = .ok (.astore_n 3, 1) := by decide +kernel
theorem dL_addSeller_16 : decode cL_addSeller 16 = .ok (.iconst 2, 1) := by decide +kernel
theorem dL_addSeller_17 : decode cL_addSeller 17 = .ok (.ireturn, 1) := by decide +kernel
theorem dL_addSeller_18 : decode cL_addSeller 18 = .ok (.iconst 0, 1) := by decide +kernel
theorem dL_addSeller_19 : decode cL_addSeller 19 = .ok (.ireturn, 1) := by decide +kernel
set_option maxRecDepth 20000 in
theorem ggL_verify_X4_verify : GoodIn wsL_verify wsX4_verify := goodIn_ca (goodIn_ca (goodIn_r _ [7, 8, 9, 10, 11, 12, 6, 13, 14, 15, 16, 17, 18, 19, 20, 21, 22, 23, 24, 25, 26, 27, 28, 29, 30, 31, 32, 33, 34, 35, 36, 37, 38, 39, 40, 41] (by decide +kernel) (by decide +kernel)) (goodIn_sub (fun _ h => List.mem_cons_of_mem _ (List.mem_append_left _ (List.mem_append_right _ h))) (by decide +kernel))) (goodIn_sub (fun _ h => List.mem_cons_of_mem _ (List.mem_append_right _ h)) (by decide +kernel))
set_option maxRecDepth 20000 in
theorem gL_verify_X4_verify : GoodIn wsL_verify (wsV RL 17 RX4 yX4_verify wsX4_verify) := goodIn_app (goodIn_of _ (by decide +kernel)) ggL_verify_X4_verify
theorem dL_verify_0 : decode cL_verify 0 = .ok (.aload_n 3, 1) := by decide +kernel
theorem dL_verify_1 : decode cL_verify 1 = .ok (.iconst 0, 1) := by decide +kernel
theorem dL_verify_2 : decode cL_verify 2 = .ok (.aload_n 0, 1) := by decide +kernel
theorem dL_verify_3 : decode cL_verify 3 = .ok (.iload_n 1, 1) := by decide +kernel
theorem dL_verify_4 : decode cL_verify 4 = .ok (.iload_n 2, 1) := by decide +kernel
theorem dL_verify_5 : decode cL_verify 5 = .ok (.invokevirtual 17, 3) := by decide +kernel
theorem dL_verify_8 : decode cL_verify 8 = .ok (.i2l, 1) := by decide +kernel
theorem dL_verify_9 : decode cL_verify 9 = .ok (.lastore, 1) := by decide +kernel
theorem dL_verify_10 : decode cL_verify 10 = .ok (.goto 11, 3) := by decide +kernel
theorem dL_verify_13 : decode cL_verify 13 = .ok (.astore 4, 2) := by decide +kernel
theorem dL_verify_15 : decode cL_verify 15 = .ok (.iconst 1, 1) := by decide +kernel
theorem dL_verify_16 : decode cL_verify 16 = .ok (.ireturn, 1) := by decide +kernel
theorem dL_verify_17 : decode cL_verify 17 = .ok (.astore 4, 2) := by decide +kernel
theorem dL_verify_19 : decode cL_verify 19 = .ok (.iconst 2, 1) := by decide +kernel
theorem dL_verify_20 : decode cL_verify 20 = .ok (.ireturn, 1) := by decide +kernel
theorem dL_verify_21 : decode cL_verify 21 = .ok (.iconst 0, 1) := by decide +kernel
theorem dL_verify_22 : decode cL_verify 22 = .ok (.ireturn, 1) := by decide +kernel
set_option maxRecDepth 20000 in
theorem ggL_setPayouts_X4_setPayouts : GoodIn wsL_setPayouts wsX4_setPayouts := goodIn_ca (goodIn_ca (goodIn_r _ [7, 8, 9, 10, 11, 12, 13, 14, 6, 15, 16, 17, 18, 19, 20, 21, 22, 23, 24, 25, 26, 27, 28, 29, 30, 31, 32, 33, 34, 35, 36, 37, 38, 39, 40, 41, 42, 43] (by decide +kernel) (by decide +kernel)) (goodIn_sub (fun _ h => List.mem_cons_of_mem _ (List.mem_append_left _ (List.mem_append_right _ h))) (by decide +kernel))) (goodIn_sub (fun _ h => List.mem_cons_of_mem _ (List.mem_append_right _ h)) (by decide +kernel))
set_option maxRecDepth 20000 in
theorem gL_setPayouts_X4_setPayouts : GoodIn wsL_setPayouts (wsV RL 23 RX4 yX4_setPayouts wsX4_setPayouts) := goodIn_app (goodIn_of _ (by decide +kernel)) ggL_setPayouts_X4_setPayouts
theorem dL_setPayouts_0 : decode cL_setPayouts 0 = .ok (.aload_n 0, 1) := by decide +kernel
theorem dL_setPayouts_1 : decode cL_setPayouts 1 = .ok (.iload_n 1, 1) := by decide +kernel
theorem dL_setPayouts_2 : decode cL_setPayouts 2 = .ok (.iload_n 2, 1) := by decide +kernel
theorem dL_setPayouts_3 : decode cL_setPayouts 3 = .ok (.iload_n 3, 1) := by decide +kernel
theorem dL_setPayouts_4 : decode cL_setPayouts 4 = .ok (.invokevirtual 23, 3) := by decide +kernel
theorem dL_setPayouts_7 : decode cL_setPayouts 7 = .ok (.goto 11, 3) := by decide +kernel
theorem dL_setPayouts_10 : decode cL_setPayouts 10 = .ok (.astore 4, 2) := by decide +kernel
theorem dL_setPayouts_12 : decode cL_setPayouts 12 = .ok (.iconst 1, 1) := by decide +kernel
theorem dL_setPayouts_13 : decode cL_setPayouts 13 = .ok (.ireturn, 1) := by decide +kernel
theorem dL_setPayouts_14 : decode cL_setPayouts 14 = .ok (.astore 4, 2) := by decide +kernel
theorem dL_setPayouts_16 : decode cL_setPayouts 16 = .ok (.iconst 2, 1) := by decide +kernel
theorem dL_setPayouts_17 : decode cL_setPayouts 17 = .ok (.ireturn, 1) := by decide +kernel
theorem dL_setPayouts_18 : decode cL_setPayouts 18 = .ok (.iconst 0, 1) := by decide +kernel
theorem dL_setPayouts_19 : decode cL_setPayouts 19 = .ok (.ireturn, 1) := by decide +kernel
set_option maxRecDepth 20000 in
theorem ggL_setReserve_X4_setReserve : GoodIn wsL_setReserve wsX4_setReserve := goodIn_ca (goodIn_ca (goodIn_r _ [7, 8, 9, 10, 11, 12, 13, 6, 14, 15, 16, 17, 18, 19, 20, 21, 22, 23, 24, 25, 26, 27, 28, 29, 30, 31, 32, 33, 34, 35, 36, 37, 38, 39, 40, 41, 42] (by decide +kernel) (by decide +kernel)) (goodIn_sub (fun _ h => List.mem_cons_of_mem _ (List.mem_append_left _ (List.mem_append_right _ h))) (by decide +kernel))) (goodIn_sub (fun _ h => List.mem_cons_of_mem _ (List.mem_append_right _ h)) (by decide +kernel))
set_option maxRecDepth 20000 in
theorem gL_setReserve_X4_setReserve : GoodIn wsL_setReserve (wsV RL 27 RX4 yX4_setReserve wsX4_setReserve) := goodIn_app (goodIn_of _ (by decide +kernel)) ggL_setReserve_X4_setReserve
theorem dL_setReserve_0 : decode cL_setReserve 0 = .ok (.aload_n 0, 1) := by decide +kernel
theorem dL_setReserve_1 : decode cL_setReserve 1 = .ok (.iload_n 1, 1) := by decide +kernel
theorem dL_setReserve_2 : decode cL_setReserve 2 = .ok (.iload_n 2, 1) := by decide +kernel
theorem dL_setReserve_3 : decode cL_setReserve 3 = .ok (.iload_n 3, 1) := by decide +kernel
theorem dL_setReserve_4 : decode cL_setReserve 4 = .ok (.invokevirtual 27, 3) := by decide +kernel
theorem dL_setReserve_7 : decode cL_setReserve 7 = .ok (.goto 11, 3) := by decide +kernel
theorem dL_setReserve_10 : decode cL_setReserve 10 = .ok (.astore 4, 2) := by decide +kernel
theorem dL_setReserve_12 : decode cL_setReserve 12 = .ok (.iconst 1, 1) := by decide +kernel
theorem dL_setReserve_13 : decode cL_setReserve 13 = .ok (.ireturn, 1) := by decide +kernel
theorem dL_setReserve_14 : decode cL_setReserve 14 = .ok (.astore 4, 2) := by decide +kernel
theorem dL_setReserve_16 : decode cL_setReserve 16 = .ok (.iconst 2, 1) := by decide +kernel
theorem dL_setReserve_17 : decode cL_setReserve 17 = .ok (.ireturn, 1) := by decide +kernel
theorem dL_setReserve_18 : decode cL_setReserve 18 = .ok (.iconst 0, 1) := by decide +kernel
theorem dL_setReserve_19 : decode cL_setReserve 19 = .ok (.ireturn, 1) := by decide +kernel
set_option maxRecDepth 20000 in
theorem ggL_setShare_X4_setShare : GoodIn wsL_setShare wsX4_setShare := goodIn_ca (goodIn_ca (goodIn_r _ [7, 8, 9, 10, 6, 11, 12, 13, 14, 15, 16, 17, 18, 19, 20, 21, 22, 23, 24, 25, 26, 27, 28, 29, 30, 31, 32, 33, 34, 35, 36, 37] (by decide +kernel) (by decide +kernel)) (goodIn_sub (fun _ h => List.mem_cons_of_mem _ (List.mem_append_left _ (List.mem_append_right _ h))) (by decide +kernel))) (goodIn_sub (fun _ h => List.mem_cons_of_mem _ (List.mem_append_right _ h)) (by decide +kernel))
set_option maxRecDepth 20000 in
theorem gL_setShare_X4_setShare : GoodIn wsL_setShare (wsV RL 30 RX4 yX4_setShare wsX4_setShare) := goodIn_app (goodIn_of _ (by decide +kernel)) ggL_setShare_X4_setShare
theorem dL_setShare_0 : decode cL_setShare 0 = .ok (.aload_n 3, 1) := by decide +kernel
theorem dL_setShare_1 : decode cL_setShare 1 = .ok (.iconst 0, 1) := by decide +kernel
theorem dL_setShare_2 : decode cL_setShare 2 = .ok (.aload_n 0, 1) := by decide +kernel
theorem dL_setShare_3 : decode cL_setShare 3 = .ok (.iload_n 1, 1) := by decide +kernel
theorem dL_setShare_4 : decode cL_setShare 4 = .ok (.iload_n 2, 1) := by decide +kernel
theorem dL_setShare_5 : decode cL_setShare 5 = .ok (.invokevirtual 30, 3) := by decide +kernel
theorem dL_setShare_8 : decode cL_setShare 8 = .ok (.i2l, 1) := by decide +kernel
theorem dL_setShare_9 : decode cL_setShare 9 = .ok (.lastore, 1) := by decide +kernel
theorem dL_setShare_10 : decode cL_setShare 10 = .ok (.goto 11, 3) := by decide +kernel
theorem dL_setShare_13 : decode cL_setShare 13 = .ok (.astore 4, 2) := by decide +kernel
theorem dL_setShare_15 : decode cL_setShare 15 = .ok (.iconst 1, 1) := by decide +kernel
theorem dL_setShare_16 : decode cL_setShare 16 = .ok (.ireturn, 1) := by decide +kernel
theorem dL_setShare_17 : decode cL_setShare 17 = .ok (.astore 4, 2) := by decide +kernel
theorem dL_setShare_19 : decode cL_setShare 19 = .ok (.iconst 2, 1) := by decide +kernel
theorem dL_setShare_20 : decode cL_setShare 20 = .ok (.ireturn, 1) := by decide +kernel
theorem dL_setShare_21 : decode cL_setShare 21 = .ok (.iconst 0, 1) := by decide +kernel
theorem dL_setShare_22 : decode cL_setShare 22 = .ok (.ireturn, 1) := by decide +kernel
set_option maxRecDepth 20000 in
theorem ggL_setTax_X4_setTax : GoodIn wsL_setTax wsX4_setTax := goodIn_ca (goodIn_r _ [6, 7, 8, 9, 5, 10, 11, 12, 13, 14, 15, 16, 17, 18, 19, 20, 21, 22, 23] (by decide +kernel) (by decide +kernel)) (goodIn_sub (fun _ h => List.mem_cons_of_mem _ (List.mem_append_right _ h)) (by decide +kernel))
set_option maxRecDepth 20000 in
theorem gL_setTax_X4_setTax : GoodIn wsL_setTax (wsV RL 33 RX4 yX4_setTax wsX4_setTax) := goodIn_app (goodIn_of _ (by decide +kernel)) ggL_setTax_X4_setTax
theorem dL_setTax_0 : decode cL_setTax 0 = .ok (.aload_n 2, 1) := by decide +kernel
theorem dL_setTax_1 : decode cL_setTax 1 = .ok (.iconst 0, 1) := by decide +kernel
theorem dL_setTax_2 : decode cL_setTax 2 = .ok (.aload_n 0, 1) := by decide +kernel
theorem dL_setTax_3 : decode cL_setTax 3 = .ok (.iload_n 1, 1) := by decide +kernel
theorem dL_setTax_4 : decode cL_setTax 4 = .ok (.invokevirtual 33, 3) := by decide +kernel
theorem dL_setTax_7 : decode cL_setTax 7 = .ok (.i2l, 1) := by decide +kernel
theorem dL_setTax_8 : decode cL_setTax 8 = .ok (.lastore, 1) := by decide +kernel
theorem dL_setTax_9 : decode cL_setTax 9 = .ok (.goto 6, 3) := by decide +kernel
theorem dL_setTax_12 : decode cL_setTax 12 = .ok (.astore_n 3, 1) := by decide +kernel
theorem dL_setTax_13 : decode cL_setTax 13 = .ok (.iconst 1, 1) := by decide +kernel
theorem dL_setTax_14 : decode cL_setTax 14 = .ok (.ireturn, 1) := by decide +kernel
theorem dL_setTax_15 : decode cL_setTax 15 = .ok (.iconst 0, 1) := by decide +kernel
theorem dL_setTax_16 : decode cL_setTax 16 = .ok (.ireturn, 1) := by decide +kernel
set_option maxRecDepth 20000 in
theorem ggL_sell_X4_sell : GoodIn wsL_sell wsX4_sell := goodIn_ca (goodIn_ca (goodIn_ca (goodIn_r _ [8, 9, 10, 11, 12, 7, 13, 14, 15, 16, 17, 18, 19, 20, 21, 22, 23, 24, 25, 26, 27, 28, 29, 30, 31, 32, 33, 34, 35, 36, 37, 38, 39, 40, 41, 42, 43, 44, 45, 46, 47, 48, 49, 50, 51, 52, 53, 54, 55, 56, 57, 58, 59, 60, 61, 62, 63, 64, 65, 66, 67, 68, 69, 70, 71, 72, 73, 74, 75, 76, 77, 78, 79, 80, 81, 82, 83, 84, 85, 86, 87, 88, 89, 90, 91, 92, 93, 94, 95, 96, 97, 98, 99, 100, 101, 102, 103, 104, 105, 106, 107, 108, 109, 110, 111, 112, 113, 114, 115, 116, 117, 118, 119] (by decide +kernel) (by decide +kernel)) (goodIn_sub (fun _ h => List.mem_cons_of_mem _ (List.mem_append_left _ (List.mem_append_left _ (List.mem_append_right _ h)))) (by decide +kernel))) (goodIn_sub (fun _ h => List.mem_cons_of_mem _ (List.mem_append_left _ (List.mem_append_right _ h))) (by decide +kernel))) (goodIn_sub (fun _ h => List.mem_cons_of_mem _ (List.mem_append_right _ h)) (by decide +kernel))
set_option maxRecDepth 20000 in
theorem gL_sell_X4_sell : GoodIn wsL_sell (wsV RL 36 RX4 yX4_sell wsX4_sell) := goodIn_app (goodIn_of _ (by decide +kernel)) ggL_sell_X4_sell
theorem dL_sell_0 : decode cL_sell 0 = .ok (.aload 4, 2) := by decide +kernel
theorem dL_sell_2 : decode cL_sell 2 = .ok (.iconst 0, 1) := by decide +kernel
theorem dL_sell_3 : decode cL_sell 3 = .ok (.aload_n 0, 1) := by decide +kernel
theorem dL_sell_4 : decode cL_sell 4 = .ok (.iload_n 1, 1) := by decide +kernel
theorem dL_sell_5 : decode cL_sell 5 = .ok (.iload_n 2, 1) := by decide +kernel
theorem dL_sell_6 : decode cL_sell 6 = .ok (.iload_n 3, 1) := by decide +kernel
theorem dL_sell_7 : decode cL_sell 7 = .ok (.invokevirtual 36, 3) := by decide +kernel
theorem dL_sell_10 : decode cL_sell 10 = .ok (.i2l, 1) := by decide +kernel
theorem dL_sell_11 : decode cL_sell 11 = .ok (.lastore, 1) := by decide +kernel
theorem dL_sell_12 : decode cL_sell 12 = .ok (.goto 15, 3) := by decide +kernel
theorem dL_sell_15 : decode cL_sell 15 = .ok (.astore 5, 2) := by decide +kernel
theorem dL_sell_17 : decode cL_sell 17 = .ok (.iconst 1, 1) := by decide +kernel
theorem dL_sell_18 : decode cL_sell 18 = .ok (.ireturn, 1) := by decide +kernel
theorem dL_sell_19 : decode cL_sell 19 = .ok (.astore 5, 2) := by decide +kernel
theorem dL_sell_21 : decode cL_sell 21 = .ok (.iconst 2, 1) := by decide +kernel
theorem dL_sell_22 : decode cL_sell 22 = .ok (.ireturn, 1) := by decide +kernel
theorem dL_sell_23 : decode cL_sell 23 = .ok (.astore 5, 2) := by decide +kernel
theorem dL_sell_25 : decode cL_sell 25 = .ok (.iconst 3, 1) := by decide +kernel
theorem dL_sell_26 : decode cL_sell 26 = .ok (.ireturn, 1) := by decide +kernel
theorem dL_sell_27 : decode cL_sell 27 = .ok (.iconst 0, 1) := by decide +kernel
theorem dL_sell_28 : decode cL_sell 28 = .ok (.ireturn, 1) := by decide +kernel
set_option maxRecDepth 20000 in
theorem ggL_order_X4_order : GoodIn wsL_order wsX4_order := goodIn_ca (goodIn_ca (goodIn_ca (goodIn_r _ [8, 9, 10, 11, 12, 13, 14, 15, 16, 17, 18, 19, 20, 21, 7, 22, 23, 24, 25, 26, 27, 28, 29, 30, 31, 32, 33, 34, 35, 36, 37, 38, 39, 40, 41, 42, 43, 44, 45, 46, 47, 48, 49, 50, 51, 52, 53, 54, 55, 56, 57, 58, 59, 60, 61, 62, 63, 64, 65, 66, 67, 68, 69, 70, 71, 72, 73, 74, 75, 76, 77, 78, 79, 80, 81, 82, 83, 84, 85, 86, 87, 88, 89, 90, 91, 92, 93, 94, 95, 96, 97, 98, 99, 100, 101, 102, 103, 104, 105, 106, 107, 108, 109, 110, 111, 112, 113, 114, 115, 116, 117, 118, 119, 120, 121, 122, 123, 124, 125, 126] (by decide +kernel) (by decide +kernel)) (goodIn_sub (fun _ h => List.mem_cons_of_mem _ (List.mem_append_left _ (List.mem_append_left _ (List.mem_append_right _ h)))) (by decide +kernel))) (goodIn_sub (fun _ h => List.mem_cons_of_mem _ (List.mem_append_left _ (List.mem_append_right _ h))) (by decide +kernel))) (goodIn_sub (fun _ h => List.mem_cons_of_mem _ (List.mem_append_right _ h)) (by decide +kernel))
set_option maxRecDepth 20000 in
theorem gL_order_X4_order : GoodIn wsL_order (wsV RL 40 RX4 yX4_order wsX4_order) := goodIn_app (goodIn_of _ (by decide +kernel)) ggL_order_X4_order
theorem dL_order_0 : decode cL_order 0 = .ok (.aload 4, 2) := by decide +kernel
theorem dL_order_2 : decode cL_order 2 = .ok (.iconst 0, 1) := by decide +kernel
theorem dL_order_3 : decode cL_order 3 = .ok (.aload_n 0, 1) := by decide +kernel
theorem dL_order_4 : decode cL_order 4 = .ok (.iload_n 1, 1) := by decide +kernel
theorem dL_order_5 : decode cL_order 5 = .ok (.iload_n 2, 1) := by decide +kernel
theorem dL_order_6 : decode cL_order 6 = .ok (.iload_n 3, 1) := by decide +kernel
theorem dL_order_7 : decode cL_order 7 = .ok (.invokevirtual 40, 3) := by decide +kernel
theorem dL_order_10 : decode cL_order 10 = .ok (.i2l, 1) := by decide +kernel
theorem dL_order_11 : decode cL_order 11 = .ok (.lastore, 1) := by decide +kernel
theorem dL_order_12 : decode cL_order 12 = .ok (.goto 15, 3) := by decide +kernel
theorem dL_order_15 : decode cL_order 15 = .ok (.astore 5, 2) := by decide +kernel
theorem dL_order_17 : decode cL_order 17 = .ok (.iconst 1, 1) := by decide +kernel
theorem dL_order_18 : decode cL_order 18 = .ok (.ireturn, 1) := by decide +kernel
theorem dL_order_19 : decode cL_order 19 = .ok (.astore 5, 2) := by decide +kernel
theorem dL_order_21 : decode cL_order 21 = .ok (.iconst 2, 1) := by decide +kernel
theorem dL_order_22 : decode cL_order 22 = .ok (.ireturn, 1) := by decide +kernel
theorem dL_order_23 : decode cL_order 23 = .ok (.astore 5, 2) := by decide +kernel
theorem dL_order_25 : decode cL_order 25 = .ok (.iconst 3, 1) := by decide +kernel
theorem dL_order_26 : decode cL_order 26 = .ok (.ireturn, 1) := by decide +kernel
theorem dL_order_27 : decode cL_order 27 = .ok (.iconst 0, 1) := by decide +kernel
theorem dL_order_28 : decode cL_order 28 = .ok (.ireturn, 1) := by decide +kernel
set_option maxRecDepth 20000 in
theorem ggL_refund_X4_refund : GoodIn wsL_refund wsX4_refund := goodIn_ca (goodIn_ca (goodIn_ca (goodIn_r _ [8, 9, 10, 11, 12, 13, 14, 15, 16, 17, 18, 19, 20, 21, 22, 23, 24, 25, 26, 27, 28, 29, 30, 31, 7, 32, 33, 34, 35, 36, 37, 38, 39, 40, 41, 42, 43, 44, 45, 46, 47, 48, 49, 50, 51, 52, 53, 54, 55, 56, 57, 58, 59, 60, 61, 62, 63, 64, 65, 66, 67, 68, 69, 70, 71, 72, 73, 74, 75, 76, 77, 78, 79, 80, 81, 82, 83, 84, 85, 86, 87, 88, 89, 90] (by decide +kernel) (by decide +kernel)) (goodIn_sub (fun _ h => List.mem_cons_of_mem _ (List.mem_append_left _ (List.mem_append_left _ (List.mem_append_right _ h)))) (by decide +kernel))) (goodIn_sub (fun _ h => List.mem_cons_of_mem _ (List.mem_append_left _ (List.mem_append_right _ h))) (by decide +kernel))) (goodIn_sub (fun _ h => List.mem_cons_of_mem _ (List.mem_append_right _ h)) (by decide +kernel))
set_option maxRecDepth 20000 in
theorem gL_refund_X4_refund : GoodIn wsL_refund (wsV RL 43 RX4 yX4_refund wsX4_refund) := goodIn_app (goodIn_of _ (by decide +kernel)) ggL_refund_X4_refund
theorem dL_refund_0 : decode cL_refund 0 = .ok (.aload 4, 2) := by decide +kernel
theorem dL_refund_2 : decode cL_refund 2 = .ok (.iconst 0, 1) := by decide +kernel
theorem dL_refund_3 : decode cL_refund 3 = .ok (.aload_n 0, 1) := by decide +kernel
theorem dL_refund_4 : decode cL_refund 4 = .ok (.iload_n 1, 1) := by decide +kernel
theorem dL_refund_5 : decode cL_refund 5 = .ok (.iload_n 2, 1) := by decide +kernel
theorem dL_refund_6 : decode cL_refund 6 = .ok (.iload_n 3, 1) := by decide +kernel
theorem dL_refund_7 : decode cL_refund 7 = .ok (.invokevirtual 43, 3) := by decide +kernel
theorem dL_refund_10 : decode cL_refund 10 = .ok (.i2l, 1) := by decide +kernel
theorem dL_refund_11 : decode cL_refund 11 = .ok (.lastore, 1) := by decide +kernel
theorem dL_refund_12 : decode cL_refund 12 = .ok (.goto 15, 3) := by decide +kernel
theorem dL_refund_15 : decode cL_refund 15 = .ok (.astore 5, 2) := by decide +kernel
theorem dL_refund_17 : decode cL_refund 17 = .ok (.iconst 1, 1) := by decide +kernel
theorem dL_refund_18 : decode cL_refund 18 = .ok (.ireturn, 1) := by decide +kernel
theorem dL_refund_19 : decode cL_refund 19 = .ok (.astore 5, 2) := by decide +kernel
theorem dL_refund_21 : decode cL_refund 21 = .ok (.iconst 2, 1) := by decide +kernel
theorem dL_refund_22 : decode cL_refund 22 = .ok (.ireturn, 1) := by decide +kernel
theorem dL_refund_23 : decode cL_refund 23 = .ok (.astore 5, 2) := by decide +kernel
theorem dL_refund_25 : decode cL_refund 25 = .ok (.iconst 3, 1) := by decide +kernel
theorem dL_refund_26 : decode cL_refund 26 = .ok (.ireturn, 1) := by decide +kernel
theorem dL_refund_27 : decode cL_refund 27 = .ok (.iconst 0, 1) := by decide +kernel
theorem dL_refund_28 : decode cL_refund 28 = .ok (.ireturn, 1) := by decide +kernel
set_option maxRecDepth 20000 in
theorem ggL_pass_X4_pass : GoodIn wsL_pass wsX4_pass := goodIn_ca (goodIn_ca (goodIn_r _ [7, 8, 9, 10, 11, 12, 13, 14, 6, 15, 16, 17, 18, 19, 20, 21, 22, 23, 24, 25, 26, 27, 28, 29, 30, 31, 32, 33, 34, 35, 36, 37, 38, 39, 40, 41, 42, 43, 44, 45, 46, 47, 48, 49, 50, 51, 52, 53, 54, 55, 56, 57, 58, 59, 60, 61, 62, 63, 64, 65, 66, 67, 68, 69, 70, 71, 72, 73, 74, 75, 76, 77, 78, 79, 80, 81, 82, 83, 84, 85, 86, 87, 88, 89, 90, 91, 92, 93, 94, 95, 96, 97, 98, 99, 100, 101, 102, 103, 104, 105, 106, 107, 108, 109, 110, 111, 112, 113, 114, 115, 116, 117, 118, 119, 120, 121, 122, 123, 124, 125, 126, 127, 128, 129, 130, 131, 132, 133, 134, 135, 136, 137, 138, 139, 140, 141, 142, 143, 144, 145, 146] (by decide +kernel) (by decide +kernel)) (goodIn_sub (fun _ h => List.mem_cons_of_mem _ (List.mem_append_left _ (List.mem_append_right _ h))) (by decide +kernel))) (goodIn_sub (fun _ h => List.mem_cons_of_mem _ (List.mem_append_right _ h)) (by decide +kernel))
set_option maxRecDepth 20000 in
theorem gL_pass_X4_pass : GoodIn wsL_pass (wsV RL 47 RX4 yX4_pass wsX4_pass) := goodIn_app (goodIn_of _ (by decide +kernel)) ggL_pass_X4_pass
theorem dL_pass_0 : decode cL_pass 0 = .ok (.aload_n 2, 1) := by decide +kernel
theorem dL_pass_1 : decode cL_pass 1 = .ok (.iconst 0, 1) := by decide +kernel
theorem dL_pass_2 : decode cL_pass 2 = .ok (.aload_n 0, 1) := by decide +kernel
theorem dL_pass_3 : decode cL_pass 3 = .ok (.iload_n 1, 1) := by decide +kernel
theorem dL_pass_4 : decode cL_pass 4 = .ok (.invokevirtual 47, 3) := by decide +kernel
theorem dL_pass_7 : decode cL_pass 7 = .ok (.i2l, 1) := by decide +kernel
theorem dL_pass_8 : decode cL_pass 8 = .ok (.lastore, 1) := by decide +kernel
theorem dL_pass_9 : decode cL_pass 9 = .ok (.goto 9, 3) := by decide +kernel
theorem dL_pass_12 : decode cL_pass 12 = .ok (.astore_n 3, 1) := by decide +kernel
theorem dL_pass_13 : decode cL_pass 13 = .ok (.iconst 1, 1) := by decide +kernel
theorem dL_pass_14 : decode cL_pass 14 = .ok (.ireturn, 1) := by decide +kernel
theorem dL_pass_15 : decode cL_pass 15 = .ok (.astore_n 3, 1) := by decide +kernel
theorem dL_pass_16 : decode cL_pass 16 = .ok (.iconst 2, 1) := by decide +kernel
theorem dL_pass_17 : decode cL_pass 17 = .ok (.ireturn, 1) := by decide +kernel
theorem dL_pass_18 : decode cL_pass 18 = .ok (.iconst 0, 1) := by decide +kernel
theorem dL_pass_19 : decode cL_pass 19 = .ok (.ireturn, 1) := by decide +kernel
set_option maxRecDepth 20000 in
theorem ggL_fail_X4_fail : GoodIn wsL_fail wsX4_fail := goodIn_ca (goodIn_ca (goodIn_r _ [7, 8, 9, 10, 11, 12, 13, 14, 15, 16, 17, 18, 19, 6, 20, 21, 22, 23, 24, 25, 26, 27, 28, 29, 30, 31, 32, 33, 34, 35, 36, 37, 38, 39, 40, 41, 42, 43, 44, 45, 46, 47, 48, 49, 50, 51, 52, 53, 54, 55, 56, 57, 58, 59, 60, 61, 62, 63, 64, 65, 66, 67, 68, 69] (by decide +kernel) (by decide +kernel)) (goodIn_sub (fun _ h => List.mem_cons_of_mem _ (List.mem_append_left _ (List.mem_append_right _ h))) (by decide +kernel))) (goodIn_sub (fun _ h => List.mem_cons_of_mem _ (List.mem_append_right _ h)) (by decide +kernel))
set_option maxRecDepth 20000 in
theorem gL_fail_X4_fail : GoodIn wsL_fail (wsV RL 50 RX4 yX4_fail wsX4_fail) := goodIn_app (goodIn_of _ (by decide +kernel)) ggL_fail_X4_fail
theorem dL_fail_0 : decode cL_fail 0 = .ok (.aload_n 2, 1) := by decide +kernel
theorem dL_fail_1 : decode cL_fail 1 = .ok (.iconst 0, 1) := by decide +kernel
theorem dL_fail_2 : decode cL_fail 2 = .ok (.aload_n 0, 1) := by decide +kernel
theorem dL_fail_3 : decode cL_fail 3 = .ok (.iload_n 1, 1) := by decide +kernel
theorem dL_fail_4 : decode cL_fail 4 = .ok (.invokevirtual 50, 3) := by decide +kernel
theorem dL_fail_7 : decode cL_fail 7 = .ok (.i2l, 1) := by decide +kernel
theorem dL_fail_8 : decode cL_fail 8 = .ok (.lastore, 1) := by decide +kernel
theorem dL_fail_9 : decode cL_fail 9 = .ok (.goto 9, 3) := by decide +kernel
theorem dL_fail_12 : decode cL_fail 12 = .ok (.astore_n 3, 1) := by decide +kernel
theorem dL_fail_13 : decode cL_fail 13 = .ok (.iconst 1, 1) := by decide +kernel
theorem dL_fail_14 : decode cL_fail 14 = .ok (.ireturn, 1) := by decide +kernel
theorem dL_fail_15 : decode cL_fail 15 = .ok (.astore_n 3, 1) := by decide +kernel
theorem dL_fail_16 : decode cL_fail 16 = .ok (.iconst 2, 1) := by decide +kernel
theorem dL_fail_17 : decode cL_fail 17 = .ok (.ireturn, 1) := by decide +kernel
theorem dL_fail_18 : decode cL_fail 18 = .ok (.iconst 0, 1) := by decide +kernel
theorem dL_fail_19 : decode cL_fail 19 = .ok (.ireturn, 1) := by decide +kernel
set_option maxRecDepth 20000 in
theorem ggL_payout_X4_payout : GoodIn wsL_payout wsX4_payout := goodIn_ca (goodIn_r _ [6, 7, 8, 9, 10, 11, 5, 12, 13, 14, 15, 16, 17, 18, 19, 20, 21, 22, 23, 24, 25, 26, 27, 28, 29, 30] (by decide +kernel) (by decide +kernel)) (goodIn_sub (fun _ h => List.mem_cons_of_mem _ (List.mem_append_right _ h)) (by decide +kernel))
set_option maxRecDepth 20000 in
theorem gL_payout_X4_payout : GoodIn wsL_payout (wsV RL 53 RX4 yX4_payout wsX4_payout) := goodIn_app (goodIn_of _ (by decide +kernel)) ggL_payout_X4_payout
theorem dL_payout_0 : decode cL_payout 0 = .ok (.aload_n 2, 1) := by decide +kernel
theorem dL_payout_1 : decode cL_payout 1 = .ok (.iconst 0, 1) := by decide +kernel
theorem dL_payout_2 : decode cL_payout 2 = .ok (.aload_n 0, 1) := by decide +kernel
theorem dL_payout_3 : decode cL_payout 3 = .ok (.iload_n 1, 1) := by decide +kernel
theorem dL_payout_4 : decode cL_payout 4 = .ok (.invokevirtual 53, 3) := by decide +kernel
theorem dL_payout_7 : decode cL_payout 7 = .ok (.i2l, 1) := by decide +kernel
theorem dL_payout_8 : decode cL_payout 8 = .ok (.lastore, 1) := by decide +kernel
theorem dL_payout_9 : decode cL_payout 9 = .ok (.goto 6, 3) := by decide +kernel
theorem dL_payout_12 : decode cL_payout 12 = .ok (.astore_n 3, 1) := by decide +kernel
theorem dL_payout_13 : decode cL_payout 13 = .ok (.iconst 1, 1) := by decide +kernel
theorem dL_payout_14 : decode cL_payout 14 = .ok (.ireturn, 1) := by decide +kernel
theorem dL_payout_15 : decode cL_payout 15 = .ok (.iconst 0, 1) := by decide +kernel
theorem dL_payout_16 : decode cL_payout 16 = .ok (.ireturn, 1) := by decide +kernel
set_option maxRecDepth 20000 in
theorem ggL_sellerOf_X4_sellerOf : GoodIn wsL_sellerOf wsX4_sellerOf := goodIn_ca (goodIn_r _ [6, 7, 8, 9, 10, 11, 5, 12, 13, 14, 15, 16, 17, 18, 19, 20, 21, 22, 23, 24, 25, 26, 27, 28, 29, 30] (by decide +kernel) (by decide +kernel)) (goodIn_sub (fun _ h => List.mem_cons_of_mem _ (List.mem_append_right _ h)) (by decide +kernel))
set_option maxRecDepth 20000 in
theorem gL_sellerOf_X4_sellerOf : GoodIn wsL_sellerOf (wsV RL 56 RX4 yX4_sellerOf wsX4_sellerOf) := goodIn_app (goodIn_of _ (by decide +kernel)) ggL_sellerOf_X4_sellerOf
theorem dL_sellerOf_0 : decode cL_sellerOf 0 = .ok (.aload_n 2, 1) := by decide +kernel
theorem dL_sellerOf_1 : decode cL_sellerOf 1 = .ok (.iconst 0, 1) := by decide +kernel
theorem dL_sellerOf_2 : decode cL_sellerOf 2 = .ok (.aload_n 0, 1) := by decide +kernel
theorem dL_sellerOf_3 : decode cL_sellerOf 3 = .ok (.iload_n 1, 1) := by decide +kernel
theorem dL_sellerOf_4 : decode cL_sellerOf 4 = .ok (.invokevirtual 56, 3) := by decide +kernel
theorem dL_sellerOf_7 : decode cL_sellerOf 7 = .ok (.i2l, 1) := by decide +kernel
theorem dL_sellerOf_8 : decode cL_sellerOf 8 = .ok (.lastore, 1) := by decide +kernel
theorem dL_sellerOf_9 : decode cL_sellerOf 9 = .ok (.goto 6, 3) := by decide +kernel
theorem dL_sellerOf_12 : decode cL_sellerOf 12 = .ok (.astore_n 3, 1) := by decide +kernel
theorem dL_sellerOf_13 : decode cL_sellerOf 13 = .ok (.iconst 1, 1) := by decide +kernel
theorem dL_sellerOf_14 : decode cL_sellerOf 14 = .ok (.ireturn, 1) := by decide +kernel
theorem dL_sellerOf_15 : decode cL_sellerOf 15 = .ok (.iconst 0, 1) := by decide +kernel
theorem dL_sellerOf_16 : decode cL_sellerOf 16 = .ok (.ireturn, 1) := by decide +kernel
set_option maxRecDepth 20000 in
theorem ggL_balance_X4_balance : GoodIn wsL_balance wsX4_balance := goodIn_ca (goodIn_r _ [6, 7, 8, 9, 10, 11, 5, 12, 13, 14, 15, 16, 17, 18, 19, 20, 21, 22, 23, 24, 25, 26, 27, 28, 29, 30, 31, 32, 33, 34, 35] (by decide +kernel) (by decide +kernel)) (goodIn_sub (fun _ h => List.mem_cons_of_mem _ (List.mem_append_right _ h)) (by decide +kernel))
set_option maxRecDepth 20000 in
theorem gL_balance_X4_balance : GoodIn wsL_balance (wsV RL 59 RX4 yX4_balance wsX4_balance) := goodIn_app (goodIn_of _ (by decide +kernel)) ggL_balance_X4_balance
theorem dL_balance_0 : decode cL_balance 0 = .ok (.aload_n 2, 1) := by decide +kernel
theorem dL_balance_1 : decode cL_balance 1 = .ok (.iconst 0, 1) := by decide +kernel
theorem dL_balance_2 : decode cL_balance 2 = .ok (.aload_n 0, 1) := by decide +kernel
theorem dL_balance_3 : decode cL_balance 3 = .ok (.iload_n 1, 1) := by decide +kernel
theorem dL_balance_4 : decode cL_balance 4 = .ok (.invokevirtual 59, 3) := by decide +kernel
theorem dL_balance_7 : decode cL_balance 7 = .ok (.i2l, 1) := by decide +kernel
theorem dL_balance_8 : decode cL_balance 8 = .ok (.lastore, 1) := by decide +kernel
theorem dL_balance_9 : decode cL_balance 9 = .ok (.goto 6, 3) := by decide +kernel
theorem dL_balance_12 : decode cL_balance 12 = .ok (.astore_n 3, 1) := by decide +kernel
theorem dL_balance_13 : decode cL_balance 13 = .ok (.iconst 1, 1) := by decide +kernel
theorem dL_balance_14 : decode cL_balance 14 = .ok (.ireturn, 1) := by decide +kernel
theorem dL_balance_15 : decode cL_balance 15 = .ok (.iconst 0, 1) := by decide +kernel
theorem dL_balance_16 : decode cL_balance 16 = .ok (.ireturn, 1) := by decide +kernel
set_option maxRecDepth 20000 in
theorem ggL_balanceByEntries_X4_balanceByEntries : GoodIn wsL_balanceByEntries wsX4_balanceByEntries := goodIn_ca (goodIn_r _ [6, 7, 8, 9, 10, 5, 11, 12, 13, 14, 15, 16, 17, 18, 19, 20, 21, 22, 23, 24, 25, 26, 27, 28, 29, 30, 31, 32, 33, 34, 35, 36, 37, 38, 39, 40, 41, 42, 43, 44, 45, 46, 47, 48] (by decide +kernel) (by decide +kernel)) (goodIn_sub (fun _ h => List.mem_cons_of_mem _ (List.mem_append_right _ h)) (by decide +kernel))
set_option maxRecDepth 20000 in
theorem gL_balanceByEntries_X4_balanceByEntries : GoodIn wsL_balanceByEntries (wsV RL 62 RX4 yX4_balanceByEntries wsX4_balanceByEntries) := goodIn_app (goodIn_of _ (by decide +kernel)) ggL_balanceByEntries_X4_balanceByEntries
theorem dL_balanceByEntries_0 : decode cL_balanceByEntries 0 = .ok (.aload_n 2, 1) := by decide +kernel
theorem dL_balanceByEntries_1 : decode cL_balanceByEntries 1 = .ok (.iconst 0, 1) := by decide +kernel
theorem dL_balanceByEntries_2 : decode cL_balanceByEntries 2 = .ok (.aload_n 0, 1) := by decide +kernel
theorem dL_balanceByEntries_3 : decode cL_balanceByEntries 3 = .ok (.iload_n 1, 1) := by decide +kernel
theorem dL_balanceByEntries_4 : decode cL_balanceByEntries 4 = .ok (.invokevirtual 62, 3) := by decide +kernel
theorem dL_balanceByEntries_7 : decode cL_balanceByEntries 7 = .ok (.i2l, 1) := by decide +kernel
theorem dL_balanceByEntries_8 : decode cL_balanceByEntries 8 = .ok (.lastore, 1) := by decide +kernel
theorem dL_balanceByEntries_9 : decode cL_balanceByEntries 9 = .ok (.goto 6, 3) := by decide +kernel
theorem dL_balanceByEntries_12 : decode cL_balanceByEntries 12 = .ok (.astore_n 3, 1) := by decide +kernel
theorem dL_balanceByEntries_13 : decode cL_balanceByEntries 13 = .ok (.iconst 1, 1) := by decide +kernel
theorem dL_balanceByEntries_14 : decode cL_balanceByEntries 14 = .ok (.ireturn, 1) := by decide +kernel
theorem dL_balanceByEntries_15 : decode cL_balanceByEntries 15 = .ok (.iconst 0, 1) := by decide +kernel
theorem dL_balanceByEntries_16 : decode cL_balanceByEntries 16 = .ok (.ireturn, 1) := by decide +kernel
set_option maxRecDepth 20000 in
theorem ggL_reserve_X4_reserve : GoodIn wsL_reserve wsX4_reserve := goodIn_ca (goodIn_r _ [6, 7, 8, 9, 10, 5, 11, 12, 13, 14, 15, 16, 17, 18, 19, 20, 21, 22, 23, 24, 25, 26, 27, 28, 29, 30, 31, 32, 33, 34, 35, 36, 37, 38, 39, 40, 41, 42, 43, 44, 45, 46, 47, 48, 49, 50, 51] (by decide +kernel) (by decide +kernel)) (goodIn_sub (fun _ h => List.mem_cons_of_mem _ (List.mem_append_right _ h)) (by decide +kernel))
set_option maxRecDepth 20000 in
theorem gL_reserve_X4_reserve : GoodIn wsL_reserve (wsV RL 65 RX4 yX4_reserve wsX4_reserve) := goodIn_app (goodIn_of _ (by decide +kernel)) ggL_reserve_X4_reserve
theorem dL_reserve_0 : decode cL_reserve 0 = .ok (.aload_n 2, 1) := by decide +kernel
theorem dL_reserve_1 : decode cL_reserve 1 = .ok (.iconst 0, 1) := by decide +kernel
theorem dL_reserve_2 : decode cL_reserve 2 = .ok (.aload_n 0, 1) := by decide +kernel
theorem dL_reserve_3 : decode cL_reserve 3 = .ok (.iload_n 1, 1) := by decide +kernel
theorem dL_reserve_4 : decode cL_reserve 4 = .ok (.invokevirtual 65, 3) := by decide +kernel
theorem dL_reserve_7 : decode cL_reserve 7 = .ok (.i2l, 1) := by decide +kernel
theorem dL_reserve_8 : decode cL_reserve 8 = .ok (.lastore, 1) := by decide +kernel
theorem dL_reserve_9 : decode cL_reserve 9 = .ok (.goto 6, 3) := by decide +kernel
theorem dL_reserve_12 : decode cL_reserve 12 = .ok (.astore_n 3, 1) := by decide +kernel
theorem dL_reserve_13 : decode cL_reserve 13 = .ok (.iconst 1, 1) := by decide +kernel
theorem dL_reserve_14 : decode cL_reserve 14 = .ok (.ireturn, 1) := by decide +kernel
theorem dL_reserve_15 : decode cL_reserve 15 = .ok (.iconst 0, 1) := by decide +kernel
theorem dL_reserve_16 : decode cL_reserve 16 = .ok (.ireturn, 1) := by decide +kernel
set_option maxRecDepth 20000 in
theorem ggL_paidTo_X4_paidTo : GoodIn wsL_paidTo wsX4_paidTo := goodIn_ca (goodIn_r _ [6, 7, 8, 9, 10, 11, 5, 12, 13, 14, 15, 16, 17, 18, 19, 20, 21, 22, 23, 24, 25, 26, 27, 28, 29, 30, 31, 32, 33, 34, 35] (by decide +kernel) (by decide +kernel)) (goodIn_sub (fun _ h => List.mem_cons_of_mem _ (List.mem_append_right _ h)) (by decide +kernel))
set_option maxRecDepth 20000 in
theorem gL_paidTo_X4_paidTo : GoodIn wsL_paidTo (wsV RL 68 RX4 yX4_paidTo wsX4_paidTo) := goodIn_app (goodIn_of _ (by decide +kernel)) ggL_paidTo_X4_paidTo
theorem dL_paidTo_0 : decode cL_paidTo 0 = .ok (.aload_n 2, 1) := by decide +kernel
theorem dL_paidTo_1 : decode cL_paidTo 1 = .ok (.iconst 0, 1) := by decide +kernel
theorem dL_paidTo_2 : decode cL_paidTo 2 = .ok (.aload_n 0, 1) := by decide +kernel
theorem dL_paidTo_3 : decode cL_paidTo 3 = .ok (.iload_n 1, 1) := by decide +kernel
theorem dL_paidTo_4 : decode cL_paidTo 4 = .ok (.invokevirtual 68, 3) := by decide +kernel
theorem dL_paidTo_7 : decode cL_paidTo 7 = .ok (.i2l, 1) := by decide +kernel
theorem dL_paidTo_8 : decode cL_paidTo 8 = .ok (.lastore, 1) := by decide +kernel
theorem dL_paidTo_9 : decode cL_paidTo 9 = .ok (.goto 6, 3) := by decide +kernel
theorem dL_paidTo_12 : decode cL_paidTo 12 = .ok (.astore_n 3, 1) := by decide +kernel
theorem dL_paidTo_13 : decode cL_paidTo 13 = .ok (.iconst 1, 1) := by decide +kernel
theorem dL_paidTo_14 : decode cL_paidTo 14 = .ok (.ireturn, 1) := by decide +kernel
theorem dL_paidTo_15 : decode cL_paidTo 15 = .ok (.iconst 0, 1) := by decide +kernel
theorem dL_paidTo_16 : decode cL_paidTo 16 = .ok (.ireturn, 1) := by decide +kernel
set_option maxRecDepth 20000 in
theorem ggL_law_X4_init : GoodIn wsL_law wsX4_init := goodIn_r _ [9, 10, 11, 12, 13, 14, 15, 16, 17, 18, 19, 20, 21, 22, 23, 24, 25, 26, 27, 28, 29, 30, 31, 32, 33, 34, 35, 36, 37, 38, 39, 40, 41, 42, 43, 44, 45, 46, 47, 48, 49, 50, 51, 52, 53, 54, 55, 56, 57, 58, 59, 60, 61, 62, 63, 64, 65, 66, 2, 67, 68, 623, 624, 625, 626, 627, 628, 629, 630, 631, 581, 582, 583, 584, 585, 586, 587, 588, 589, 590, 591, 632, 633, 634, 635, 636, 637, 638, 639, 640, 641, 642, 643, 644, 645, 646, 647] (by decide +kernel) (by decide +kernel)
set_option maxRecDepth 20000 in
theorem gL_law_X4_init : GoodIn wsL_law (wsX4_init) := ggL_law_X4_init
set_option maxRecDepth 20000 in
theorem ggL_law_X5_init : GoodIn wsL_law wsX5_init := goodIn_r _ [71, 72, 11, 12, 34, 73, 74, 75, 76, 77, 78, 79, 80, 29, 81, 82, 83, 84, 85, 86, 87, 88, 89, 90, 91, 92, 93, 94, 95, 592, 593, 594, 595, 596, 597, 598, 599, 600, 601, 602, 603, 604, 605, 606, 607, 608, 609, 610, 611, 612, 613, 614, 615, 616, 617, 618, 619, 620, 621, 622] (by decide +kernel) (by decide +kernel)
set_option maxRecDepth 20000 in
theorem gL_law_X5_init : GoodIn wsL_law (wsX5_init) := ggL_law_X5_init
set_option maxRecDepth 20000 in
theorem ggL_law_L_addSeller : GoodIn wsL_law wsL_addSeller := goodIn_ca (goodIn_ca (goodIn_r _ [99, 100, 101, 102, 103, 104, 2, 105, 106, 107, 108, 109, 16, 110, 111, 112, 113, 15, 114, 115, 35, 38, 40, 581, 582, 583, 584, 585, 586, 587, 588, 589, 590, 591, 623, 624, 625, 626, 627, 628, 629, 630, 631] (by decide +kernel) (by decide +kernel)) (goodIn_sub (fun _ h => List.mem_append_left _ (List.mem_append_left _ (List.mem_append_right _ h))) (by decide +kernel))) (goodIn_sub (fun _ h => List.mem_append_left _ (List.mem_append_right _ h)) (by decide +kernel))
set_option maxRecDepth 20000 in
theorem gL_law_L_addSeller : GoodIn wsL_law (va_wsS RL 75 yL_addSeller wsL_addSeller) := goodIn_app (goodIn_of _ (by decide +kernel)) ggL_law_L_addSeller
set_option maxRecDepth 20000 in
theorem ggL_law_X5_addSeller : GoodIn wsL_law wsX5_addSeller := goodIn_r _ [119, 120, 73, 76, 78, 121, 122, 5, 123, 124, 125, 126, 127, 128, 592, 593, 594, 595, 596, 597, 598, 599, 600, 601, 602, 603, 604, 605, 606, 607, 608, 609, 610, 611, 612, 613, 614, 615, 616, 617, 618, 619, 620, 621, 622] (by decide +kernel) (by decide +kernel)
set_option maxRecDepth 20000 in
theorem gL_law_X5_addSeller : GoodIn wsL_law (wsV RL 80 RX5 yX5_addSeller wsX5_addSeller) := goodIn_app (goodIn_of _ (by decide +kernel)) ggL_law_X5_addSeller
set_option maxRecDepth 20000 in
theorem ggL_law_X5_thrown : GoodIn wsL_law wsX5_thrown := goodIn_r _ [132, 128, 592, 593, 594, 595, 596, 597, 598, 599, 600, 601, 602, 603, 604, 605, 606, 607, 608, 609, 610, 611, 612, 613, 614, 615, 616, 617, 618, 619, 620, 621, 622] (by decide +kernel) (by decide +kernel)
set_option maxRecDepth 20000 in
theorem gL_law_X5_thrown : GoodIn wsL_law (wsV RL 81 RX5 yX5_thrown wsX5_thrown) := goodIn_app (goodIn_of _ (by decide +kernel)) ggL_law_X5_thrown
set_option maxRecDepth 20000 in
theorem ggL_law_L_verify : GoodIn wsL_law wsL_verify := goodIn_ca (goodIn_ca (goodIn_r _ [135, 100, 136, 137, 138, 139, 2, 140, 16, 141, 142, 143, 144, 145, 106, 107, 110, 146, 147, 148, 149, 150, 581, 582, 583, 584, 585, 586, 587, 588, 589, 590, 591, 623, 624, 625, 626, 627, 628, 629, 630, 631] (by decide +kernel) (by decide +kernel)) (goodIn_sub (fun _ h => List.mem_append_left _ (List.mem_append_left _ (List.mem_append_right _ h))) (by decide +kernel))) (goodIn_sub (fun _ h => List.mem_append_right _ h) (by decide +kernel))
set_option maxRecDepth 20000 in
theorem gL_law_L_verify : GoodIn wsL_law (va_wsS RL 85 yL_verify wsL_verify) := goodIn_app (goodIn_of _ (by decide +kernel)) ggL_law_L_verify
set_option maxRecDepth 20000 in
theorem ggL_law_X5_verify : GoodIn wsL_law wsX5_verify := goodIn_r _ [154, 74, 155, 156, 157, 5, 158, 120, 121, 122, 123, 124, 125, 126, 127, 128, 592, 593, 594, 595, 596, 597, 598, 599, 600, 601, 602, 603, 604, 605, 606, 607, 608, 609, 610, 611, 612, 613, 614, 615, 616, 617, 618, 619, 620, 621, 622] (by decide +kernel) (by decide +kernel)
set_option maxRecDepth 20000 in
theorem gL_law_X5_verify : GoodIn wsL_law (wsV RL 88 RX5 yX5_verify wsX5_verify) := goodIn_app (goodIn_of _ (by decide +kernel)) ggL_law_X5_verify
set_option maxRecDepth 20000 in
theorem ggL_law_L_setPayouts : GoodIn wsL_law wsL_setPayouts := goodIn_ca (goodIn_ca (goodIn_r _ [161, 100, 136, 162, 163, 164, 2, 165, 166, 16, 167, 168, 142, 143, 144, 145, 106, 107, 110, 146, 147, 148, 149, 150, 581, 582, 583, 584, 585, 586, 587, 588, 589, 590, 591, 623, 624, 625, 626, 627, 628, 629, 630, 631] (by decide +kernel) (by decide +kernel)) (goodIn_sub (fun _ h => List.mem_append_left _ (List.mem_append_left _ (List.mem_append_right _ h))) (by decide +kernel))) (goodIn_sub (fun _ h => List.mem_append_right _ h) (by decide +kernel))
set_option maxRecDepth 20000 in
theorem gL_law_L_setPayouts : GoodIn wsL_law (va_wsS RL 89 yL_setPayouts wsL_setPayouts) := goodIn_app (goodIn_of _ (by decide +kernel)) ggL_law_L_setPayouts
set_option maxRecDepth 20000 in
theorem ggL_law_X5_setPayouts : GoodIn wsL_law wsX5_setPayouts := goodIn_r _ [172, 173, 75, 76, 155, 156, 157, 5, 158, 120, 121, 122, 123, 124, 125, 126, 127, 128, 592, 593, 594, 595, 596, 597, 598, 599, 600, 601, 602, 603, 604, 605, 606, 607, 608, 609, 610, 611, 612, 613, 614, 615, 616, 617, 618, 619, 620, 621, 622] (by decide +kernel) (by decide +kernel)
set_option maxRecDepth 20000 in
theorem gL_law_X5_setPayouts : GoodIn wsL_law (wsV RL 92 RX5 yX5_setPayouts wsX5_setPayouts) := goodIn_app (goodIn_of _ (by decide +kernel)) ggL_law_X5_setPayouts
set_option maxRecDepth 20000 in
theorem ggL_law_L_setReserve : GoodIn wsL_law wsL_setReserve := goodIn_ca (goodIn_ca (goodIn_r _ [176, 100, 136, 177, 178, 179, 2, 180, 16, 181, 182, 142, 143, 144, 145, 106, 107, 110, 146, 147, 148, 149, 150, 581, 582, 583, 584, 585, 586, 587, 588, 589, 590, 591, 623, 624, 625, 626, 627, 628, 629, 630, 631] (by decide +kernel) (by decide +kernel)) (goodIn_sub (fun _ h => List.mem_append_left _ (List.mem_append_left _ (List.mem_append_right _ h))) (by decide +kernel))) (goodIn_sub (fun _ h => List.mem_append_right _ h) (by decide +kernel))
set_option maxRecDepth 20000 in
theorem gL_law_L_setReserve : GoodIn wsL_law (va_wsS RL 93 yL_setReserve wsL_setReserve) := goodIn_app (goodIn_of _ (by decide +kernel)) ggL_law_L_setReserve
set_option maxRecDepth 20000 in
theorem ggL_law_X5_setReserve : GoodIn wsL_law wsX5_setReserve := goodIn_r _ [186, 77, 78, 155, 156, 157, 5, 158, 120, 121, 122, 123, 124, 125, 126, 127, 128, 592, 593, 594, 595, 596, 597, 598, 599, 600, 601, 602, 603, 604, 605, 606, 607, 608, 609, 610, 611, 612, 613, 614, 615, 616, 617, 618, 619, 620, 621, 622] (by decide +kernel) (by decide +kernel)
set_option maxRecDepth 20000 in
theorem gL_law_X5_setReserve : GoodIn wsL_law (wsV RL 95 RX5 yX5_setReserve wsX5_setReserve) := goodIn_app (goodIn_of _ (by decide +kernel)) ggL_law_X5_setReserve
set_option maxRecDepth 20000 in
theorem ggL_law_L_setShare : GoodIn wsL_law wsL_setShare := goodIn_ca (goodIn_ca (goodIn_r _ [189, 100, 136, 190, 191, 192, 2, 193, 30, 194, 195, 196, 106, 107, 146, 147, 148, 149, 150, 65, 66, 67, 68, 197, 198, 199, 200, 581, 582, 583, 584, 585, 586, 587, 588, 589, 590, 591] (by decide +kernel) (by decide +kernel)) (goodIn_sub (fun _ h => List.mem_append_left _ (List.mem_append_left _ (List.mem_append_right _ h))) (by decide +kernel))) (goodIn_sub (fun _ h => List.mem_append_right _ h) (by decide +kernel))
set_option maxRecDepth 20000 in
theorem gL_law_L_setShare : GoodIn wsL_law (va_wsS RL 96 yL_setShare wsL_setShare) := goodIn_app (goodIn_of _ (by decide +kernel)) ggL_law_L_setShare
set_option maxRecDepth 20000 in
theorem ggL_law_X5_setShare : GoodIn wsL_law wsX5_setShare := goodIn_r _ [204, 81, 205, 206, 207, 5, 208, 121, 122, 123, 124, 125, 126, 127, 128, 209, 210, 211, 212, 213, 214, 215, 216, 217, 218, 219, 220, 592, 593, 594, 595, 596, 597, 598, 599, 600, 601, 602, 603, 604, 605, 606, 607, 608, 609, 610, 611, 612, 613, 614, 615, 616, 617, 618, 619, 620, 621, 622] (by decide +kernel) (by decide +kernel)
set_option maxRecDepth 20000 in
theorem gL_law_X5_setShare : GoodIn wsL_law (wsV RL 98 RX5 yX5_setShare wsX5_setShare) := goodIn_app (goodIn_of _ (by decide +kernel)) ggL_law_X5_setShare
set_option maxRecDepth 20000 in
theorem ggL_law_L_setTax : GoodIn wsL_law wsL_setTax := goodIn_ca (goodIn_r _ [223, 136, 224, 225, 226, 2, 227, 228, 146, 147, 148, 149, 150, 581, 582, 583, 584, 585, 586, 587, 588, 589, 590, 591] (by decide +kernel) (by decide +kernel)) (goodIn_sub (fun _ h => List.mem_append_right _ h) (by decide +kernel))
set_option maxRecDepth 20000 in
theorem gL_law_L_setTax : GoodIn wsL_law (va_wsS RL 99 yL_setTax wsL_setTax) := goodIn_app (goodIn_of _ (by decide +kernel)) ggL_law_L_setTax
set_option maxRecDepth 20000 in
theorem ggL_law_X5_setTax : GoodIn wsL_law wsX5_setTax := goodIn_r _ [232, 233, 121, 122, 5, 123, 124, 125, 126, 127, 128, 592, 593, 594, 595, 596, 597, 598, 599, 600, 601, 602, 603, 604, 605, 606, 607, 608, 609, 610, 611, 612, 613, 614, 615, 616, 617, 618, 619, 620, 621, 622] (by decide +kernel) (by decide +kernel)
set_option maxRecDepth 20000 in
theorem gL_law_X5_setTax : GoodIn wsL_law (wsV RL 101 RX5 yX5_setTax wsX5_setTax) := goodIn_app (goodIn_of _ (by decide +kernel)) ggL_law_X5_setTax
set_option maxRecDepth 20000 in
theorem ggL_law_L_sell : GoodIn wsL_law wsL_sell := goodIn_ca (goodIn_ca (goodIn_ca (goodIn_r _ [236, 100, 136, 101, 237, 238, 239, 2, 240, 166, 142, 143, 144, 145, 106, 107, 16, 110, 194, 195, 196, 146, 147, 148, 149, 150, 241, 242, 243, 244, 108, 109, 20, 245, 246, 247, 248, 249, 30, 228, 250, 251, 252, 253, 181, 254, 255, 256, 257, 258, 259, 182, 260, 261, 262, 263, 264, 265, 266, 267, 268, 269, 270, 271, 19, 272, 273, 46, 49, 274, 275, 276, 277, 278, 28, 279, 280, 281, 27, 282, 283, 63, 64, 284, 285, 286, 287, 62, 581, 582, 583, 584, 585, 586, 587, 588, 589, 590, 591, 623, 624, 625, 626, 627, 628, 629, 630, 631, 632, 633, 634, 635, 636, 637, 638, 639, 644, 645, 646, 647] (by decide +kernel) (by decide +kernel)) (goodIn_sub (fun _ h => List.mem_append_left _ (List.mem_append_left _ (List.mem_append_right _ h))) (by decide +kernel))) (goodIn_sub (fun _ h => List.mem_append_right _ h) (by decide +kernel))) (goodIn_sub (fun _ h => List.mem_append_left _ (List.mem_append_right _ h)) (by decide +kernel))
set_option maxRecDepth 20000 in
theorem gL_law_L_sell : GoodIn wsL_law (va_wsS RL 102 yL_sell wsL_sell) := goodIn_app (goodIn_of _ (by decide +kernel)) ggL_law_L_sell
set_option maxRecDepth 20000 in
theorem ggL_law_X5_sell : GoodIn wsL_law wsX5_sell := goodIn_r _ [291, 173, 292, 155, 156, 157, 5, 158, 120, 121, 122, 123, 206, 207, 208, 124, 125, 126, 127, 128, 293, 294, 295, 296, 233, 81, 77, 297, 82, 83, 85, 86, 87, 89, 90, 298, 78, 79, 299, 300, 301, 302, 303, 304, 592, 593, 594, 595, 596, 597, 598, 599, 600, 601, 602, 603, 604, 605, 606, 607, 608, 609, 610, 611, 612, 613, 614, 615, 616, 617, 618, 619, 620, 621, 622] (by decide +kernel) (by decide +kernel)
set_option maxRecDepth 20000 in
theorem gL_law_X5_sell : GoodIn wsL_law (wsV RL 105 RX5 yX5_sell wsX5_sell) := goodIn_app (goodIn_of _ (by decide +kernel)) ggL_law_X5_sell
set_option maxRecDepth 20000 in
theorem ggL_law_L_order : GoodIn wsL_law wsL_order := goodIn_ca (goodIn_ca (goodIn_ca (goodIn_r _ [307, 100, 136, 101, 308, 309, 310, 2, 311, 149, 150, 108, 109, 166, 16, 110, 250, 251, 252, 253, 194, 195, 196, 106, 107, 146, 147, 148, 312, 313, 314, 315, 316, 317, 318, 241, 242, 243, 244, 20, 245, 319, 320, 321, 322, 246, 247, 248, 249, 30, 228, 181, 254, 255, 256, 257, 258, 259, 182, 260, 261, 262, 263, 264, 265, 266, 267, 268, 269, 270, 271, 19, 272, 273, 46, 49, 274, 275, 276, 277, 278, 28, 279, 280, 281, 27, 282, 283, 63, 64, 284, 285, 286, 287, 62, 581, 582, 583, 584, 585, 586, 587, 588, 589, 590, 591, 623, 624, 625, 626, 627, 628, 629, 630, 631, 632, 633, 634, 635, 636, 637, 638, 639, 644, 645, 646, 647] (by decide +kernel) (by decide +kernel)) (goodIn_sub (fun _ h => List.mem_append_right _ h) (by decide +kernel))) (goodIn_sub (fun _ h => List.mem_append_left _ (List.mem_append_right _ h)) (by decide +kernel))) (goodIn_sub (fun _ h => List.mem_append_left _ (List.mem_append_left _ (List.mem_append_right _ h))) (by decide +kernel))
set_option maxRecDepth 20000 in
theorem gL_law_L_order : GoodIn wsL_law (va_wsS RL 106 yL_order wsL_order) := goodIn_app (goodIn_of _ (by decide +kernel)) ggL_law_L_order
set_option maxRecDepth 20000 in
theorem ggL_law_X5_order : GoodIn wsL_law wsX5_order := goodIn_r _ [326, 173, 120, 292, 121, 122, 5, 123, 327, 328, 329, 206, 207, 208, 124, 125, 126, 127, 128, 293, 294, 295, 296, 233, 81, 77, 297, 82, 83, 85, 86, 87, 89, 90, 298, 78, 79, 299, 300, 301, 302, 303, 304, 592, 593, 594, 595, 596, 597, 598, 599, 600, 601, 602, 603, 604, 605, 606, 607, 608, 609, 610, 611, 612, 613, 614, 615, 616, 617, 618, 619, 620, 621, 622] (by decide +kernel) (by decide +kernel)
set_option maxRecDepth 20000 in
theorem gL_law_X5_order : GoodIn wsL_law (wsV RL 108 RX5 yX5_order wsX5_order) := goodIn_app (goodIn_of _ (by decide +kernel)) ggL_law_X5_order
set_option maxRecDepth 20000 in
theorem ggL_law_L_refund : GoodIn wsL_law wsL_refund := goodIn_ca (goodIn_ca (goodIn_ca (goodIn_r _ [332, 100, 136, 101, 333, 334, 335, 2, 336, 106, 107, 108, 109, 20, 245, 166, 337, 338, 255, 254, 256, 250, 251, 252, 253, 339, 261, 262, 16, 278, 146, 147, 148, 149, 150, 263, 264, 265, 266, 267, 268, 274, 275, 276, 277, 28, 279, 280, 281, 27, 282, 283, 63, 64, 284, 285, 286, 287, 62, 581, 582, 583, 584, 585, 586, 587, 588, 589, 590, 591, 632, 633, 634, 635, 636, 637, 638, 639, 623, 624, 625, 626, 627, 628, 629, 630, 631, 644, 645, 646, 647] (by decide +kernel) (by decide +kernel)) (goodIn_sub (fun _ h => List.mem_append_left _ (List.mem_append_left _ (List.mem_append_right _ h))) (by decide +kernel))) (goodIn_sub (fun _ h => List.mem_append_left _ (List.mem_append_right _ h)) (by decide +kernel))) (goodIn_sub (fun _ h => List.mem_append_right _ h) (by decide +kernel))
set_option maxRecDepth 20000 in
theorem gL_law_L_refund : GoodIn wsL_law (va_wsS RL 109 yL_refund wsL_refund) := goodIn_app (goodIn_of _ (by decide +kernel)) ggL_law_L_refund
set_option maxRecDepth 20000 in
theorem ggL_law_X5_refund : GoodIn wsL_law wsX5_refund := goodIn_r _ [343, 292, 173, 83, 84, 86, 85, 88, 87, 344, 301, 300, 79, 82, 121, 122, 5, 123, 124, 125, 126, 127, 128, 302, 303, 304, 592, 593, 594, 595, 596, 597, 598, 599, 600, 601, 602, 603, 604, 605, 606, 607, 608, 609, 610, 611, 612, 613, 614, 615, 616, 617, 618, 619, 620, 621, 622] (by decide +kernel) (by decide +kernel)
set_option maxRecDepth 20000 in
theorem gL_law_X5_refund : GoodIn wsL_law (wsV RL 112 RX5 yX5_refund wsX5_refund) := goodIn_app (goodIn_of _ (by decide +kernel)) ggL_law_X5_refund
set_option maxRecDepth 20000 in
theorem ggL_law_L_pass : GoodIn wsL_law wsL_pass := goodIn_ca (goodIn_ca (goodIn_r _ [347, 136, 101, 348, 349, 350, 2, 351, 108, 109, 259, 24, 352, 146, 147, 148, 149, 150, 353, 354, 355, 356, 16, 110, 167, 357, 358, 359, 360, 20, 245, 258, 257, 361, 362, 363, 364, 338, 274, 275, 276, 277, 278, 28, 279, 280, 281, 27, 282, 283, 63, 64, 284, 285, 286, 287, 62, 365, 366, 367, 368, 250, 251, 252, 253, 369, 370, 371, 372, 373, 374, 375, 376, 377, 378, 379, 380, 381, 382, 141, 168, 383, 384, 385, 386, 23, 387, 388, 57, 56, 389, 390, 391, 392, 58, 393, 394, 395, 396, 397, 398, 399, 400, 401, 402, 34, 403, 404, 405, 406, 407, 581, 582, 583, 584, 585, 586, 587, 588, 589, 590, 591, 640, 641, 642, 643, 623, 624, 625, 626, 627, 628, 629, 630, 631, 632, 633, 634, 635, 636, 637, 638, 639, 644, 645, 646, 647] (by decide +kernel) (by decide +kernel)) (goodIn_sub (fun _ h => List.mem_append_left _ (List.mem_append_right _ h)) (by decide +kernel))) (goodIn_sub (fun _ h => List.mem_append_right _ h) (by decide +kernel))
set_option maxRecDepth 20000 in
theorem gL_law_L_pass : GoodIn wsL_law (va_wsS RL 113 yL_pass wsL_pass) := goodIn_app (goodIn_of _ (by decide +kernel)) ggL_law_L_pass
set_option maxRecDepth 20000 in
theorem ggL_law_X5_pass : GoodIn wsL_law wsX5_pass := goodIn_r _ [411, 298, 412, 121, 122, 5, 123, 124, 125, 126, 127, 128, 413, 414, 415, 416, 120, 75, 417, 418, 419, 420, 292, 90, 79, 82, 89, 421, 422, 423, 424, 425, 426, 427, 428, 429, 430, 431, 73, 432, 433, 434, 435, 76, 74, 436, 80, 91, 92, 592, 593, 594, 595, 596, 597, 598, 599, 600, 601, 602, 603, 604, 605, 606, 607, 608, 609, 610, 611, 612, 613, 614, 615, 616, 617, 618, 619, 620, 621, 622] (by decide +kernel) (by decide +kernel)
set_option maxRecDepth 20000 in
theorem gL_law_X5_pass : GoodIn wsL_law (wsV RL 115 RX5 yX5_pass wsX5_pass) := goodIn_app (goodIn_of _ (by decide +kernel)) ggL_law_X5_pass
set_option maxRecDepth 20000 in
theorem ggL_law_L_fail : GoodIn wsL_law wsL_fail := goodIn_ca (goodIn_ca (goodIn_r _ [439, 100, 101, 440, 441, 442, 2, 443, 108, 109, 24, 444, 445, 446, 16, 378, 278, 447, 448, 449, 450, 106, 107, 352, 274, 275, 276, 277, 28, 279, 280, 281, 27, 282, 283, 63, 64, 284, 285, 286, 287, 62, 581, 582, 583, 584, 585, 586, 587, 588, 589, 590, 591, 640, 641, 642, 643, 623, 624, 625, 626, 627, 628, 629, 630, 631, 644, 645, 646, 647] (by decide +kernel) (by decide +kernel)) (goodIn_sub (fun _ h => List.mem_append_left _ (List.mem_append_right _ h)) (by decide +kernel))) (goodIn_sub (fun _ h => List.mem_append_left _ (List.mem_append_left _ (List.mem_append_right _ h))) (by decide +kernel))
set_option maxRecDepth 20000 in
theorem gL_law_L_fail : GoodIn wsL_law (va_wsS RL 116 yL_fail wsL_fail) := goodIn_app (goodIn_of _ (by decide +kernel)) ggL_law_L_fail
set_option maxRecDepth 20000 in
theorem ggL_law_X5_fail : GoodIn wsL_law wsX5_fail := goodIn_r _ [454, 94, 92, 79, 91, 80, 455, 456, 457, 5, 458, 412, 121, 122, 123, 124, 125, 126, 127, 128, 592, 593, 594, 595, 596, 597, 598, 599, 600, 601, 602, 603, 604, 605, 606, 607, 608, 609, 610, 611, 612, 613, 614, 615, 616, 617, 618, 619, 620, 621, 622] (by decide +kernel) (by decide +kernel)
set_option maxRecDepth 20000 in
theorem gL_law_X5_fail : GoodIn wsL_law (wsV RL 118 RX5 yX5_fail wsX5_fail) := goodIn_app (goodIn_of _ (by decide +kernel)) ggL_law_X5_fail
set_option maxRecDepth 20000 in
theorem ggL_law_X4_today : GoodIn wsL_law wsX4_today := goodIn_r _ [462, 259, 581, 582, 583, 584, 585, 586, 587, 588, 589, 590, 591] (by decide +kernel) (by decide +kernel)
set_option maxRecDepth 20000 in
theorem gL_law_X4_today : GoodIn wsL_law (wsV RL 119 RX4 yX4_today wsX4_today) := goodIn_app (goodIn_of _ (by decide +kernel)) ggL_law_X4_today
set_option maxRecDepth 20000 in
theorem ggL_law_X5_today : GoodIn wsL_law wsX5_today := goodIn_r _ [466, 128, 298, 592, 593, 594, 595, 596, 597, 598, 599, 600, 601, 602, 603, 604, 605, 606, 607, 608, 609, 610, 611, 612, 613, 614, 615, 616, 617, 618, 619, 620, 621, 622] (by decide +kernel) (by decide +kernel)
set_option maxRecDepth 20000 in
theorem gL_law_X5_today : GoodIn wsL_law (wsV RL 122 RX5 yX5_today wsX5_today) := goodIn_app (goodIn_of _ (by decide +kernel)) ggL_law_X5_today
set_option maxRecDepth 20000 in
theorem ggL_law_X4_payouts : GoodIn wsL_law wsX4_payouts := goodIn_r _ [470, 24, 352, 581, 582, 583, 584, 585, 586, 587, 588, 589, 590, 591, 640, 641, 642, 643] (by decide +kernel) (by decide +kernel)
set_option maxRecDepth 20000 in
theorem gL_law_X4_payouts : GoodIn wsL_law (wsV RL 123 RX4 yX4_payouts wsX4_payouts) := goodIn_app (goodIn_of _ (by decide +kernel)) ggL_law_X4_payouts
set_option maxRecDepth 20000 in
theorem ggL_law_X5_payouts : GoodIn wsL_law wsX5_payouts := goodIn_r _ [474, 128, 412, 592, 593, 594, 595, 596, 597, 598, 599, 600, 601, 602, 603, 604, 605, 606, 607, 608, 609, 610, 611, 612, 613, 614, 615, 616, 617, 618, 619, 620, 621, 622] (by decide +kernel) (by decide +kernel)
set_option maxRecDepth 20000 in
theorem gL_law_X5_payouts : GoodIn wsL_law (wsV RL 126 RX5 yX5_payouts wsX5_payouts) := goodIn_app (goodIn_of _ (by decide +kernel)) ggL_law_X5_payouts
set_option maxRecDepth 20000 in
theorem ggL_law_L_payout : GoodIn wsL_law wsL_payout := goodIn_ca (goodIn_r _ [477, 100, 478, 479, 480, 2, 481, 24, 446, 447, 448, 449, 450, 106, 107, 352, 581, 582, 583, 584, 585, 586, 587, 588, 589, 590, 591, 640, 641, 642, 643] (by decide +kernel) (by decide +kernel)) (goodIn_sub (fun _ h => List.mem_append_left _ (List.mem_append_left _ (List.mem_append_right _ h))) (by decide +kernel))
set_option maxRecDepth 20000 in
theorem gL_law_L_payout : GoodIn wsL_law (va_wsS RL 127 yL_payout wsL_payout) := goodIn_app (goodIn_of _ (by decide +kernel)) ggL_law_L_payout
set_option maxRecDepth 20000 in
theorem ggL_law_X5_payout : GoodIn wsL_law wsX5_payout := goodIn_r _ [485, 91, 455, 456, 457, 5, 458, 412, 121, 122, 123, 124, 125, 126, 127, 128, 592, 593, 594, 595, 596, 597, 598, 599, 600, 601, 602, 603, 604, 605, 606, 607, 608, 609, 610, 611, 612, 613, 614, 615, 616, 617, 618, 619, 620, 621, 622] (by decide +kernel) (by decide +kernel)
set_option maxRecDepth 20000 in
theorem gL_law_X5_payout : GoodIn wsL_law (wsV RL 129 RX5 yX5_payout wsX5_payout) := goodIn_app (goodIn_of _ (by decide +kernel)) ggL_law_X5_payout
set_option maxRecDepth 20000 in
theorem ggL_law_L_sellerOf : GoodIn wsL_law wsL_sellerOf := goodIn_ca (goodIn_r _ [488, 100, 489, 490, 491, 2, 492, 24, 445, 447, 448, 449, 450, 106, 107, 352, 581, 582, 583, 584, 585, 586, 587, 588, 589, 590, 591, 640, 641, 642, 643] (by decide +kernel) (by decide +kernel)) (goodIn_sub (fun _ h => List.mem_append_left _ (List.mem_append_left _ (List.mem_append_right _ h))) (by decide +kernel))
set_option maxRecDepth 20000 in
theorem gL_law_L_sellerOf : GoodIn wsL_law (va_wsS RL 130 yL_sellerOf wsL_sellerOf) := goodIn_app (goodIn_of _ (by decide +kernel)) ggL_law_L_sellerOf
set_option maxRecDepth 20000 in
theorem ggL_law_X5_sellerOf : GoodIn wsL_law wsX5_sellerOf := goodIn_r _ [496, 92, 455, 456, 457, 5, 458, 412, 121, 122, 123, 124, 125, 126, 127, 128, 592, 593, 594, 595, 596, 597, 598, 599, 600, 601, 602, 603, 604, 605, 606, 607, 608, 609, 610, 611, 612, 613, 614, 615, 616, 617, 618, 619, 620, 621, 622] (by decide +kernel) (by decide +kernel)
set_option maxRecDepth 20000 in
theorem gL_law_X5_sellerOf : GoodIn wsL_law (wsV RL 132 RX5 yX5_sellerOf wsX5_sellerOf) := goodIn_app (goodIn_of _ (by decide +kernel)) ggL_law_X5_sellerOf
set_option maxRecDepth 20000 in
theorem ggL_law_L_balance : GoodIn wsL_law wsL_balance := goodIn_ca (goodIn_r _ [499, 100, 500, 501, 502, 2, 503, 16, 278, 142, 143, 144, 145, 106, 107, 110, 581, 582, 583, 584, 585, 586, 587, 588, 589, 590, 591, 623, 624, 625, 626, 627, 628, 629, 630, 631] (by decide +kernel) (by decide +kernel)) (goodIn_sub (fun _ h => List.mem_append_left _ (List.mem_append_left _ (List.mem_append_right _ h))) (by decide +kernel))
set_option maxRecDepth 20000 in
theorem gL_law_L_balance : GoodIn wsL_law (va_wsS RL 133 yL_balance wsL_balance) := goodIn_app (goodIn_of _ (by decide +kernel)) ggL_law_L_balance
set_option maxRecDepth 20000 in
theorem ggL_law_X5_balance : GoodIn wsL_law wsX5_balance := goodIn_r _ [507, 79, 155, 156, 157, 5, 158, 120, 121, 122, 123, 124, 125, 126, 127, 128, 592, 593, 594, 595, 596, 597, 598, 599, 600, 601, 602, 603, 604, 605, 606, 607, 608, 609, 610, 611, 612, 613, 614, 615, 616, 617, 618, 619, 620, 621, 622] (by decide +kernel) (by decide +kernel)
set_option maxRecDepth 20000 in
theorem gL_law_X5_balance : GoodIn wsL_law (wsV RL 135 RX5 yX5_balance wsX5_balance) := goodIn_app (goodIn_of _ (by decide +kernel)) ggL_law_X5_balance
set_option maxRecDepth 20000 in
theorem ggL_law_L_balanceByEntries : GoodIn wsL_law wsL_balanceByEntries := goodIn_ca (goodIn_r _ [510, 100, 511, 512, 513, 2, 514, 28, 142, 143, 144, 145, 106, 107, 16, 110, 515, 516, 517, 27, 518, 62, 283, 63, 64, 581, 582, 583, 584, 585, 586, 587, 588, 589, 590, 591, 623, 624, 625, 626, 627, 628, 629, 630, 631, 644, 645, 646, 647] (by decide +kernel) (by decide +kernel)) (goodIn_sub (fun _ h => List.mem_append_left _ (List.mem_append_left _ (List.mem_append_right _ h))) (by decide +kernel))
set_option maxRecDepth 20000 in
theorem gL_law_L_balanceByEntries : GoodIn wsL_law (va_wsS RL 136 yL_balanceByEntries wsL_balanceByEntries) := goodIn_app (goodIn_of _ (by decide +kernel)) ggL_law_L_balanceByEntries
set_option maxRecDepth 20000 in
theorem ggL_law_X5_balanceByEntries : GoodIn wsL_law wsX5_balanceByEntries := goodIn_r _ [522, 79, 155, 156, 157, 5, 158, 120, 121, 122, 123, 124, 125, 126, 127, 128, 592, 593, 594, 595, 596, 597, 598, 599, 600, 601, 602, 603, 604, 605, 606, 607, 608, 609, 610, 611, 612, 613, 614, 615, 616, 617, 618, 619, 620, 621, 622] (by decide +kernel) (by decide +kernel)
set_option maxRecDepth 20000 in
theorem gL_law_X5_balanceByEntries : GoodIn wsL_law (wsV RL 138 RX5 yX5_balanceByEntries wsX5_balanceByEntries) := goodIn_app (goodIn_of _ (by decide +kernel)) ggL_law_X5_balanceByEntries
set_option maxRecDepth 20000 in
theorem ggL_law_L_reserve : GoodIn wsL_law wsL_reserve := goodIn_ca (goodIn_r _ [525, 100, 526, 527, 528, 2, 529, 20, 142, 143, 144, 145, 106, 107, 16, 110, 530, 531, 532, 19, 533, 273, 46, 51, 581, 582, 583, 584, 585, 586, 587, 588, 589, 590, 591, 623, 624, 625, 626, 627, 628, 629, 630, 631, 632, 633, 634, 635, 636, 637, 638, 639] (by decide +kernel) (by decide +kernel)) (goodIn_sub (fun _ h => List.mem_append_left _ (List.mem_append_left _ (List.mem_append_right _ h))) (by decide +kernel))
set_option maxRecDepth 20000 in
theorem gL_law_L_reserve : GoodIn wsL_law (va_wsS RL 139 yL_reserve wsL_reserve) := goodIn_app (goodIn_of _ (by decide +kernel)) ggL_law_L_reserve
set_option maxRecDepth 20000 in
theorem ggL_law_X5_reserve : GoodIn wsL_law wsX5_reserve := goodIn_r _ [537, 292, 82, 89, 155, 156, 157, 5, 158, 120, 121, 122, 123, 124, 125, 126, 127, 128, 592, 593, 594, 595, 596, 597, 598, 599, 600, 601, 602, 603, 604, 605, 606, 607, 608, 609, 610, 611, 612, 613, 614, 615, 616, 617, 618, 619, 620, 621, 622] (by decide +kernel) (by decide +kernel)
set_option maxRecDepth 20000 in
theorem gL_law_X5_reserve : GoodIn wsL_law (wsV RL 141 RX5 yX5_reserve wsX5_reserve) := goodIn_app (goodIn_of _ (by decide +kernel)) ggL_law_X5_reserve
set_option maxRecDepth 20000 in
theorem ggL_law_L_paidTo : GoodIn wsL_law wsL_paidTo := goodIn_ca (goodIn_r _ [540, 100, 541, 542, 543, 2, 544, 16, 378, 142, 143, 144, 145, 106, 107, 110, 581, 582, 583, 584, 585, 586, 587, 588, 589, 590, 591, 623, 624, 625, 626, 627, 628, 629, 630, 631] (by decide +kernel) (by decide +kernel)) (goodIn_sub (fun _ h => List.mem_append_left _ (List.mem_append_left _ (List.mem_append_right _ h))) (by decide +kernel))
set_option maxRecDepth 20000 in
theorem gL_law_L_paidTo : GoodIn wsL_law (va_wsS RL 142 yL_paidTo wsL_paidTo) := goodIn_app (goodIn_of _ (by decide +kernel)) ggL_law_L_paidTo
set_option maxRecDepth 20000 in
theorem ggL_law_X5_paidTo : GoodIn wsL_law wsX5_paidTo := goodIn_r _ [548, 80, 155, 156, 157, 5, 158, 120, 121, 122, 123, 124, 125, 126, 127, 128, 592, 593, 594, 595, 596, 597, 598, 599, 600, 601, 602, 603, 604, 605, 606, 607, 608, 609, 610, 611, 612, 613, 614, 615, 616, 617, 618, 619, 620, 621, 622] (by decide +kernel) (by decide +kernel)
set_option maxRecDepth 20000 in
theorem gL_law_X5_paidTo : GoodIn wsL_law (wsV RL 144 RX5 yX5_paidTo wsX5_paidTo) := goodIn_app (goodIn_of _ (by decide +kernel)) ggL_law_X5_paidTo
set_option maxRecDepth 20000 in
theorem ggL_law_X4_received : GoodIn wsL_law wsX4_received := goodIn_r _ [552, 260, 581, 582, 583, 584, 585, 586, 587, 588, 589, 590, 591] (by decide +kernel) (by decide +kernel)
set_option maxRecDepth 20000 in
theorem gL_law_X4_received : GoodIn wsL_law (wsV RL 145 RX4 yX4_received wsX4_received) := goodIn_app (goodIn_of _ (by decide +kernel)) ggL_law_X4_received
set_option maxRecDepth 20000 in
theorem ggL_law_X5_received : GoodIn wsL_law wsX5_received := goodIn_r _ [556, 128, 299, 592, 593, 594, 595, 596, 597, 598, 599, 600, 601, 602, 603, 604, 605, 606, 607, 608, 609, 610, 611, 612, 613, 614, 615, 616, 617, 618, 619, 620, 621, 622] (by decide +kernel) (by decide +kernel)
set_option maxRecDepth 20000 in
theorem gL_law_X5_received : GoodIn wsL_law (wsV RL 148 RX5 yX5_received wsX5_received) := goodIn_app (goodIn_of _ (by decide +kernel)) ggL_law_X5_received
set_option maxRecDepth 20000 in
theorem ggL_law_X4_refunded : GoodIn wsL_law wsX4_refunded := goodIn_r _ [560, 339, 581, 582, 583, 584, 585, 586, 587, 588, 589, 590, 591] (by decide +kernel) (by decide +kernel)
set_option maxRecDepth 20000 in
theorem gL_law_X4_refunded : GoodIn wsL_law (wsV RL 149 RX4 yX4_refunded wsX4_refunded) := goodIn_app (goodIn_of _ (by decide +kernel)) ggL_law_X4_refunded
set_option maxRecDepth 20000 in
theorem ggL_law_X5_refunded : GoodIn wsL_law wsX5_refunded := goodIn_r _ [564, 128, 344, 592, 593, 594, 595, 596, 597, 598, 599, 600, 601, 602, 603, 604, 605, 606, 607, 608, 609, 610, 611, 612, 613, 614, 615, 616, 617, 618, 619, 620, 621, 622] (by decide +kernel) (by decide +kernel)
set_option maxRecDepth 20000 in
theorem gL_law_X5_refunded : GoodIn wsL_law (wsV RL 152 RX5 yX5_refunded wsX5_refunded) := goodIn_app (goodIn_of _ (by decide +kernel)) ggL_law_X5_refunded
set_option maxRecDepth 20000 in
theorem ggL_law_X4_fees : GoodIn wsL_law wsX4_fees := goodIn_r _ [568, 262, 581, 582, 583, 584, 585, 586, 587, 588, 589, 590, 591] (by decide +kernel) (by decide +kernel)
set_option maxRecDepth 20000 in
theorem gL_law_X4_fees : GoodIn wsL_law (wsV RL 153 RX4 yX4_fees wsX4_fees) := goodIn_app (goodIn_of _ (by decide +kernel)) ggL_law_X4_fees
set_option maxRecDepth 20000 in
theorem ggL_law_X5_fees : GoodIn wsL_law wsX5_fees := goodIn_r _ [572, 128, 300, 592, 593, 594, 595, 596, 597, 598, 599, 600, 601, 602, 603, 604, 605, 606, 607, 608, 609, 610, 611, 612, 613, 614, 615, 616, 617, 618, 619, 620, 621, 622] (by decide +kernel) (by decide +kernel)
set_option maxRecDepth 20000 in
theorem gL_law_X5_fees : GoodIn wsL_law (wsV RL 156 RX5 yX5_fees wsX5_fees) := goodIn_app (goodIn_of _ (by decide +kernel)) ggL_law_X5_fees
set_option maxRecDepth 20000 in
theorem ggL_law_X4_taxes : GoodIn wsL_law wsX4_taxes := goodIn_r _ [576, 261, 581, 582, 583, 584, 585, 586, 587, 588, 589, 590, 591] (by decide +kernel) (by decide +kernel)
set_option maxRecDepth 20000 in
theorem gL_law_X4_taxes : GoodIn wsL_law (wsV RL 157 RX4 yX4_taxes wsX4_taxes) := goodIn_app (goodIn_of _ (by decide +kernel)) ggL_law_X4_taxes
set_option maxRecDepth 20000 in
theorem ggL_law_X5_taxes : GoodIn wsL_law wsX5_taxes := goodIn_r _ [580, 128, 301, 592, 593, 594, 595, 596, 597, 598, 599, 600, 601, 602, 603, 604, 605, 606, 607, 608, 609, 610, 611, 612, 613, 614, 615, 616, 617, 618, 619, 620, 621, 622] (by decide +kernel) (by decide +kernel)
set_option maxRecDepth 20000 in
theorem gL_law_X5_taxes : GoodIn wsL_law (wsV RL 160 RX5 yX5_taxes wsX5_taxes) := goodIn_app (goodIn_of _ (by decide +kernel)) ggL_law_X5_taxes
end
section
theorem dL_law_0 : decode cL_law 0 = .ok (.new 8, 3) := by decide +kernel
theorem dL_law_3 : decode cL_law 3 = .ok (.dup, 1) := by decide +kernel
theorem dL_law_4 : decode cL_law 4 = .ok (.invokespecial 71, 3) := by decide +kernel
theorem dL_law_7 : decode cL_law 7 = .ok (.astore_n 1, 1) := by decide +kernel
theorem dL_law_8 : decode cL_law 8 = .ok (.new 72, 3) := by decide +kernel
theorem dL_law_11 : decode cL_law 11 = .ok (.dup, 1) := by decide +kernel
theorem dL_law_12 : decode cL_law 12 = .ok (.invokespecial 74, 3) := by decide +kernel
theorem dL_law_15 : decode cL_law 15 = .ok (.astore_n 2, 1) := by decide +kernel
theorem dL_law_16 : decode cL_law 16 = .ok (.iconst 1, 1) := by decide +kernel
theorem dL_law_17 : decode cL_law 17 = .ok (.newarray .long, 2) := by decide +kernel
theorem dL_law_19 : decode cL_law 19 = .ok (.astore_n 3, 1) := by decide +kernel
theorem dL_law_20 : decode cL_law 20 = .ok (.iconst 0, 1) := by decide +kernel
theorem dL_law_21 : decode cL_law 21 = .ok (.istore 4, 2) := by decide +kernel
theorem dL_law_23 : decode cL_law 23 = .ok (.iload 4, 2) := by decide +kernel
theorem dL_law_25 : decode cL_law 25 = .ok (.aload_n 0, 1) := by decide +kernel
theorem dL_law_26 : decode cL_law 26 = .ok (.arraylength, 1) := by decide +kernel
theorem dL_law_27 : decode cL_law 27 = .ok (.iconst 4, 1) := by decide +kernel
theorem dL_law_28 : decode cL_law 28 = .ok (.isub, 1) := by decide +kernel
theorem dL_law_29 : decode cL_law 29 = .ok (.if_icmp .gt 1271, 3) := by decide +kernel
theorem dL_law_32 : decode cL_law 32 = .ok (.aload_n 0, 1) := by decide +kernel
theorem dL_law_33 : decode cL_law 33 = .ok (.iload 4, 2) := by decide +kernel
theorem dL_law_35 : decode cL_law 35 = .ok (.iaload, 1) := by decide +kernel
theorem dL_law_36 : decode cL_law 36 = .ok (.bipush 31, 2) := by decide +kernel
theorem dL_law_38 : decode cL_law 38 = .ok (.iand, 1) := by decide +kernel
theorem dL_law_39 : decode cL_law 39 = .ok (.tableswitch 1255 0 22 #[105, 161, 229, 289, 349, 417, 473, 553, 633, 729, 785, 841, 854, 867, 923, 979, 1035, 1091, 1147, 1203, 1216, 1229, 1242], 105) := by decide +kernel
theorem dL_law_144 : decode cL_law 144 = .ok (.aload_n 1, 1) := by decide +kernel
theorem dL_law_145 : decode cL_law 145 = .ok (.aload_n 0, 1) := by decide +kernel
theorem dL_law_146 : decode cL_law 146 = .ok (.iload 4, 2) := by decide +kernel
theorem dL_law_148 : decode cL_law 148 = .ok (.iconst 1, 1) := by decide +kernel
theorem dL_law_149 : decode cL_law 149 = .ok (.iadd, 1) := by decide +kernel
theorem dL_law_150 : decode cL_law 150 = .ok (.iaload, 1) := by decide +kernel
theorem dL_law_151 : decode cL_law 151 = .ok (.aload_n 3, 1) := by decide +kernel
theorem dL_law_152 : decode cL_law 152 = .ok (.invokestatic 75, 3) := by decide +kernel
theorem dL_law_155 : decode cL_law 155 = .ok (.istore 5, 2) := by decide +kernel
theorem dL_law_157 : decode cL_law 157 = .ok (.aload_n 2, 1) := by decide +kernel
theorem dL_law_158 : decode cL_law 158 = .ok (.aload_n 0, 1) := by decide +kernel
theorem dL_law_159 : decode cL_law 159 = .ok (.iload 4, 2) := by decide +kernel
theorem dL_law_161 : decode cL_law 161 = .ok (.iconst 1, 1) := by decide +kernel
theorem dL_law_162 : decode cL_law 162 = .ok (.iadd, 1) := by decide +kernel
theorem dL_law_163 : decode cL_law 163 = .ok (.iaload, 1) := by decide +kernel
theorem dL_law_164 : decode cL_law 164 = .ok (.invokevirtual 80, 3) := by decide +kernel
theorem dL_law_167 : decode cL_law 167 = .ok (.istore 6, 2) := by decide +kernel
theorem dL_law_169 : decode cL_law 169 = .ok (.aload_n 2, 1) := by decide +kernel
theorem dL_law_170 : decode cL_law 170 = .ok (.invokevirtual 81, 3) := by decide +kernel
theorem dL_law_173 : decode cL_law 173 = .ok (.iload 5, 2) := by decide +kernel
theorem dL_law_175 : decode cL_law 175 = .ok (.if_icmp .eq 5, 3) := by decide +kernel
theorem dL_law_178 : decode cL_law 178 = .ok (.iconst 0, 1) := by decide +kernel
theorem dL_law_179 : decode cL_law 179 = .ok (.ireturn, 1) := by decide +kernel
theorem dL_law_180 : decode cL_law 180 = .ok (.iload 5, 2) := by decide +kernel
theorem dL_law_182 : decode cL_law 182 = .ok (.ifCond .ne 15, 3) := by decide +kernel
theorem dL_law_185 : decode cL_law 185 = .ok (.aload_n 3, 1) := by decide +kernel
theorem dL_law_186 : decode cL_law 186 = .ok (.iconst 0, 1) := by decide +kernel
theorem dL_law_187 : decode cL_law 187 = .ok (.laload, 1) := by decide +kernel
theorem dL_law_188 : decode cL_law 188 = .ok (.iload 6, 2) := by decide +kernel
theorem dL_law_190 : decode cL_law 190 = .ok (.i2l, 1) := by decide +kernel
theorem dL_law_191 : decode cL_law 191 = .ok (.lcmp, 1) := by decide +kernel
theorem dL_law_192 : decode cL_law 192 = .ok (.ifCond .eq 5, 3) := by decide +kernel
theorem dL_law_195 : decode cL_law 195 = .ok (.iconst 0, 1) := by decide +kernel
theorem dL_law_196 : decode cL_law 196 = .ok (.ireturn, 1) := by decide +kernel
theorem dL_law_197 : decode cL_law 197 = .ok (.goto 1097, 3) := by decide +kernel
theorem dL_law_200 : decode cL_law 200 = .ok (.aload_n 1, 1) := by decide +kernel
theorem dL_law_201 : decode cL_law 201 = .ok (.aload_n 0, 1) := by decide +kernel
theorem dL_law_202 : decode cL_law 202 = .ok (.iload 4, 2) := by decide +kernel
theorem dL_law_204 : decode cL_law 204 = .ok (.iconst 1, 1) := by decide +kernel
theorem dL_law_205 : decode cL_law 205 = .ok (.iadd, 1) := by decide +kernel
theorem dL_law_206 : decode cL_law 206 = .ok (.iaload, 1) := by decide +kernel
theorem dL_law_207 : decode cL_law 207 = .ok (.aload_n 0, 1) := by decide +kernel
theorem dL_law_208 : decode cL_law 208 = .ok (.iload 4, 2) := by decide +kernel
theorem dL_law_210 : decode cL_law 210 = .ok (.iconst 2, 1) := by decide +kernel
theorem dL_law_211 : decode cL_law 211 = .ok (.iadd, 1) := by decide +kernel
theorem dL_law_212 : decode cL_law 212 = .ok (.iaload, 1) := by decide +kernel
theorem dL_law_213 : decode cL_law 213 = .ok (.aload_n 3, 1) := by decide +kernel
theorem dL_law_214 : decode cL_law 214 = .ok (.invokestatic 85, 3) := by decide +kernel
theorem dL_law_217 : decode cL_law 217 = .ok (.istore 5, 2) := by decide +kernel
theorem dL_law_219 : decode cL_law 219 = .ok (.aload_n 2, 1) := by decide +kernel
theorem dL_law_220 : decode cL_law 220 = .ok (.aload_n 0, 1) := by decide +kernel
theorem dL_law_221 : decode cL_law 221 = .ok (.iload 4, 2) := by decide +kernel
theorem dL_law_223 : decode cL_law 223 = .ok (.iconst 1, 1) := by decide +kernel
theorem dL_law_224 : decode cL_law 224 = .ok (.iadd, 1) := by decide +kernel
theorem dL_law_225 : decode cL_law 225 = .ok (.iaload, 1) := by decide +kernel
theorem dL_law_226 : decode cL_law 226 = .ok (.aload_n 0, 1) := by decide +kernel
theorem dL_law_227 : decode cL_law 227 = .ok (.iload 4, 2) := by decide +kernel
theorem dL_law_229 : decode cL_law 229 = .ok (.iconst 2, 1) := by decide +kernel
theorem dL_law_230 : decode cL_law 230 = .ok (.iadd, 1) := by decide +kernel
theorem dL_law_231 : decode cL_law 231 = .ok (.iaload, 1) := by decide +kernel
theorem dL_law_232 : decode cL_law 232 = .ok (.invokevirtual 88, 3) := by decide +kernel
theorem dL_law_235 : decode cL_law 235 = .ok (.istore 6, 2) := by decide +kernel
theorem dL_law_237 : decode cL_law 237 = .ok (.aload_n 2, 1) := by decide +kernel
theorem dL_law_238 : decode cL_law 238 = .ok (.invokevirtual 81, 3) := by decide +kernel
theorem dL_law_241 : decode cL_law 241 = .ok (.iload 5, 2) := by decide +kernel
theorem dL_law_243 : decode cL_law 243 = .ok (.if_icmp .eq 5, 3) := by decide +kernel
theorem dL_law_246 : decode cL_law 246 = .ok (.iconst 0, 1) := by decide +kernel
theorem dL_law_247 : decode cL_law 247 = .ok (.ireturn, 1) := by decide +kernel
theorem dL_law_248 : decode cL_law 248 = .ok (.iload 5, 2) := by decide +kernel
theorem dL_law_250 : decode cL_law 250 = .ok (.ifCond .ne 15, 3) := by decide +kernel
theorem dL_law_253 : decode cL_law 253 = .ok (.aload_n 3, 1) := by decide +kernel
theorem dL_law_254 : decode cL_law 254 = .ok (.iconst 0, 1) := by decide +kernel
theorem dL_law_255 : decode cL_law 255 = .ok (.laload, 1) := by decide +kernel
theorem dL_law_256 : decode cL_law 256 = .ok (.iload 6, 2) := by decide +kernel
theorem dL_law_258 : decode cL_law 258 = .ok (.i2l, 1) := by decide +kernel
theorem dL_law_259 : decode cL_law 259 = .ok (.lcmp, 1) := by decide +kernel
theorem dL_law_260 : decode cL_law 260 = .ok (.ifCond .eq 5, 3) := by decide +kernel
theorem dL_law_263 : decode cL_law 263 = .ok (.iconst 0, 1) := by decide +kernel
theorem dL_law_264 : decode cL_law 264 = .ok (.ireturn, 1) := by decide +kernel
theorem dL_law_265 : decode cL_law 265 = .ok (.goto 1029, 3) := by decide +kernel
theorem dL_law_268 : decode cL_law 268 = .ok (.aload_n 1, 1) := by decide +kernel
theorem dL_law_269 : decode cL_law 269 = .ok (.aload_n 0, 1) := by decide +kernel
theorem dL_law_270 : decode cL_law 270 = .ok (.iload 4, 2) := by decide +kernel
theorem dL_law_272 : decode cL_law 272 = .ok (.iconst 1, 1) := by decide +kernel
theorem dL_law_273 : decode cL_law 273 = .ok (.iadd, 1) := by decide +kernel
theorem dL_law_274 : decode cL_law 274 = .ok (.iaload, 1) := by decide +kernel
theorem dL_law_275 : decode cL_law 275 = .ok (.aload_n 0, 1) := by decide +kernel
theorem dL_law_276 : decode cL_law 276 = .ok (.iload 4, 2) := by decide +kernel
theorem dL_law_278 : decode cL_law 278 = .ok (.iconst 2, 1) := by decide +kernel
theorem dL_law_279 : decode cL_law 279 = .ok (.iadd, 1) := by decide +kernel
theorem dL_law_280 : decode cL_law 280 = .ok (.iaload, 1) := by decide +kernel
theorem dL_law_281 : decode cL_law 281 = .ok (.aload_n 0, 1) := by decide +kernel
theorem dL_law_282 : decode cL_law 282 = .ok (.iload 4, 2) := by decide +kernel
theorem dL_law_284 : decode cL_law 284 = .ok (.iconst 3, 1) := by decide +kernel
theorem dL_law_285 : decode cL_law 285 = .ok (.iadd, 1) := by decide +kernel
theorem dL_law_286 : decode cL_law 286 = .ok (.iaload, 1) := by decide +kernel
theorem dL_law_287 : decode cL_law 287 = .ok (.invokestatic 89, 3) := by decide +kernel
theorem dL_law_290 : decode cL_law 290 = .ok (.istore 5, 2) := by decide +kernel
theorem dL_law_292 : decode cL_law 292 = .ok (.aload_n 2, 1) := by decide +kernel
theorem dL_law_293 : decode cL_law 293 = .ok (.aload_n 0, 1) := by decide +kernel
theorem dL_law_294 : decode cL_law 294 = .ok (.iload 4, 2) := by decide +kernel
theorem dL_law_296 : decode cL_law 296 = .ok (.iconst 1, 1) := by decide +kernel
theorem dL_law_297 : decode cL_law 297 = .ok (.iadd, 1) := by decide +kernel
theorem dL_law_298 : decode cL_law 298 = .ok (.iaload, 1) := by decide +kernel
theorem dL_law_299 : decode cL_law 299 = .ok (.aload_n 0, 1) := by decide +kernel
theorem dL_law_300 : decode cL_law 300 = .ok (.iload 4, 2) := by decide +kernel
theorem dL_law_302 : decode cL_law 302 = .ok (.iconst 2, 1) := by decide +kernel
theorem dL_law_303 : decode cL_law 303 = .ok (.iadd, 1) := by decide +kernel
theorem dL_law_304 : decode cL_law 304 = .ok (.iaload, 1) := by decide +kernel
theorem dL_law_305 : decode cL_law 305 = .ok (.aload_n 0, 1) := by decide +kernel
theorem dL_law_306 : decode cL_law 306 = .ok (.iload 4, 2) := by decide +kernel
theorem dL_law_308 : decode cL_law 308 = .ok (.iconst 3, 1) := by decide +kernel
theorem dL_law_309 : decode cL_law 309 = .ok (.iadd, 1) := by decide +kernel
theorem dL_law_310 : decode cL_law 310 = .ok (.iaload, 1) := by decide +kernel
theorem dL_law_311 : decode cL_law 311 = .ok (.invokevirtual 92, 3) := by decide +kernel
theorem dL_law_314 : decode cL_law 314 = .ok (.aload_n 2, 1) := by decide +kernel
theorem dL_law_315 : decode cL_law 315 = .ok (.invokevirtual 81, 3) := by decide +kernel
theorem dL_law_318 : decode cL_law 318 = .ok (.iload 5, 2) := by decide +kernel
theorem dL_law_320 : decode cL_law 320 = .ok (.if_icmp .eq 5, 3) := by decide +kernel
theorem dL_law_323 : decode cL_law 323 = .ok (.iconst 0, 1) := by decide +kernel
theorem dL_law_324 : decode cL_law 324 = .ok (.ireturn, 1) := by decide +kernel
theorem dL_law_325 : decode cL_law 325 = .ok (.goto 969, 3) := by decide +kernel
theorem dL_law_328 : decode cL_law 328 = .ok (.aload_n 1, 1) := by decide +kernel
theorem dL_law_329 : decode cL_law 329 = .ok (.aload_n 0, 1) := by decide +kernel
theorem dL_law_330 : decode cL_law 330 = .ok (.iload 4, 2) := by decide +kernel
theorem dL_law_332 : decode cL_law 332 = .ok (.iconst 1, 1) := by decide +kernel
theorem dL_law_333 : decode cL_law 333 = .ok (.iadd, 1) := by decide +kernel
theorem dL_law_334 : decode cL_law 334 = .ok (.iaload, 1) := by decide +kernel
theorem dL_law_335 : decode cL_law 335 = .ok (.aload_n 0, 1) := by decide +kernel
theorem dL_law_336 : decode cL_law 336 = .ok (.iload 4, 2) := by decide +kernel
theorem dL_law_338 : decode cL_law 338 = .ok (.iconst 2, 1) := by decide +kernel
theorem dL_law_339 : decode cL_law 339 = .ok (.iadd, 1) := by decide +kernel
theorem dL_law_340 : decode cL_law 340 = .ok (.iaload, 1) := by decide +kernel
theorem dL_law_341 : decode cL_law 341 = .ok (.aload_n 0, 1) := by decide +kernel
theorem dL_law_342 : decode cL_law 342 = .ok (.iload 4, 2) := by decide +kernel
theorem dL_law_344 : decode cL_law 344 = .ok (.iconst 3, 1) := by decide +kernel
theorem dL_law_345 : decode cL_law 345 = .ok (.iadd, 1) := by decide +kernel
theorem dL_law_346 : decode cL_law 346 = .ok (.iaload, 1) := by decide +kernel
theorem dL_law_347 : decode cL_law 347 = .ok (.invokestatic 93, 3) := by decide +kernel
theorem dL_law_350 : decode cL_law 350 = .ok (.istore 5, 2) := by decide +kernel
theorem dL_law_352 : decode cL_law 352 = .ok (.aload_n 2, 1) := by decide +kernel
theorem dL_law_353 : decode cL_law 353 = .ok (.aload_n 0, 1) := by decide +kernel
theorem dL_law_354 : decode cL_law 354 = .ok (.iload 4, 2) := by decide +kernel
theorem dL_law_356 : decode cL_law 356 = .ok (.iconst 1, 1) := by decide +kernel
theorem dL_law_357 : decode cL_law 357 = .ok (.iadd, 1) := by decide +kernel
theorem dL_law_358 : decode cL_law 358 = .ok (.iaload, 1) := by decide +kernel
theorem dL_law_359 : decode cL_law 359 = .ok (.aload_n 0, 1) := by decide +kernel
theorem dL_law_360 : decode cL_law 360 = .ok (.iload 4, 2) := by decide +kernel
theorem dL_law_362 : decode cL_law 362 = .ok (.iconst 2, 1) := by decide +kernel
theorem dL_law_363 : decode cL_law 363 = .ok (.iadd, 1) := by decide +kernel
theorem dL_law_364 : decode cL_law 364 = .ok (.iaload, 1) := by decide +kernel
theorem dL_law_365 : decode cL_law 365 = .ok (.aload_n 0, 1) := by decide +kernel
theorem dL_law_366 : decode cL_law 366 = .ok (.iload 4, 2) := by decide +kernel
theorem dL_law_368 : decode cL_law 368 = .ok (.iconst 3, 1) := by decide +kernel
theorem dL_law_369 : decode cL_law 369 = .ok (.iadd, 1) := by decide +kernel
theorem dL_law_370 : decode cL_law 370 = .ok (.iaload, 1) := by decide +kernel
theorem dL_law_371 : decode cL_law 371 = .ok (.invokevirtual 95, 3) := by decide +kernel
theorem dL_law_374 : decode cL_law 374 = .ok (.aload_n 2, 1) := by decide +kernel
theorem dL_law_375 : decode cL_law 375 = .ok (.invokevirtual 81, 3) := by decide +kernel
theorem dL_law_378 : decode cL_law 378 = .ok (.iload 5, 2) := by decide +kernel
theorem dL_law_380 : decode cL_law 380 = .ok (.if_icmp .eq 5, 3) := by decide +kernel
theorem dL_law_383 : decode cL_law 383 = .ok (.iconst 0, 1) := by decide +kernel
theorem dL_law_384 : decode cL_law 384 = .ok (.ireturn, 1) := by decide +kernel
theorem dL_law_385 : decode cL_law 385 = .ok (.goto 909, 3) := by decide +kernel
theorem dL_law_388 : decode cL_law 388 = .ok (.aload_n 1, 1) := by decide +kernel
theorem dL_law_389 : decode cL_law 389 = .ok (.aload_n 0, 1) := by decide +kernel
theorem dL_law_390 : decode cL_law 390 = .ok (.iload 4, 2) := by decide +kernel
theorem dL_law_392 : decode cL_law 392 = .ok (.iconst 1, 1) := by decide +kernel
theorem dL_law_393 : decode cL_law 393 = .ok (.iadd, 1) := by decide +kernel
theorem dL_law_394 : decode cL_law 394 = .ok (.iaload, 1) := by decide +kernel
theorem dL_law_395 : decode cL_law 395 = .ok (.aload_n 0, 1) := by decide +kernel
theorem dL_law_396 : decode cL_law 396 = .ok (.iload 4, 2) := by decide +kernel
theorem dL_law_398 : decode cL_law 398 = .ok (.iconst 2, 1) := by decide +kernel
theorem dL_law_399 : decode cL_law 399 = .ok (.iadd, 1) := by decide +kernel
theorem dL_law_400 : decode cL_law 400 = .ok (.iaload, 1) := by decide +kernel
theorem dL_law_401 : decode cL_law 401 = .ok (.aload_n 3, 1) := by decide +kernel
theorem dL_law_402 : decode cL_law 402 = .ok (.invokestatic 96, 3) := by decide +kernel
theorem dL_law_405 : decode cL_law 405 = .ok (.istore 5, 2) := by decide +kernel
theorem dL_law_407 : decode cL_law 407 = .ok (.aload_n 2, 1) := by decide +kernel
theorem dL_law_408 : decode cL_law 408 = .ok (.aload_n 0, 1) := by decide +kernel
theorem dL_law_409 : decode cL_law 409 = .ok (.iload 4, 2) := by decide +kernel
theorem dL_law_411 : decode cL_law 411 = .ok (.iconst 1, 1) := by decide +kernel
theorem dL_law_412 : decode cL_law 412 = .ok (.iadd, 1) := by decide +kernel
theorem dL_law_413 : decode cL_law 413 = .ok (.iaload, 1) := by decide +kernel
theorem dL_law_414 : decode cL_law 414 = .ok (.aload_n 0, 1) := by decide +kernel
theorem dL_law_415 : decode cL_law 415 = .ok (.iload 4, 2) := by decide +kernel
theorem dL_law_417 : decode cL_law 417 = .ok (.iconst 2, 1) := by decide +kernel
theorem dL_law_418 : decode cL_law 418 = .ok (.iadd, 1) := by decide +kernel
theorem dL_law_419 : decode cL_law 419 = .ok (.iaload, 1) := by decide +kernel
theorem dL_law_420 : decode cL_law 420 = .ok (.invokevirtual 98, 3) := by decide +kernel
theorem dL_law_423 : decode cL_law 423 = .ok (.istore 6, 2) := by decide +kernel
theorem dL_law_425 : decode cL_law 425 = .ok (.aload_n 2, 1) := by decide +kernel
theorem dL_law_426 : decode cL_law 426 = .ok (.invokevirtual 81, 3) := by decide +kernel
theorem dL_law_429 : decode cL_law 429 = .ok (.iload 5, 2) := by decide +kernel
theorem dL_law_431 : decode cL_law 431 = .ok (.if_icmp .eq 5, 3) := by decide +kernel
theorem dL_law_434 : decode cL_law 434 = .ok (.iconst 0, 1) := by decide +kernel
theorem dL_law_435 : decode cL_law 435 = .ok (.ireturn, 1) := by decide +kernel
theorem dL_law_436 : decode cL_law 436 = .ok (.iload 5, 2) := by decide +kernel
theorem dL_law_438 : decode cL_law 438 = .ok (.ifCond .ne 15, 3) := by decide +kernel
theorem dL_law_441 : decode cL_law 441 = .ok (.aload_n 3, 1) := by decide +kernel
theorem dL_law_442 : decode cL_law 442 = .ok (.iconst 0, 1) := by decide +kernel
theorem dL_law_443 : decode cL_law 443 = .ok (.laload, 1) := by decide +kernel
theorem dL_law_444 : decode cL_law 444 = .ok (.iload 6, 2) := by decide +kernel
theorem dL_law_446 : decode cL_law 446 = .ok (.i2l, 1) := by decide +kernel
theorem dL_law_447 : decode cL_law 447 = .ok (.lcmp, 1) := by decide +kernel
theorem dL_law_448 : decode cL_law 448 = .ok (.ifCond .eq 5, 3) := by decide +kernel
theorem dL_law_451 : decode cL_law 451 = .ok (.iconst 0, 1) := by decide +kernel
theorem dL_law_452 : decode cL_law 452 = .ok (.ireturn, 1) := by decide +kernel
theorem dL_law_453 : decode cL_law 453 = .ok (.goto 841, 3) := by decide +kernel
theorem dL_law_456 : decode cL_law 456 = .ok (.aload_n 1, 1) := by decide +kernel
theorem dL_law_457 : decode cL_law 457 = .ok (.aload_n 0, 1) := by decide +kernel
theorem dL_law_458 : decode cL_law 458 = .ok (.iload 4, 2) := by decide +kernel
theorem dL_law_460 : decode cL_law 460 = .ok (.iconst 1, 1) := by decide +kernel
theorem dL_law_461 : decode cL_law 461 = .ok (.iadd, 1) := by decide +kernel
theorem dL_law_462 : decode cL_law 462 = .ok (.iaload, 1) := by decide +kernel
theorem dL_law_463 : decode cL_law 463 = .ok (.aload_n 3, 1) := by decide +kernel
theorem dL_law_464 : decode cL_law 464 = .ok (.invokestatic 99, 3) := by decide +kernel
theorem dL_law_467 : decode cL_law 467 = .ok (.istore 5, 2) := by decide +kernel
theorem dL_law_469 : decode cL_law 469 = .ok (.aload_n 2, 1) := by decide +kernel
theorem dL_law_470 : decode cL_law 470 = .ok (.aload_n 0, 1) := by decide +kernel
theorem dL_law_471 : decode cL_law 471 = .ok (.iload 4, 2) := by decide +kernel
theorem dL_law_473 : decode cL_law 473 = .ok (.iconst 1, 1) := by decide +kernel
theorem dL_law_474 : decode cL_law 474 = .ok (.iadd, 1) := by decide +kernel
theorem dL_law_475 : decode cL_law 475 = .ok (.iaload, 1) := by decide +kernel
theorem dL_law_476 : decode cL_law 476 = .ok (.invokevirtual 101, 3) := by decide +kernel
theorem dL_law_479 : decode cL_law 479 = .ok (.istore 6, 2) := by decide +kernel
theorem dL_law_481 : decode cL_law 481 = .ok (.aload_n 2, 1) := by decide +kernel
theorem dL_law_482 : decode cL_law 482 = .ok (.invokevirtual 81, 3) := by decide +kernel
theorem dL_law_485 : decode cL_law 485 = .ok (.iload 5, 2) := by decide +kernel
theorem dL_law_487 : decode cL_law 487 = .ok (.if_icmp .eq 5, 3) := by decide +kernel
theorem dL_law_490 : decode cL_law 490 = .ok (.iconst 0, 1) := by decide +kernel
theorem dL_law_491 : decode cL_law 491 = .ok (.ireturn, 1) := by decide +kernel
theorem dL_law_492 : decode cL_law 492 = .ok (.iload 5, 2) := by decide +kernel
theorem dL_law_494 : decode cL_law 494 = .ok (.ifCond .ne 15, 3) := by decide +kernel
theorem dL_law_497 : decode cL_law 497 = .ok (.aload_n 3, 1) := by decide +kernel
theorem dL_law_498 : decode cL_law 498 = .ok (.iconst 0, 1) := by decide +kernel
theorem dL_law_499 : decode cL_law 499 = .ok (.laload, 1) := by decide +kernel
theorem dL_law_500 : decode cL_law 500 = .ok (.iload 6, 2) := by decide +kernel
theorem dL_law_502 : decode cL_law 502 = .ok (.i2l, 1) := by decide +kernel
theorem dL_law_503 : decode cL_law 503 = .ok (.lcmp, 1) := by decide +kernel
theorem dL_law_504 : decode cL_law 504 = .ok (.ifCond .eq 5, 3) := by decide +kernel
theorem dL_law_507 : decode cL_law 507 = .ok (.iconst 0, 1) := by decide +kernel
theorem dL_law_508 : decode cL_law 508 = .ok (.ireturn, 1) := by decide +kernel
theorem dL_law_509 : decode cL_law 509 = .ok (.goto 785, 3) := by decide +kernel
theorem dL_law_512 : decode cL_law 512 = .ok (.aload_n 1, 1) := by decide +kernel
theorem dL_law_513 : decode cL_law 513 = .ok (.aload_n 0, 1) := by decide +kernel
theorem dL_law_514 : decode cL_law 514 = .ok (.iload 4, 2) := by decide +kernel
theorem dL_law_516 : decode cL_law 516 = .ok (.iconst 1, 1) := by decide +kernel
theorem dL_law_517 : decode cL_law 517 = .ok (.iadd, 1) := by decide +kernel
theorem dL_law_518 : decode cL_law 518 = .ok (.iaload, 1) := by decide +kernel
theorem dL_law_519 : decode cL_law 519 = .ok (.aload_n 0, 1) := by decide +kernel
theorem dL_law_520 : decode cL_law 520 = .ok (.iload 4, 2) := by decide +kernel
theorem dL_law_522 : decode cL_law 522 = .ok (.iconst 2, 1) := by decide +kernel
theorem dL_law_523 : decode cL_law 523 = .ok (.iadd, 1) := by decide +kernel
theorem dL_law_524 : decode cL_law 524 = .ok (.iaload, 1) := by decide +kernel
theorem dL_law_525 : decode cL_law 525 = .ok (.aload_n 0, 1) := by decide +kernel
theorem dL_law_526 : decode cL_law 526 = .ok (.iload 4, 2) := by decide +kernel
theorem dL_law_528 : decode cL_law 528 = .ok (.iconst 3, 1) := by decide +kernel
theorem dL_law_529 : decode cL_law 529 = .ok (.iadd, 1) := by decide +kernel
theorem dL_law_530 : decode cL_law 530 = .ok (.iaload, 1) := by decide +kernel
theorem dL_law_531 : decode cL_law 531 = .ok (.aload_n 3, 1) := by decide +kernel
theorem dL_law_532 : decode cL_law 532 = .ok (.invokestatic 102, 3) := by decide +kernel
theorem dL_law_535 : decode cL_law 535 = .ok (.istore 5, 2) := by decide +kernel
theorem dL_law_537 : decode cL_law 537 = .ok (.aload_n 2, 1) := by decide +kernel
theorem dL_law_538 : decode cL_law 538 = .ok (.aload_n 0, 1) := by decide +kernel
theorem dL_law_539 : decode cL_law 539 = .ok (.iload 4, 2) := by decide +kernel
theorem dL_law_541 : decode cL_law 541 = .ok (.iconst 1, 1) := by decide +kernel
theorem dL_law_542 : decode cL_law 542 = .ok (.iadd, 1) := by decide +kernel
theorem dL_law_543 : decode cL_law 543 = .ok (.iaload, 1) := by decide +kernel
theorem dL_law_544 : decode cL_law 544 = .ok (.aload_n 0, 1) := by decide +kernel
theorem dL_law_545 : decode cL_law 545 = .ok (.iload 4, 2) := by decide +kernel
theorem dL_law_547 : decode cL_law 547 = .ok (.iconst 2, 1) := by decide +kernel
theorem dL_law_548 : decode cL_law 548 = .ok (.iadd, 1) := by decide +kernel
theorem dL_law_549 : decode cL_law 549 = .ok (.iaload, 1) := by decide +kernel
theorem dL_law_550 : decode cL_law 550 = .ok (.aload_n 0, 1) := by decide +kernel
theorem dL_law_551 : decode cL_law 551 = .ok (.iload 4, 2) := by decide +kernel
theorem dL_law_553 : decode cL_law 553 = .ok (.iconst 3, 1) := by decide +kernel
theorem dL_law_554 : decode cL_law 554 = .ok (.iadd, 1) := by decide +kernel
theorem dL_law_555 : decode cL_law 555 = .ok (.iaload, 1) := by decide +kernel
theorem dL_law_556 : decode cL_law 556 = .ok (.invokevirtual 105, 3) := by decide +kernel
theorem dL_law_559 : decode cL_law 559 = .ok (.istore 6, 2) := by decide +kernel
theorem dL_law_561 : decode cL_law 561 = .ok (.aload_n 2, 1) := by decide +kernel
theorem dL_law_562 : decode cL_law 562 = .ok (.invokevirtual 81, 3) := by decide +kernel
theorem dL_law_565 : decode cL_law 565 = .ok (.iload 5, 2) := by decide +kernel
theorem dL_law_567 : decode cL_law 567 = .ok (.if_icmp .eq 5, 3) := by decide +kernel
theorem dL_law_570 : decode cL_law 570 = .ok (.iconst 0, 1) := by decide +kernel
theorem dL_law_571 : decode cL_law 571 = .ok (.ireturn, 1) := by decide +kernel
theorem dL_law_572 : decode cL_law 572 = .ok (.iload 5, 2) := by decide +kernel
theorem dL_law_574 : decode cL_law 574 = .ok (.ifCond .ne 15, 3) := by decide +kernel
theorem dL_law_577 : decode cL_law 577 = .ok (.aload_n 3, 1) := by decide +kernel
theorem dL_law_578 : decode cL_law 578 = .ok (.iconst 0, 1) := by decide +kernel
theorem dL_law_579 : decode cL_law 579 = .ok (.laload, 1) := by decide +kernel
theorem dL_law_580 : decode cL_law 580 = .ok (.iload 6, 2) := by decide +kernel
theorem dL_law_582 : decode cL_law 582 = .ok (.i2l, 1) := by decide +kernel
theorem dL_law_583 : decode cL_law 583 = .ok (.lcmp, 1) := by decide +kernel
theorem dL_law_584 : decode cL_law 584 = .ok (.ifCond .eq 5, 3) := by decide +kernel
theorem dL_law_587 : decode cL_law 587 = .ok (.iconst 0, 1) := by decide +kernel
theorem dL_law_588 : decode cL_law 588 = .ok (.ireturn, 1) := by decide +kernel
theorem dL_law_589 : decode cL_law 589 = .ok (.goto 705, 3) := by decide +kernel
theorem dL_law_592 : decode cL_law 592 = .ok (.aload_n 1, 1) := by decide +kernel
theorem dL_law_593 : decode cL_law 593 = .ok (.aload_n 0, 1) := by decide +kernel
theorem dL_law_594 : decode cL_law 594 = .ok (.iload 4, 2) := by decide +kernel
theorem dL_law_596 : decode cL_law 596 = .ok (.iconst 1, 1) := by decide +kernel
theorem dL_law_597 : decode cL_law 597 = .ok (.iadd, 1) := by decide +kernel
theorem dL_law_598 : decode cL_law 598 = .ok (.iaload, 1) := by decide +kernel
theorem dL_law_599 : decode cL_law 599 = .ok (.aload_n 0, 1) := by decide +kernel
theorem dL_law_600 : decode cL_law 600 = .ok (.iload 4, 2) := by decide +kernel
theorem dL_law_602 : decode cL_law 602 = .ok (.iconst 2, 1) := by decide +kernel
theorem dL_law_603 : decode cL_law 603 = .ok (.iadd, 1) := by decide +kernel
theorem dL_law_604 : decode cL_law 604 = .ok (.iaload, 1) := by decide +kernel
theorem dL_law_605 : decode cL_law 605 = .ok (.aload_n 0, 1) := by decide +kernel
theorem dL_law_606 : decode cL_law 606 = .ok (.iload 4, 2) := by decide +kernel
theorem dL_law_608 : decode cL_law 608 = .ok (.iconst 3, 1) := by decide +kernel
theorem dL_law_609 : decode cL_law 609 = .ok (.iadd, 1) := by decide +kernel
theorem dL_law_610 : decode cL_law 610 = .ok (.iaload, 1) := by decide +kernel
theorem dL_law_611 : decode cL_law 611 = .ok (.aload_n 3, 1) := by decide +kernel
theorem dL_law_612 : decode cL_law 612 = .ok (.invokestatic 106, 3) := by decide +kernel
theorem dL_law_615 : decode cL_law 615 = .ok (.istore 5, 2) := by decide +kernel
theorem dL_law_617 : decode cL_law 617 = .ok (.aload_n 2, 1) := by decide +kernel
theorem dL_law_618 : decode cL_law 618 = .ok (.aload_n 0, 1) := by decide +kernel
theorem dL_law_619 : decode cL_law 619 = .ok (.iload 4, 2) := by decide +kernel
theorem dL_law_621 : decode cL_law 621 = .ok (.iconst 1, 1) := by decide +kernel
theorem dL_law_622 : decode cL_law 622 = .ok (.iadd, 1) := by decide +kernel
theorem dL_law_623 : decode cL_law 623 = .ok (.iaload, 1) := by decide +kernel
theorem dL_law_624 : decode cL_law 624 = .ok (.aload_n 0, 1) := by decide +kernel
theorem dL_law_625 : decode cL_law 625 = .ok (.iload 4, 2) := by decide +kernel
theorem dL_law_627 : decode cL_law 627 = .ok (.iconst 2, 1) := by decide +kernel
theorem dL_law_628 : decode cL_law 628 = .ok (.iadd, 1) := by decide +kernel
theorem dL_law_629 : decode cL_law 629 = .ok (.iaload, 1) := by decide +kernel
theorem dL_law_630 : decode cL_law 630 = .ok (.aload_n 0, 1) := by decide +kernel
theorem dL_law_631 : decode cL_law 631 = .ok (.iload 4, 2) := by decide +kernel
theorem dL_law_633 : decode cL_law 633 = .ok (.iconst 3, 1) := by decide +kernel
theorem dL_law_634 : decode cL_law 634 = .ok (.iadd, 1) := by decide +kernel
theorem dL_law_635 : decode cL_law 635 = .ok (.iaload, 1) := by decide +kernel
theorem dL_law_636 : decode cL_law 636 = .ok (.invokevirtual 108, 3) := by decide +kernel
theorem dL_law_639 : decode cL_law 639 = .ok (.istore 6, 2) := by decide +kernel
theorem dL_law_641 : decode cL_law 641 = .ok (.aload_n 2, 1) := by decide +kernel
theorem dL_law_642 : decode cL_law 642 = .ok (.invokevirtual 81, 3) := by decide +kernel
theorem dL_law_645 : decode cL_law 645 = .ok (.iload 5, 2) := by decide +kernel
theorem dL_law_647 : decode cL_law 647 = .ok (.if_icmp .eq 5, 3) := by decide +kernel
theorem dL_law_650 : decode cL_law 650 = .ok (.iconst 0, 1) := by decide +kernel
theorem dL_law_651 : decode cL_law 651 = .ok (.ireturn, 1) := by decide +kernel
theorem dL_law_652 : decode cL_law 652 = .ok (.iload 5, 2) := by decide +kernel
theorem dL_law_654 : decode cL_law 654 = .ok (.ifCond .ne 15, 3) := by decide +kernel
theorem dL_law_657 : decode cL_law 657 = .ok (.aload_n 3, 1) := by decide +kernel
theorem dL_law_658 : decode cL_law 658 = .ok (.iconst 0, 1) := by decide +kernel
theorem dL_law_659 : decode cL_law 659 = .ok (.laload, 1) := by decide +kernel
theorem dL_law_660 : decode cL_law 660 = .ok (.iload 6, 2) := by decide +kernel
theorem dL_law_662 : decode cL_law 662 = .ok (.i2l, 1) := by decide +kernel
theorem dL_law_663 : decode cL_law 663 = .ok (.lcmp, 1) := by decide +kernel
theorem dL_law_664 : decode cL_law 664 = .ok (.ifCond .eq 5, 3) := by decide +kernel
theorem dL_law_667 : decode cL_law 667 = .ok (.iconst 0, 1) := by decide +kernel
theorem dL_law_668 : decode cL_law 668 = .ok (.ireturn, 1) := by decide +kernel
theorem dL_law_669 : decode cL_law 669 = .ok (.goto 625, 3) := by decide +kernel
theorem dL_law_672 : decode cL_law 672 = .ok (.aload_n 1, 1) := by decide +kernel
theorem dL_law_673 : decode cL_law 673 = .ok (.aload_n 0, 1) := by decide +kernel
theorem dL_law_674 : decode cL_law 674 = .ok (.iload 4, 2) := by decide +kernel
theorem dL_law_676 : decode cL_law 676 = .ok (.iconst 1, 1) := by decide +kernel
theorem dL_law_677 : decode cL_law 677 = .ok (.iadd, 1) := by decide +kernel
theorem dL_law_678 : decode cL_law 678 = .ok (.iaload, 1) := by decide +kernel
theorem dL_law_679 : decode cL_law 679 = .ok (.aload_n 0, 1) := by decide +kernel
theorem dL_law_680 : decode cL_law 680 = .ok (.iload 4, 2) := by decide +kernel
theorem dL_law_682 : decode cL_law 682 = .ok (.iconst 2, 1) := by decide +kernel
theorem dL_law_683 : decode cL_law 683 = .ok (.iadd, 1) := by decide +kernel
theorem dL_law_684 : decode cL_law 684 = .ok (.iaload, 1) := by decide +kernel
theorem dL_law_685 : decode cL_law 685 = .ok (.aload_n 0, 1) := by decide +kernel
theorem dL_law_686 : decode cL_law 686 = .ok (.iload 4, 2) := by decide +kernel
theorem dL_law_688 : decode cL_law 688 = .ok (.iconst 3, 1) := by decide +kernel
theorem dL_law_689 : decode cL_law 689 = .ok (.iadd, 1) := by decide +kernel
end
section
theorem dL_law_690 : decode cL_law 690 = .ok (.iaload, 1) := by decide +kernel
theorem dL_law_691 : decode cL_law 691 = .ok (.ifCond .eq 7, 3) := by decide +kernel
theorem dL_law_694 : decode cL_law 694 = .ok (.iconst 1, 1) := by decide +kernel
theorem dL_law_695 : decode cL_law 695 = .ok (.goto 4, 3) := by decide +kernel
theorem dL_law_698 : decode cL_law 698 = .ok (.iconst 0, 1) := by decide +kernel
theorem dL_law_699 : decode cL_law 699 = .ok (.aload_n 3, 1) := by decide +kernel
theorem dL_law_700 : decode cL_law 700 = .ok (.invokestatic 109, 3) := by decide +kernel
theorem dL_law_703 : decode cL_law 703 = .ok (.istore 5, 2) := by decide +kernel
theorem dL_law_705 : decode cL_law 705 = .ok (.aload_n 2, 1) := by decide +kernel
theorem dL_law_706 : decode cL_law 706 = .ok (.aload_n 0, 1) := by decide +kernel
theorem dL_law_707 : decode cL_law 707 = .ok (.iload 4, 2) := by decide +kernel
theorem dL_law_709 : decode cL_law 709 = .ok (.iconst 1, 1) := by decide +kernel
theorem dL_law_710 : decode cL_law 710 = .ok (.iadd, 1) := by decide +kernel
theorem dL_law_711 : decode cL_law 711 = .ok (.iaload, 1) := by decide +kernel
theorem dL_law_712 : decode cL_law 712 = .ok (.aload_n 0, 1) := by decide +kernel
theorem dL_law_713 : decode cL_law 713 = .ok (.iload 4, 2) := by decide +kernel
theorem dL_law_715 : decode cL_law 715 = .ok (.iconst 2, 1) := by decide +kernel
theorem dL_law_716 : decode cL_law 716 = .ok (.iadd, 1) := by decide +kernel
theorem dL_law_717 : decode cL_law 717 = .ok (.iaload, 1) := by decide +kernel
theorem dL_law_718 : decode cL_law 718 = .ok (.aload_n 0, 1) := by decide +kernel
theorem dL_law_719 : decode cL_law 719 = .ok (.iload 4, 2) := by decide +kernel
theorem dL_law_721 : decode cL_law 721 = .ok (.iconst 3, 1) := by decide +kernel
theorem dL_law_722 : decode cL_law 722 = .ok (.iadd, 1) := by decide +kernel
theorem dL_law_723 : decode cL_law 723 = .ok (.iaload, 1) := by decide +kernel
theorem dL_law_724 : decode cL_law 724 = .ok (.ifCond .eq 7, 3) := by decide +kernel
theorem dL_law_727 : decode cL_law 727 = .ok (.iconst 1, 1) := by decide +kernel
theorem dL_law_728 : decode cL_law 728 = .ok (.goto 4, 3) := by decide +kernel
theorem dL_law_731 : decode cL_law 731 = .ok (.iconst 0, 1) := by decide +kernel
theorem dL_law_732 : decode cL_law 732 = .ok (.invokevirtual 112, 3) := by decide +kernel
theorem dL_law_735 : decode cL_law 735 = .ok (.istore 6, 2) := by decide +kernel
theorem dL_law_737 : decode cL_law 737 = .ok (.aload_n 2, 1) := by decide +kernel
theorem dL_law_738 : decode cL_law 738 = .ok (.invokevirtual 81, 3) := by decide +kernel
theorem dL_law_741 : decode cL_law 741 = .ok (.iload 5, 2) := by decide +kernel
theorem dL_law_743 : decode cL_law 743 = .ok (.if_icmp .eq 5, 3) := by decide +kernel
theorem dL_law_746 : decode cL_law 746 = .ok (.iconst 0, 1) := by decide +kernel
theorem dL_law_747 : decode cL_law 747 = .ok (.ireturn, 1) := by decide +kernel
theorem dL_law_748 : decode cL_law 748 = .ok (.iload 5, 2) := by decide +kernel
theorem dL_law_750 : decode cL_law 750 = .ok (.ifCond .ne 15, 3) := by decide +kernel
theorem dL_law_753 : decode cL_law 753 = .ok (.aload_n 3, 1) := by decide +kernel
theorem dL_law_754 : decode cL_law 754 = .ok (.iconst 0, 1) := by decide +kernel
theorem dL_law_755 : decode cL_law 755 = .ok (.laload, 1) := by decide +kernel
theorem dL_law_756 : decode cL_law 756 = .ok (.iload 6, 2) := by decide +kernel
theorem dL_law_758 : decode cL_law 758 = .ok (.i2l, 1) := by decide +kernel
theorem dL_law_759 : decode cL_law 759 = .ok (.lcmp, 1) := by decide +kernel
theorem dL_law_760 : decode cL_law 760 = .ok (.ifCond .eq 5, 3) := by decide +kernel
theorem dL_law_763 : decode cL_law 763 = .ok (.iconst 0, 1) := by decide +kernel
theorem dL_law_764 : decode cL_law 764 = .ok (.ireturn, 1) := by decide +kernel
theorem dL_law_765 : decode cL_law 765 = .ok (.goto 529, 3) := by decide +kernel
theorem dL_law_768 : decode cL_law 768 = .ok (.aload_n 1, 1) := by decide +kernel
theorem dL_law_769 : decode cL_law 769 = .ok (.aload_n 0, 1) := by decide +kernel
theorem dL_law_770 : decode cL_law 770 = .ok (.iload 4, 2) := by decide +kernel
theorem dL_law_772 : decode cL_law 772 = .ok (.iconst 1, 1) := by decide +kernel
theorem dL_law_773 : decode cL_law 773 = .ok (.iadd, 1) := by decide +kernel
theorem dL_law_774 : decode cL_law 774 = .ok (.iaload, 1) := by decide +kernel
theorem dL_law_775 : decode cL_law 775 = .ok (.aload_n 3, 1) := by decide +kernel
theorem dL_law_776 : decode cL_law 776 = .ok (.invokestatic 113, 3) := by decide +kernel
theorem dL_law_779 : decode cL_law 779 = .ok (.istore 5, 2) := by decide +kernel
theorem dL_law_781 : decode cL_law 781 = .ok (.aload_n 2, 1) := by decide +kernel
theorem dL_law_782 : decode cL_law 782 = .ok (.aload_n 0, 1) := by decide +kernel
theorem dL_law_783 : decode cL_law 783 = .ok (.iload 4, 2) := by decide +kernel
theorem dL_law_785 : decode cL_law 785 = .ok (.iconst 1, 1) := by decide +kernel
theorem dL_law_786 : decode cL_law 786 = .ok (.iadd, 1) := by decide +kernel
theorem dL_law_787 : decode cL_law 787 = .ok (.iaload, 1) := by decide +kernel
theorem dL_law_788 : decode cL_law 788 = .ok (.invokevirtual 115, 3) := by decide +kernel
theorem dL_law_791 : decode cL_law 791 = .ok (.istore 6, 2) := by decide +kernel
theorem dL_law_793 : decode cL_law 793 = .ok (.aload_n 2, 1) := by decide +kernel
theorem dL_law_794 : decode cL_law 794 = .ok (.invokevirtual 81, 3) := by decide +kernel
theorem dL_law_797 : decode cL_law 797 = .ok (.iload 5, 2) := by decide +kernel
theorem dL_law_799 : decode cL_law 799 = .ok (.if_icmp .eq 5, 3) := by decide +kernel
theorem dL_law_802 : decode cL_law 802 = .ok (.iconst 0, 1) := by decide +kernel
theorem dL_law_803 : decode cL_law 803 = .ok (.ireturn, 1) := by decide +kernel
theorem dL_law_804 : decode cL_law 804 = .ok (.iload 5, 2) := by decide +kernel
theorem dL_law_806 : decode cL_law 806 = .ok (.ifCond .ne 15, 3) := by decide +kernel
theorem dL_law_809 : decode cL_law 809 = .ok (.aload_n 3, 1) := by decide +kernel
theorem dL_law_810 : decode cL_law 810 = .ok (.iconst 0, 1) := by decide +kernel
theorem dL_law_811 : decode cL_law 811 = .ok (.laload, 1) := by decide +kernel
theorem dL_law_812 : decode cL_law 812 = .ok (.iload 6, 2) := by decide +kernel
theorem dL_law_814 : decode cL_law 814 = .ok (.i2l, 1) := by decide +kernel
theorem dL_law_815 : decode cL_law 815 = .ok (.lcmp, 1) := by decide +kernel
theorem dL_law_816 : decode cL_law 816 = .ok (.ifCond .eq 5, 3) := by decide +kernel
theorem dL_law_819 : decode cL_law 819 = .ok (.iconst 0, 1) := by decide +kernel
theorem dL_law_820 : decode cL_law 820 = .ok (.ireturn, 1) := by decide +kernel
theorem dL_law_821 : decode cL_law 821 = .ok (.goto 473, 3) := by decide +kernel
theorem dL_law_824 : decode cL_law 824 = .ok (.aload_n 1, 1) := by decide +kernel
theorem dL_law_825 : decode cL_law 825 = .ok (.aload_n 0, 1) := by decide +kernel
theorem dL_law_826 : decode cL_law 826 = .ok (.iload 4, 2) := by decide +kernel
theorem dL_law_828 : decode cL_law 828 = .ok (.iconst 1, 1) := by decide +kernel
theorem dL_law_829 : decode cL_law 829 = .ok (.iadd, 1) := by decide +kernel
theorem dL_law_830 : decode cL_law 830 = .ok (.iaload, 1) := by decide +kernel
theorem dL_law_831 : decode cL_law 831 = .ok (.aload_n 3, 1) := by decide +kernel
theorem dL_law_832 : decode cL_law 832 = .ok (.invokestatic 116, 3) := by decide +kernel
theorem dL_law_835 : decode cL_law 835 = .ok (.istore 5, 2) := by decide +kernel
theorem dL_law_837 : decode cL_law 837 = .ok (.aload_n 2, 1) := by decide +kernel
theorem dL_law_838 : decode cL_law 838 = .ok (.aload_n 0, 1) := by decide +kernel
theorem dL_law_839 : decode cL_law 839 = .ok (.iload 4, 2) := by decide +kernel
theorem dL_law_841 : decode cL_law 841 = .ok (.iconst 1, 1) := by decide +kernel
theorem dL_law_842 : decode cL_law 842 = .ok (.iadd, 1) := by decide +kernel
theorem dL_law_843 : decode cL_law 843 = .ok (.iaload, 1) := by decide +kernel
theorem dL_law_844 : decode cL_law 844 = .ok (.invokevirtual 118, 3) := by decide +kernel
theorem dL_law_847 : decode cL_law 847 = .ok (.istore 6, 2) := by decide +kernel
theorem dL_law_849 : decode cL_law 849 = .ok (.aload_n 2, 1) := by decide +kernel
theorem dL_law_850 : decode cL_law 850 = .ok (.invokevirtual 81, 3) := by decide +kernel
theorem dL_law_853 : decode cL_law 853 = .ok (.iload 5, 2) := by decide +kernel
theorem dL_law_855 : decode cL_law 855 = .ok (.if_icmp .eq 5, 3) := by decide +kernel
theorem dL_law_858 : decode cL_law 858 = .ok (.iconst 0, 1) := by decide +kernel
theorem dL_law_859 : decode cL_law 859 = .ok (.ireturn, 1) := by decide +kernel
theorem dL_law_860 : decode cL_law 860 = .ok (.iload 5, 2) := by decide +kernel
theorem dL_law_862 : decode cL_law 862 = .ok (.ifCond .ne 15, 3) := by decide +kernel
theorem dL_law_865 : decode cL_law 865 = .ok (.aload_n 3, 1) := by decide +kernel
theorem dL_law_866 : decode cL_law 866 = .ok (.iconst 0, 1) := by decide +kernel
theorem dL_law_867 : decode cL_law 867 = .ok (.laload, 1) := by decide +kernel
theorem dL_law_868 : decode cL_law 868 = .ok (.iload 6, 2) := by decide +kernel
theorem dL_law_870 : decode cL_law 870 = .ok (.i2l, 1) := by decide +kernel
theorem dL_law_871 : decode cL_law 871 = .ok (.lcmp, 1) := by decide +kernel
theorem dL_law_872 : decode cL_law 872 = .ok (.ifCond .eq 5, 3) := by decide +kernel
theorem dL_law_875 : decode cL_law 875 = .ok (.iconst 0, 1) := by decide +kernel
theorem dL_law_876 : decode cL_law 876 = .ok (.ireturn, 1) := by decide +kernel
theorem dL_law_877 : decode cL_law 877 = .ok (.goto 417, 3) := by decide +kernel
theorem dL_law_880 : decode cL_law 880 = .ok (.aload_n 1, 1) := by decide +kernel
theorem dL_law_881 : decode cL_law 881 = .ok (.invokevirtual 119, 3) := by decide +kernel
theorem dL_law_884 : decode cL_law 884 = .ok (.aload_n 2, 1) := by decide +kernel
theorem dL_law_885 : decode cL_law 885 = .ok (.invokevirtual 122, 3) := by decide +kernel
theorem dL_law_888 : decode cL_law 888 = .ok (.if_icmp .eq 406, 3) := by decide +kernel
theorem dL_law_891 : decode cL_law 891 = .ok (.iconst 0, 1) := by decide +kernel
theorem dL_law_892 : decode cL_law 892 = .ok (.ireturn, 1) := by decide +kernel
theorem dL_law_893 : decode cL_law 893 = .ok (.aload_n 1, 1) := by decide +kernel
theorem dL_law_894 : decode cL_law 894 = .ok (.invokevirtual 123, 3) := by decide +kernel
theorem dL_law_897 : decode cL_law 897 = .ok (.aload_n 2, 1) := by decide +kernel
theorem dL_law_898 : decode cL_law 898 = .ok (.invokevirtual 126, 3) := by decide +kernel
theorem dL_law_901 : decode cL_law 901 = .ok (.if_icmp .eq 393, 3) := by decide +kernel
theorem dL_law_904 : decode cL_law 904 = .ok (.iconst 0, 1) := by decide +kernel
theorem dL_law_905 : decode cL_law 905 = .ok (.ireturn, 1) := by decide +kernel
theorem dL_law_906 : decode cL_law 906 = .ok (.aload_n 1, 1) := by decide +kernel
theorem dL_law_907 : decode cL_law 907 = .ok (.aload_n 0, 1) := by decide +kernel
theorem dL_law_908 : decode cL_law 908 = .ok (.iload 4, 2) := by decide +kernel
theorem dL_law_910 : decode cL_law 910 = .ok (.iconst 1, 1) := by decide +kernel
theorem dL_law_911 : decode cL_law 911 = .ok (.iadd, 1) := by decide +kernel
theorem dL_law_912 : decode cL_law 912 = .ok (.iaload, 1) := by decide +kernel
theorem dL_law_913 : decode cL_law 913 = .ok (.aload_n 3, 1) := by decide +kernel
theorem dL_law_914 : decode cL_law 914 = .ok (.invokestatic 127, 3) := by decide +kernel
theorem dL_law_917 : decode cL_law 917 = .ok (.istore 5, 2) := by decide +kernel
theorem dL_law_919 : decode cL_law 919 = .ok (.aload_n 2, 1) := by decide +kernel
theorem dL_law_920 : decode cL_law 920 = .ok (.aload_n 0, 1) := by decide +kernel
theorem dL_law_921 : decode cL_law 921 = .ok (.iload 4, 2) := by decide +kernel
theorem dL_law_923 : decode cL_law 923 = .ok (.iconst 1, 1) := by decide +kernel
theorem dL_law_924 : decode cL_law 924 = .ok (.iadd, 1) := by decide +kernel
theorem dL_law_925 : decode cL_law 925 = .ok (.iaload, 1) := by decide +kernel
theorem dL_law_926 : decode cL_law 926 = .ok (.invokevirtual 129, 3) := by decide +kernel
theorem dL_law_929 : decode cL_law 929 = .ok (.istore 6, 2) := by decide +kernel
theorem dL_law_931 : decode cL_law 931 = .ok (.aload_n 2, 1) := by decide +kernel
theorem dL_law_932 : decode cL_law 932 = .ok (.invokevirtual 81, 3) := by decide +kernel
theorem dL_law_935 : decode cL_law 935 = .ok (.iload 5, 2) := by decide +kernel
theorem dL_law_937 : decode cL_law 937 = .ok (.if_icmp .eq 5, 3) := by decide +kernel
theorem dL_law_940 : decode cL_law 940 = .ok (.iconst 0, 1) := by decide +kernel
theorem dL_law_941 : decode cL_law 941 = .ok (.ireturn, 1) := by decide +kernel
theorem dL_law_942 : decode cL_law 942 = .ok (.iload 5, 2) := by decide +kernel
theorem dL_law_944 : decode cL_law 944 = .ok (.ifCond .ne 15, 3) := by decide +kernel
theorem dL_law_947 : decode cL_law 947 = .ok (.aload_n 3, 1) := by decide +kernel
theorem dL_law_948 : decode cL_law 948 = .ok (.iconst 0, 1) := by decide +kernel
theorem dL_law_949 : decode cL_law 949 = .ok (.laload, 1) := by decide +kernel
theorem dL_law_950 : decode cL_law 950 = .ok (.iload 6, 2) := by decide +kernel
theorem dL_law_952 : decode cL_law 952 = .ok (.i2l, 1) := by decide +kernel
theorem dL_law_953 : decode cL_law 953 = .ok (.lcmp, 1) := by decide +kernel
theorem dL_law_954 : decode cL_law 954 = .ok (.ifCond .eq 5, 3) := by decide +kernel
theorem dL_law_957 : decode cL_law 957 = .ok (.iconst 0, 1) := by decide +kernel
theorem dL_law_958 : decode cL_law 958 = .ok (.ireturn, 1) := by decide +kernel
theorem dL_law_959 : decode cL_law 959 = .ok (.goto 335, 3) := by decide +kernel
theorem dL_law_962 : decode cL_law 962 = .ok (.aload_n 1, 1) := by decide +kernel
theorem dL_law_963 : decode cL_law 963 = .ok (.aload_n 0, 1) := by decide +kernel
theorem dL_law_964 : decode cL_law 964 = .ok (.iload 4, 2) := by decide +kernel
theorem dL_law_966 : decode cL_law 966 = .ok (.iconst 1, 1) := by decide +kernel
theorem dL_law_967 : decode cL_law 967 = .ok (.iadd, 1) := by decide +kernel
theorem dL_law_968 : decode cL_law 968 = .ok (.iaload, 1) := by decide +kernel
theorem dL_law_969 : decode cL_law 969 = .ok (.aload_n 3, 1) := by decide +kernel
theorem dL_law_970 : decode cL_law 970 = .ok (.invokestatic 130, 3) := by decide +kernel
theorem dL_law_973 : decode cL_law 973 = .ok (.istore 5, 2) := by decide +kernel
theorem dL_law_975 : decode cL_law 975 = .ok (.aload_n 2, 1) := by decide +kernel
theorem dL_law_976 : decode cL_law 976 = .ok (.aload_n 0, 1) := by decide +kernel
theorem dL_law_977 : decode cL_law 977 = .ok (.iload 4, 2) := by decide +kernel
theorem dL_law_979 : decode cL_law 979 = .ok (.iconst 1, 1) := by decide +kernel
theorem dL_law_980 : decode cL_law 980 = .ok (.iadd, 1) := by decide +kernel
theorem dL_law_981 : decode cL_law 981 = .ok (.iaload, 1) := by decide +kernel
theorem dL_law_982 : decode cL_law 982 = .ok (.invokevirtual 132, 3) := by decide +kernel
theorem dL_law_985 : decode cL_law 985 = .ok (.istore 6, 2) := by decide +kernel
theorem dL_law_987 : decode cL_law 987 = .ok (.aload_n 2, 1) := by decide +kernel
theorem dL_law_988 : decode cL_law 988 = .ok (.invokevirtual 81, 3) := by decide +kernel
theorem dL_law_991 : decode cL_law 991 = .ok (.iload 5, 2) := by decide +kernel
theorem dL_law_993 : decode cL_law 993 = .ok (.if_icmp .eq 5, 3) := by decide +kernel
theorem dL_law_996 : decode cL_law 996 = .ok (.iconst 0, 1) := by decide +kernel
theorem dL_law_997 : decode cL_law 997 = .ok (.ireturn, 1) := by decide +kernel
theorem dL_law_998 : decode cL_law 998 = .ok (.iload 5, 2) := by decide +kernel
theorem dL_law_1000 : decode cL_law 1000 = .ok (.ifCond .ne 15, 3) := by decide +kernel
theorem dL_law_1003 : decode cL_law 1003 = .ok (.aload_n 3, 1) := by decide +kernel
theorem dL_law_1004 : decode cL_law 1004 = .ok (.iconst 0, 1) := by decide +kernel
theorem dL_law_1005 : decode cL_law 1005 = .ok (.laload, 1) := by decide +kernel
theorem dL_law_1006 : decode cL_law 1006 = .ok (.iload 6, 2) := by decide +kernel
theorem dL_law_1008 : decode cL_law 1008 = .ok (.i2l, 1) := by decide +kernel
theorem dL_law_1009 : decode cL_law 1009 = .ok (.lcmp, 1) := by decide +kernel
theorem dL_law_1010 : decode cL_law 1010 = .ok (.ifCond .eq 5, 3) := by decide +kernel
theorem dL_law_1013 : decode cL_law 1013 = .ok (.iconst 0, 1) := by decide +kernel
theorem dL_law_1014 : decode cL_law 1014 = .ok (.ireturn, 1) := by decide +kernel
theorem dL_law_1015 : decode cL_law 1015 = .ok (.goto 279, 3) := by decide +kernel
theorem dL_law_1018 : decode cL_law 1018 = .ok (.aload_n 1, 1) := by decide +kernel
theorem dL_law_1019 : decode cL_law 1019 = .ok (.aload_n 0, 1) := by decide +kernel
theorem dL_law_1020 : decode cL_law 1020 = .ok (.iload 4, 2) := by decide +kernel
theorem dL_law_1022 : decode cL_law 1022 = .ok (.iconst 1, 1) := by decide +kernel
theorem dL_law_1023 : decode cL_law 1023 = .ok (.iadd, 1) := by decide +kernel
theorem dL_law_1024 : decode cL_law 1024 = .ok (.iaload, 1) := by decide +kernel
theorem dL_law_1025 : decode cL_law 1025 = .ok (.aload_n 3, 1) := by decide +kernel
theorem dL_law_1026 : decode cL_law 1026 = .ok (.invokestatic 133, 3) := by decide +kernel
theorem dL_law_1029 : decode cL_law 1029 = .ok (.istore 5, 2) := by decide +kernel
theorem dL_law_1031 : decode cL_law 1031 = .ok (.aload_n 2, 1) := by decide +kernel
theorem dL_law_1032 : decode cL_law 1032 = .ok (.aload_n 0, 1) := by decide +kernel
theorem dL_law_1033 : decode cL_law 1033 = .ok (.iload 4, 2) := by decide +kernel
theorem dL_law_1035 : decode cL_law 1035 = .ok (.iconst 1, 1) := by decide +kernel
theorem dL_law_1036 : decode cL_law 1036 = .ok (.iadd, 1) := by decide +kernel
theorem dL_law_1037 : decode cL_law 1037 = .ok (.iaload, 1) := by decide +kernel
theorem dL_law_1038 : decode cL_law 1038 = .ok (.invokevirtual 135, 3) := by decide +kernel
theorem dL_law_1041 : decode cL_law 1041 = .ok (.istore 6, 2) := by decide +kernel
theorem dL_law_1043 : decode cL_law 1043 = .ok (.aload_n 2, 1) := by decide +kernel
theorem dL_law_1044 : decode cL_law 1044 = .ok (.invokevirtual 81, 3) := by decide +kernel
theorem dL_law_1047 : decode cL_law 1047 = .ok (.iload 5, 2) := by decide +kernel
theorem dL_law_1049 : decode cL_law 1049 = .ok (.if_icmp .eq 5, 3) := by decide +kernel
theorem dL_law_1052 : decode cL_law 1052 = .ok (.iconst 0, 1) := by decide +kernel
theorem dL_law_1053 : decode cL_law 1053 = .ok (.ireturn, 1) := by decide +kernel
theorem dL_law_1054 : decode cL_law 1054 = .ok (.iload 5, 2) := by decide +kernel
theorem dL_law_1056 : decode cL_law 1056 = .ok (.ifCond .ne 15, 3) := by decide +kernel
theorem dL_law_1059 : decode cL_law 1059 = .ok (.aload_n 3, 1) := by decide +kernel
theorem dL_law_1060 : decode cL_law 1060 = .ok (.iconst 0, 1) := by decide +kernel
theorem dL_law_1061 : decode cL_law 1061 = .ok (.laload, 1) := by decide +kernel
theorem dL_law_1062 : decode cL_law 1062 = .ok (.iload 6, 2) := by decide +kernel
theorem dL_law_1064 : decode cL_law 1064 = .ok (.i2l, 1) := by decide +kernel
theorem dL_law_1065 : decode cL_law 1065 = .ok (.lcmp, 1) := by decide +kernel
theorem dL_law_1066 : decode cL_law 1066 = .ok (.ifCond .eq 5, 3) := by decide +kernel
theorem dL_law_1069 : decode cL_law 1069 = .ok (.iconst 0, 1) := by decide +kernel
theorem dL_law_1070 : decode cL_law 1070 = .ok (.ireturn, 1) := by decide +kernel
theorem dL_law_1071 : decode cL_law 1071 = .ok (.goto 223, 3) := by decide +kernel
theorem dL_law_1074 : decode cL_law 1074 = .ok (.aload_n 1, 1) := by decide +kernel
theorem dL_law_1075 : decode cL_law 1075 = .ok (.aload_n 0, 1) := by decide +kernel
theorem dL_law_1076 : decode cL_law 1076 = .ok (.iload 4, 2) := by decide +kernel
theorem dL_law_1078 : decode cL_law 1078 = .ok (.iconst 1, 1) := by decide +kernel
theorem dL_law_1079 : decode cL_law 1079 = .ok (.iadd, 1) := by decide +kernel
theorem dL_law_1080 : decode cL_law 1080 = .ok (.iaload, 1) := by decide +kernel
theorem dL_law_1081 : decode cL_law 1081 = .ok (.aload_n 3, 1) := by decide +kernel
theorem dL_law_1082 : decode cL_law 1082 = .ok (.invokestatic 136, 3) := by decide +kernel
theorem dL_law_1085 : decode cL_law 1085 = .ok (.istore 5, 2) := by decide +kernel
theorem dL_law_1087 : decode cL_law 1087 = .ok (.aload_n 2, 1) := by decide +kernel
theorem dL_law_1088 : decode cL_law 1088 = .ok (.aload_n 0, 1) := by decide +kernel
theorem dL_law_1089 : decode cL_law 1089 = .ok (.iload 4, 2) := by decide +kernel
theorem dL_law_1091 : decode cL_law 1091 = .ok (.iconst 1, 1) := by decide +kernel
theorem dL_law_1092 : decode cL_law 1092 = .ok (.iadd, 1) := by decide +kernel
theorem dL_law_1093 : decode cL_law 1093 = .ok (.iaload, 1) := by decide +kernel
theorem dL_law_1094 : decode cL_law 1094 = .ok (.invokevirtual 138, 3) := by decide +kernel
theorem dL_law_1097 : decode cL_law 1097 = .ok (.istore 6, 2) := by decide +kernel
theorem dL_law_1099 : decode cL_law 1099 = .ok (.aload_n 2, 1) := by decide +kernel
theorem dL_law_1100 : decode cL_law 1100 = .ok (.invokevirtual 81, 3) := by decide +kernel
theorem dL_law_1103 : decode cL_law 1103 = .ok (.iload 5, 2) := by decide +kernel
theorem dL_law_1105 : decode cL_law 1105 = .ok (.if_icmp .eq 5, 3) := by decide +kernel
theorem dL_law_1108 : decode cL_law 1108 = .ok (.iconst 0, 1) := by decide +kernel
theorem dL_law_1109 : decode cL_law 1109 = .ok (.ireturn, 1) := by decide +kernel
theorem dL_law_1110 : decode cL_law 1110 = .ok (.iload 5, 2) := by decide +kernel
theorem dL_law_1112 : decode cL_law 1112 = .ok (.ifCond .ne 15, 3) := by decide +kernel
theorem dL_law_1115 : decode cL_law 1115 = .ok (.aload_n 3, 1) := by decide +kernel
theorem dL_law_1116 : decode cL_law 1116 = .ok (.iconst 0, 1) := by decide +kernel
theorem dL_law_1117 : decode cL_law 1117 = .ok (.laload, 1) := by decide +kernel
theorem dL_law_1118 : decode cL_law 1118 = .ok (.iload 6, 2) := by decide +kernel
theorem dL_law_1120 : decode cL_law 1120 = .ok (.i2l, 1) := by decide +kernel
theorem dL_law_1121 : decode cL_law 1121 = .ok (.lcmp, 1) := by decide +kernel
theorem dL_law_1122 : decode cL_law 1122 = .ok (.ifCond .eq 5, 3) := by decide +kernel
theorem dL_law_1125 : decode cL_law 1125 = .ok (.iconst 0, 1) := by decide +kernel
theorem dL_law_1126 : decode cL_law 1126 = .ok (.ireturn, 1) := by decide +kernel
theorem dL_law_1127 : decode cL_law 1127 = .ok (.goto 167, 3) := by decide +kernel
theorem dL_law_1130 : decode cL_law 1130 = .ok (.aload_n 1, 1) := by decide +kernel
theorem dL_law_1131 : decode cL_law 1131 = .ok (.aload_n 0, 1) := by decide +kernel
theorem dL_law_1132 : decode cL_law 1132 = .ok (.iload 4, 2) := by decide +kernel
theorem dL_law_1134 : decode cL_law 1134 = .ok (.iconst 1, 1) := by decide +kernel
theorem dL_law_1135 : decode cL_law 1135 = .ok (.iadd, 1) := by decide +kernel
theorem dL_law_1136 : decode cL_law 1136 = .ok (.iaload, 1) := by decide +kernel
theorem dL_law_1137 : decode cL_law 1137 = .ok (.aload_n 3, 1) := by decide +kernel
theorem dL_law_1138 : decode cL_law 1138 = .ok (.invokestatic 139, 3) := by decide +kernel
theorem dL_law_1141 : decode cL_law 1141 = .ok (.istore 5, 2) := by decide +kernel
theorem dL_law_1143 : decode cL_law 1143 = .ok (.aload_n 2, 1) := by decide +kernel
theorem dL_law_1144 : decode cL_law 1144 = .ok (.aload_n 0, 1) := by decide +kernel
theorem dL_law_1145 : decode cL_law 1145 = .ok (.iload 4, 2) := by decide +kernel
theorem dL_law_1147 : decode cL_law 1147 = .ok (.iconst 1, 1) := by decide +kernel
theorem dL_law_1148 : decode cL_law 1148 = .ok (.iadd, 1) := by decide +kernel
theorem dL_law_1149 : decode cL_law 1149 = .ok (.iaload, 1) := by decide +kernel
theorem dL_law_1150 : decode cL_law 1150 = .ok (.invokevirtual 141, 3) := by decide +kernel
theorem dL_law_1153 : decode cL_law 1153 = .ok (.istore 6, 2) := by decide +kernel
theorem dL_law_1155 : decode cL_law 1155 = .ok (.aload_n 2, 1) := by decide +kernel
theorem dL_law_1156 : decode cL_law 1156 = .ok (.invokevirtual 81, 3) := by decide +kernel
theorem dL_law_1159 : decode cL_law 1159 = .ok (.iload 5, 2) := by decide +kernel
theorem dL_law_1161 : decode cL_law 1161 = .ok (.if_icmp .eq 5, 3) := by decide +kernel
theorem dL_law_1164 : decode cL_law 1164 = .ok (.iconst 0, 1) := by decide +kernel
theorem dL_law_1165 : decode cL_law 1165 = .ok (.ireturn, 1) := by decide +kernel
theorem dL_law_1166 : decode cL_law 1166 = .ok (.iload 5, 2) := by decide +kernel
theorem dL_law_1168 : decode cL_law 1168 = .ok (.ifCond .ne 15, 3) := by decide +kernel
theorem dL_law_1171 : decode cL_law 1171 = .ok (.aload_n 3, 1) := by decide +kernel
theorem dL_law_1172 : decode cL_law 1172 = .ok (.iconst 0, 1) := by decide +kernel
theorem dL_law_1173 : decode cL_law 1173 = .ok (.laload, 1) := by decide +kernel
theorem dL_law_1174 : decode cL_law 1174 = .ok (.iload 6, 2) := by decide +kernel
theorem dL_law_1176 : decode cL_law 1176 = .ok (.i2l, 1) := by decide +kernel
theorem dL_law_1177 : decode cL_law 1177 = .ok (.lcmp, 1) := by decide +kernel
theorem dL_law_1178 : decode cL_law 1178 = .ok (.ifCond .eq 5, 3) := by decide +kernel
theorem dL_law_1181 : decode cL_law 1181 = .ok (.iconst 0, 1) := by decide +kernel
theorem dL_law_1182 : decode cL_law 1182 = .ok (.ireturn, 1) := by decide +kernel
theorem dL_law_1183 : decode cL_law 1183 = .ok (.goto 111, 3) := by decide +kernel
theorem dL_law_1186 : decode cL_law 1186 = .ok (.aload_n 1, 1) := by decide +kernel
theorem dL_law_1187 : decode cL_law 1187 = .ok (.aload_n 0, 1) := by decide +kernel
theorem dL_law_1188 : decode cL_law 1188 = .ok (.iload 4, 2) := by decide +kernel
theorem dL_law_1190 : decode cL_law 1190 = .ok (.iconst 1, 1) := by decide +kernel
theorem dL_law_1191 : decode cL_law 1191 = .ok (.iadd, 1) := by decide +kernel
theorem dL_law_1192 : decode cL_law 1192 = .ok (.iaload, 1) := by decide +kernel
theorem dL_law_1193 : decode cL_law 1193 = .ok (.aload_n 3, 1) := by decide +kernel
theorem dL_law_1194 : decode cL_law 1194 = .ok (.invokestatic 142, 3) := by decide +kernel
theorem dL_law_1197 : decode cL_law 1197 = .ok (.istore 5, 2) := by decide +kernel
theorem dL_law_1199 : decode cL_law 1199 = .ok (.aload_n 2, 1) := by decide +kernel
theorem dL_law_1200 : decode cL_law 1200 = .ok (.aload_n 0, 1) := by decide +kernel
theorem dL_law_1201 : decode cL_law 1201 = .ok (.iload 4, 2) := by decide +kernel
theorem dL_law_1203 : decode cL_law 1203 = .ok (.iconst 1, 1) := by decide +kernel
theorem dL_law_1204 : decode cL_law 1204 = .ok (.iadd, 1) := by decide +kernel
theorem dL_law_1205 : decode cL_law 1205 = .ok (.iaload, 1) := by decide +kernel
theorem dL_law_1206 : decode cL_law 1206 = .ok (.invokevirtual 144, 3) := by decide +kernel
theorem dL_law_1209 : decode cL_law 1209 = .ok (.istore 6, 2) := by decide +kernel
theorem dL_law_1211 : decode cL_law 1211 = .ok (.aload_n 2, 1) := by decide +kernel
theorem dL_law_1212 : decode cL_law 1212 = .ok (.invokevirtual 81, 3) := by decide +kernel
theorem dL_law_1215 : decode cL_law 1215 = .ok (.iload 5, 2) := by decide +kernel
theorem dL_law_1217 : decode cL_law 1217 = .ok (.if_icmp .eq 5, 3) := by decide +kernel
theorem dL_law_1220 : decode cL_law 1220 = .ok (.iconst 0, 1) := by decide +kernel
theorem dL_law_1221 : decode cL_law 1221 = .ok (.ireturn, 1) := by decide +kernel
theorem dL_law_1222 : decode cL_law 1222 = .ok (.iload 5, 2) := by decide +kernel
theorem dL_law_1224 : decode cL_law 1224 = .ok (.ifCond .ne 15, 3) := by decide +kernel
theorem dL_law_1227 : decode cL_law 1227 = .ok (.aload_n 3, 1) := by decide +kernel
theorem dL_law_1228 : decode cL_law 1228 = .ok (.iconst 0, 1) := by decide +kernel
theorem dL_law_1229 : decode cL_law 1229 = .ok (.laload, 1) := by decide +kernel
theorem dL_law_1230 : decode cL_law 1230 = .ok (.iload 6, 2) := by decide +kernel
theorem dL_law_1232 : decode cL_law 1232 = .ok (.i2l, 1) := by decide +kernel
theorem dL_law_1233 : decode cL_law 1233 = .ok (.lcmp, 1) := by decide +kernel
theorem dL_law_1234 : decode cL_law 1234 = .ok (.ifCond .eq 5, 3) := by decide +kernel
theorem dL_law_1237 : decode cL_law 1237 = .ok (.iconst 0, 1) := by decide +kernel
theorem dL_law_1238 : decode cL_law 1238 = .ok (.ireturn, 1) := by decide +kernel
theorem dL_law_1239 : decode cL_law 1239 = .ok (.goto 55, 3) := by decide +kernel
theorem dL_law_1242 : decode cL_law 1242 = .ok (.aload_n 1, 1) := by decide +kernel
theorem dL_law_1243 : decode cL_law 1243 = .ok (.invokevirtual 145, 3) := by decide +kernel
theorem dL_law_1246 : decode cL_law 1246 = .ok (.aload_n 2, 1) := by decide +kernel
theorem dL_law_1247 : decode cL_law 1247 = .ok (.invokevirtual 148, 3) := by decide +kernel
theorem dL_law_1250 : decode cL_law 1250 = .ok (.if_icmp .eq 44, 3) := by decide +kernel
theorem dL_law_1253 : decode cL_law 1253 = .ok (.iconst 0, 1) := by decide +kernel
theorem dL_law_1254 : decode cL_law 1254 = .ok (.ireturn, 1) := by decide +kernel
theorem dL_law_1255 : decode cL_law 1255 = .ok (.aload_n 1, 1) := by decide +kernel
theorem dL_law_1256 : decode cL_law 1256 = .ok (.invokevirtual 149, 3) := by decide +kernel
theorem dL_law_1259 : decode cL_law 1259 = .ok (.aload_n 2, 1) := by decide +kernel
theorem dL_law_1260 : decode cL_law 1260 = .ok (.invokevirtual 152, 3) := by decide +kernel
theorem dL_law_1263 : decode cL_law 1263 = .ok (.if_icmp .eq 31, 3) := by decide +kernel
theorem dL_law_1266 : decode cL_law 1266 = .ok (.iconst 0, 1) := by decide +kernel
theorem dL_law_1267 : decode cL_law 1267 = .ok (.ireturn, 1) := by decide +kernel
theorem dL_law_1268 : decode cL_law 1268 = .ok (.aload_n 1, 1) := by decide +kernel
theorem dL_law_1269 : decode cL_law 1269 = .ok (.invokevirtual 153, 3) := by decide +kernel
theorem dL_law_1272 : decode cL_law 1272 = .ok (.aload_n 2, 1) := by decide +kernel
theorem dL_law_1273 : decode cL_law 1273 = .ok (.invokevirtual 156, 3) := by decide +kernel
theorem dL_law_1276 : decode cL_law 1276 = .ok (.if_icmp .eq 18, 3) := by decide +kernel
theorem dL_law_1279 : decode cL_law 1279 = .ok (.iconst 0, 1) := by decide +kernel
theorem dL_law_1280 : decode cL_law 1280 = .ok (.ireturn, 1) := by decide +kernel
theorem dL_law_1281 : decode cL_law 1281 = .ok (.aload_n 1, 1) := by decide +kernel
theorem dL_law_1282 : decode cL_law 1282 = .ok (.invokevirtual 157, 3) := by decide +kernel
theorem dL_law_1285 : decode cL_law 1285 = .ok (.aload_n 2, 1) := by decide +kernel
theorem dL_law_1286 : decode cL_law 1286 = .ok (.invokevirtual 160, 3) := by decide +kernel
theorem dL_law_1289 : decode cL_law 1289 = .ok (.if_icmp .eq 5, 3) := by decide +kernel
theorem dL_law_1292 : decode cL_law 1292 = .ok (.iconst 0, 1) := by decide +kernel
theorem dL_law_1293 : decode cL_law 1293 = .ok (.ireturn, 1) := by decide +kernel
theorem dL_law_1294 : decode cL_law 1294 = .ok (.iinc 4 4, 3) := by decide +kernel
theorem dL_law_1297 : decode cL_law 1297 = .ok (.goto (-1274), 3) := by decide +kernel
theorem dL_law_1300 : decode cL_law 1300 = .ok (.iconst 1, 1) := by decide +kernel
theorem dL_law_1301 : decode cL_law 1301 = .ok (.ireturn, 1) := by decide +kernel
abbrev vwCl : List vw_C := [(RX0, TX0, 4), (RX1, TX1, 4), (RX2, TX2, 8), (RX3, TX3, 9), (RX4, TX4, 11), (RX5, TX5, 31)]
end
section
/-! own rows: reads and writes at a place told by a natural number -/
section YLIB
variable {p : Program} {l : Launch} {e : Env} {R : Room} {s : State} {m : MethodId} {args : Array Value} {below : List Frame} {meth : Method} {c : Code} {H : Heap} {locs : List Loc} {cells slots : Nat} {Q : State → Prop}
variable {cc : ByteArray} {pc : Nat} {ls : Array Slot} {rest : List Value} {D : va_G} {cl : List vw_C} {A : Nat → Prop} {a : Nat} {tys : List (ClassId × FieldType)} {ws : va_W} {H0 : Heap}
theorem y_topi {x : Int32} (y : Int32) (h : x = y) (k : W p l e R s m args below meth c H locs cells slots Q (F0 m pc ls (.int y :: rest))) : W p l e R s m args below meth c H locs cells slots Q (F0 m pc ls (.int x :: rest)) := h ▸ k
theorem y_topf {x : UInt32} (y : UInt32) (h : x = y) (k : W p l e R s m args below meth c H locs cells slots Q (F0 m pc ls (.float y :: rest))) : W p l e R s m args below meth c H locs cells slots Q (F0 m pc ls (.float x :: rest)) := h ▸ k
theorem y_ild (hexec : p.tables.exec = Jvm.exec) (hb : c.code = cc) (hK : va_K D cl tys s) (hP : va_P D cl ws H) (q0 t0 : Nat) {cA : ClassId} {n : Nat} {f : Nat → Int32} (ha : ws[q0]? = some (a, .inl (cA, n, .inl f))) (ht : tys[t0]? = some (cA, .int)) {t : Nat} (h1 : t < n) (h2 : n < 2 ^ 31) (hdg : decode cc pc = .ok (.iaload, 1))
    (kk : W p l e R s m args below meth c H locs cells slots Q (F0 m (pc + 1) ls (.int (f t) :: rest))) : W p l e R s m args below meth c H locs cells slots Q (F0 m pc ls (.int (nI t) :: .ref a :: rest)) :=
  va_iald hexec hb hK hP q0 t0 ha ht (vp_in_nI h1 h2) hdg (by rw [nI_clamp (Nat.lt_trans h1 h2)]; exact kk)
theorem y_zld (hexec : p.tables.exec = Jvm.exec) (hb : c.code = cc) (hK : va_K D cl tys s) (hP : va_P D cl ws H) (q0 t0 : Nat) {cA : ClassId} {n : Nat} {f : Nat → Int32} (ha : ws[q0]? = some (a, .inl (cA, n, .inl f))) (ht : tys[t0]? = some (cA, .boolean)) {t : Nat} (h1 : t < n) (h2 : n < 2 ^ 31) (hdg : decode cc pc = .ok (.baload, 1))
    (kk : W p l e R s m args below meth c H locs cells slots Q (F0 m (pc + 1) ls (.int (f t) :: rest))) : W p l e R s m args below meth c H locs cells slots Q (F0 m pc ls (.int (nI t) :: .ref a :: rest)) :=
  va_zald hexec hb hK hP q0 t0 ha ht (vp_in_nI h1 h2) hdg (by rw [nI_clamp (Nat.lt_trans h1 h2)]; exact kk)
theorem y_fld (hexec : p.tables.exec = Jvm.exec) (hb : c.code = cc) (hK : va_K D cl tys s) (hP : va_P D cl ws H) (q0 t0 : Nat) {cA : ClassId} {n : Nat} {f : Nat → UInt32} (ha : ws[q0]? = some (a, .inl (cA, n, .inr (.inr (.inl f))))) (ht : tys[t0]? = some (cA, .float)) {t : Nat} (h1 : t < n) (h2 : n < 2 ^ 31) (hdg : decode cc pc = .ok (.faload, 1))
    (kk : W p l e R s m args below meth c H locs cells slots Q (F0 m (pc + 1) ls (.float (f t) :: rest))) : W p l e R s m args below meth c H locs cells slots Q (F0 m pc ls (.int (nI t) :: .ref a :: rest)) :=
  va_fald hexec hb hK hP q0 t0 ha ht (vp_in_nI h1 h2) hdg (by rw [nI_clamp (Nat.lt_trans h1 h2)]; exact kk)
theorem y_ist (hexec : p.tables.exec = Jvm.exec) (hb : c.code = cc) (hK : va_K D cl tys s) (hP : va_P D cl ws H) (hD : va_D A ws) (hS : va_S A H0 H locs) (q0 t0 : Nat) {cA : ClassId} {n : Nat} {f : Nat → Int32} (ha : ws[q0]? = some (a, .inl (cA, n, .inl f))) (ht : tys[t0]? = some (cA, .int)) {t : Nat} {x : Int32} (h1 : t < n) (h2 : n < 2 ^ 31) (hdg : decode cc pc = .ok (.iastore, 1))
    (kk : ∀ (H1 : Heap) (locs1 : List Loc), va_P D cl (ws.set q0 (a, .inl (cA, n, .inl (upd f t x)))) H1 → va_D A (ws.set q0 (a, .inl (cA, n, .inl (upd f t x)))) → va_S A H0 H1 locs1 → W p l e R s m args below meth c H1 locs1 cells slots Q (F0 m (pc + 1) ls rest)) : W p l e R s m args below meth c H locs cells slots Q (F0 m pc ls (.int x :: .int (nI t) :: .ref a :: rest)) :=
  va_iast hexec hb hK hP hD hS q0 t0 ha ht (vp_in_nI h1 h2) hdg (by rw [nI_clamp (Nat.lt_trans h1 h2)]; exact kk)
theorem y_fst (hexec : p.tables.exec = Jvm.exec) (hb : c.code = cc) (hK : va_K D cl tys s) (hP : va_P D cl ws H) (hD : va_D A ws) (hS : va_S A H0 H locs) (q0 t0 : Nat) {cA : ClassId} {n : Nat} {f : Nat → UInt32} (ha : ws[q0]? = some (a, .inl (cA, n, .inr (.inr (.inl f))))) (ht : tys[t0]? = some (cA, .float)) {t : Nat} {x : UInt32} (h1 : t < n) (h2 : n < 2 ^ 31) (hdg : decode cc pc = .ok (.fastore, 1))
    (kk : ∀ (H1 : Heap) (locs1 : List Loc), va_P D cl (ws.set q0 (a, .inl (cA, n, .inr (.inr (.inl (vf_upd f t x)))))) H1 → va_D A (ws.set q0 (a, .inl (cA, n, .inr (.inr (.inl (vf_upd f t x)))))) → va_S A H0 H1 locs1 → W p l e R s m args below meth c H1 locs1 cells slots Q (F0 m (pc + 1) ls rest)) : W p l e R s m args below meth c H locs cells slots Q (F0 m pc ls (.float x :: .int (nI t) :: .ref a :: rest)) :=
  va_fast hexec hb hK hP hD hS q0 t0 ha ht (vp_in_nI h1 h2) hdg (by rw [nI_clamp (Nat.lt_trans h1 h2)]; exact kk)
theorem y_enter {g : JFrame} (hP : va_P D cl ws s.heap) (k : ∀ H : Heap, va_P D cl ws H → va_S A s.heap H [] → W p l e R s m args below meth c H [] cells slots Q g) : W p l e R s m args below meth c s.heap [] cells slots Q g := k s.heap hP va_S.rf
/-- a loop: an invariant over a number that falls -/
theorem y_loop {st : List Value} (I : Nat → Heap → List Loc → Array Slot → Prop) (k0 : Nat) {ls0 : Array Slot} (h0 : I k0 H locs ls0)
    (step : ∀ (k : Nat) (H : Heap) (locs : List Loc) (ls : Array Slot), I k H locs ls → (∀ (k' : Nat) (H' : Heap) (locs' : List Loc) (ls' : Array Slot), k' < k → I k' H' locs' ls' → W p l e R s m args below meth c H' locs' cells slots Q (F0 m pc ls' st)) → W p l e R s m args below meth c H locs cells slots Q (F0 m pc ls st)) :
    W p l e R s m args below meth c H locs cells slots Q (F0 m pc ls0 st) := by
  have key : ∀ (n k : Nat), k ≤ n → ∀ (H : Heap) (locs : List Loc) (ls : Array Slot), I k H locs ls → W p l e R s m args below meth c H locs cells slots Q (F0 m pc ls st) := by
    intro n
    induction n with
    | zero => exact fun k hk H locs ls hI => step k H locs ls hI (fun k' _ _ _ hk' _ => absurd hk' (by omega))
    | succ n ih => exact fun k hk H locs ls hI => step k H locs ls hI (fun k' H' locs' ls' hk' hI' => ih k' (by omega) H' locs' ls' hI')
  exact key k0 k0 (Nat.le_refl _) H locs ls0 h0
/-- the same, cells and slots in the invariant -/
theorem y_loopC {st : List Value} (I : Nat → Heap → List Loc → Array Slot → Nat → Nat → Prop) (k0 : Nat) {ls0 : Array Slot} (h0 : I k0 H locs ls0 cells slots)
    (step : ∀ (k : Nat) (H : Heap) (locs : List Loc) (ls : Array Slot) (cells slots : Nat), I k H locs ls cells slots → (∀ (k' : Nat) (H' : Heap) (locs' : List Loc) (ls' : Array Slot) (cells' slots' : Nat), k' < k → I k' H' locs' ls' cells' slots' → W p l e R s m args below meth c H' locs' cells' slots' Q (F0 m pc ls' st)) → W p l e R s m args below meth c H locs cells slots Q (F0 m pc ls st)) :
    W p l e R s m args below meth c H locs cells slots Q (F0 m pc ls0 st) := by
  have key : ∀ (n k : Nat), k ≤ n → ∀ (H : Heap) (locs : List Loc) (ls : Array Slot) (cells slots : Nat), I k H locs ls cells slots → W p l e R s m args below meth c H locs cells slots Q (F0 m pc ls st) := by
    intro n
    induction n with
    | zero => exact fun k hk H locs ls c1 s1 hI => step k H locs ls c1 s1 hI (fun k' _ _ _ _ _ hk' _ => absurd hk' (by omega))
    | succ n ih => exact fun k hk H locs ls c1 s1 hI => step k H locs ls c1 s1 hI (fun k' H' locs' ls' c2 s2 hk' hI' => ih k' (by omega) H' locs' ls' c2 s2 hI')
  exact key k0 k0 (Nat.le_refl _) H locs ls0 cells slots h0
end YLIB
/-- a method's world at its start, and at its end -/
def pcW (dC : Nat → ClassId) (dI : Nat → Nat → Nat) (tys : List (ClassId × FieldType)) (ws : va_W) (sz : Nat) (U : State) : Prop := U.heap.size = sz ∧ va_P (dC, dI) vwCl ws U.heap ∧ va_K (dC, dI) vwCl tys U ∧ va_D (fun _ => True) ws
def atW (dC : Nat → ClassId) (dI : Nat → Nat → Nat) (tys : List (ClassId × FieldType)) (A : Nat → Prop) (ws : va_W) (t : State) : Prop := va_P (dC, dI) vwCl ws t.heap ∧ va_K (dC, dI) vwCl tys t ∧ va_D A ws
theorem pcW_blind {dC : Nat → ClassId} {dI : Nat → Nat → Nat} {tys : List (ClassId × FieldType)} {ws : va_W} {sz : Nat} {As : List Value} : FrameBlind (va_Pc As (pcW dC dI tys ws sz)) := fun a U g mk h => ⟨h.1, h.2.1, h.2.2.1, va_K.moved (u := U) (U := U.calling g mk a) (Vm.Alike.refl U.vm) h.2.2.2.1, h.2.2.2.2⟩
theorem pcW_pre {dC : Nat → ClassId} {dI : Nat → Nat → Nat} {tys : List (ClassId × FieldType)} {ws : va_W} {s U : State} {H : Heap} {A : Nat → Prop} {As : List Value} (hP : va_P (dC, dI) vwCl ws H) (hD : va_D A ws) (hK : va_K (dC, dI) vwCl tys s) (hU : U.heap = H) (hW : s.WarmedH U.vm) : va_Pc As (pcW dC dI tys ws H.size) As.toArray U :=
  ⟨rfl, by rw [hU], by rw [hU]; exact hP, va_K.moved hW.alike hK, hD.weaken (fun _ _ _ _ => trivial)⟩
theorem atW_end {dC : Nat → ClassId} {dI : Nat → Nat → Nat} {tys : List (ClassId × FieldType)} {ws : va_W} {s t : State} {H : Heap} {A : Nat → Prop} (hP : va_P (dC, dI) vwCl ws H) (hD : va_D A ws) (hK : va_K (dC, dI) vwCl tys s) (ht : t.heap = H) (hW : s.WarmedH t.vm) : atW dC dI tys A ws t :=
  ⟨by rw [ht]; exact hP, va_K.moved hW.alike hK, hD⟩
/-- the whole world of a callee that is the caller's whole world -/
theorem y_free {A0 : Nat → Prop} {ws : va_W} {H0 H : Heap} {locs : List Loc} (hD : va_D A0 ws) (hS : va_S A0 H0 H locs) (hA : ∀ q, H0.size ≤ q → A0 q) : ∀ q, va_A ws H.size q → A0 q := by
  intro q h
  rcases h with ⟨k, e, h⟩ | h
  · exact hD.2 k (q, e) h
  · exact hA q (Nat.le_trans hS.1 h)
end
section
/-- the sums that the journal stands for: what is carried, and the entries on the page -/
def crr (jc js jv : Nat → Int32) : Nat → Nat → Int32
  | 0 => jc
  | k + 1 => upd (crr jc js jv k) (js k).toNatClampNeg (crr jc js jv k (js k).toNatClampNeg + jv k)
def okJ (js : Nat → Int32) (k : Nat) : Prop := ∀ i, i < k → ∃ z, z < 8 ∧ js i = nI z
/-- one seller's sum, entry by entry -/
def crs (jc js jv : Nat → Int32) (x : Nat) : Nat → Int32
  | 0 => jc x
  | k + 1 => if js k = nI x then crs jc js jv x k + jv k else crs jc js jv x k
theorem crs_eq {jc js jv : Nat → Int32} {x : Nat} (hx : x < 8) : ∀ k, okJ js k → crs jc js jv x k = crr jc js jv k x := by
  intro k
  induction k with
  | zero => intro _; rfl
  | succ k ih =>
    intro hj
    have h1 := ih (fun i hi => hj i (by omega))
    obtain ⟨z, hz, ez⟩ := hj k (by omega)
    show (if js k = nI x then crs jc js jv x k + jv k else crs jc js jv x k) = upd (crr jc js jv k) (js k).toNatClampNeg (crr jc js jv k (js k).toNatClampNeg + jv k) x
    rw [ez, nI_clamp (by omega), h1]
    by_cases h : z = x
    · subst h
      rw [if_pos rfl]
      simp [upd]
    · rw [if_neg (fun q => h ((nI_eq (by omega) (by omega)).mp q))]
      simp [upd, Ne.symm h]
theorem crr_congr {jc js jv js' jv' : Nat → Int32} : ∀ k, (∀ i, i < k → js' i = js i) → (∀ i, i < k → jv' i = jv i) → crr jc js' jv' k = crr jc js jv k := by
  intro k
  induction k with
  | zero => intro _ _; rfl
  | succ k ih =>
    intro h1 h2
    show upd _ _ _ = upd _ _ _
    rw [ih (fun i hi => h1 i (by omega)) (fun i hi => h2 i (by omega)), h1 k (by omega), h2 k (by omega)]
theorem crr_put {jc js jv : Nat → Int32} {k z : Nat} (hz : z < 8) (c : Int32) : crr jc (upd js k (nI z)) (upd jv k c) (k + 1) = upd (crr jc js jv k) z (crr jc js jv k z + c) := by
  show upd (crr jc (upd js k (nI z)) (upd jv k c) k) (upd js k (nI z) k).toNatClampNeg (crr jc (upd js k (nI z)) (upd jv k c) k (upd js k (nI z) k).toNatClampNeg + upd jv k c k) = _
  rw [crr_congr k (js := js) (jv := jv) (fun i hi => by simp [upd, Nat.ne_of_lt hi]) (fun i hi => by simp [upd, Nat.ne_of_lt hi])]
  rw [show upd js k (nI z) k = nI z by simp [upd], show upd jv k c k = c by simp [upd], nI_clamp (by omega)]
theorem okJ_put {js : Nat → Int32} {k z : Nat} (hj : okJ js k) (hz : z < 8) : okJ (upd js k (nI z)) (k + 1) := by
  intro i hi
  by_cases h : i = k
  · exact ⟨z, hz, by simp [upd, h]⟩
  · obtain ⟨y, hy, e⟩ := hj i (by omega)
    exact ⟨y, hy, by simp [upd, h, e]⟩
theorem upd_add0 (f : Nat → Int32) (z : Nat) : upd f z (f z + 0) = f := by
  funext j
  by_cases h : j = z
  · simp [upd, h]
  · simp [upd, h]
set_option maxHeartbeats 4000000 in
set_option maxRecDepth 100000 in
theorem c_X0_carryForward (l : Launch) (dC : Nat → ClassId) (dI : Nat → Nat → Nat) (cI : ClassId) (h0 qc qs qv sz : Nat) (jc js jv : Nat → Int32) (k : Nat) (hk : k ≤ 256) (hj : okJ js k) : Met l yX0_carryForward wsX0_carryForward ({ frames := 0, cells := 0, slots := 0, locals := 0 } : Room) (va_Pc [.ref h0] (pcW dC dI [(cI, .int)] [(h0, .inr (0, [.ref qc, .ref qs, .ref qv, .int (nI k)])), (qc, .inl (cI, 8, .inl (jc))), (qs, .inl (cI, 256, .inl (js))), (qv, .inl (cI, 256, .inl (jv)))] sz)) (va_Qv (fun _ : Unit => True) (fun _ t => atW dC dI [(cI, .int)] (va_A [(h0, .inr (0, [.ref qc, .ref qs, .ref qv, .int (nI k)])), (qc, .inl (cI, 8, .inl (jc))), (qs, .inl (cI, 256, .inl (js))), (qv, .inl (cI, 256, .inl (jv)))] sz) [(h0, .inr (0, [.ref qc, .ref qs, .ref qv, .int 0])), (qc, .inl (cI, 8, .inl (crr jc js jv k))), (qs, .inl (cI, 256, .inl (js))), (qv, .inl (cI, 256, .inl (jv)))] t) (va_A [(h0, .inr (0, [.ref qc, .ref qs, .ref qv, .int (nI k)])), (qc, .inl (cI, 8, .inl (jc))), (qs, .inl (cI, 256, .inl (js))), (qv, .inl (cI, 256, .inl (jv)))] sz)) 0 0 (va_A [(h0, .inr (0, [.ref qc, .ref qs, .ref qv, .int (nI k)])), (qc, .inl (cI, 8, .inl (jc))), (qs, .inl (cI, 256, .inl (js))), (qv, .inl (cI, 256, .inl (jv)))] sz) := by
  refine Met.ofW (cc := cX0_carryForward) (maxL := 2) (ret := none) (by decide) rfl ?_
  intro p e s m args below meth c s₁ B hml hv
  obtain ⟨rfl, hsz, hP, hK, hD0⟩ := hv
  have hx := B.exec
  have hb := B.bytes
  have hr := B.returns
  have hts := atoms_spec (ws := wsX0_carryForward) B.pre
  have hown : s.vm.findClass RX0 = some m.cls := findClass_of_methodNamed B.named
  have hlocks := B.notSynchronized
  subst hsz
  have hD := hD0.self (sz := s.heap.size)
  generalize hAe : va_A [(h0, .inr (0, [.ref qc, .ref qs, .ref qv, .int (nI k)])), (qc, .inl (cI, 8, .inl (jc))), (qs, .inl (cI, 256, .inl (js))), (qv, .inl (cI, 256, .inl (jv)))] s.heap.size = A at hD ⊢
  have hA : ∀ q : Nat, s.heap.size ≤ q → A q := fun q h => by rw [← hAe]; exact Or.inr h
  have hS : va_S A s.heap s.heap [] := va_S.rf
  have hl := lv_entry ([.ref h0]) (n := 2) (Nat.le_of_ble_eq_true rfl)
  rw [lg_entry_eq]
  generalize (lg_sl ([.ref h0]) ++ List.replicate (2 - (lg_sl ([.ref h0])).length) Slot.unset).toArray = ls at hl ⊢
  have hl : lv_has ls 2 [(0, .ref h0)] := hl
  have hiX0 : ∀ w ∈ wsX00, w ∈ wsX0_carryForward := fun w h => List.mem_cons_of_mem _ (List.mem_append_right _ h)
  have hP : va_P (dC, dI) vwCl [(h0, .inr (0, [.ref qc, .ref qs, .ref qv, .int (nI k)])), (qc, .inl (cI, 8, .inl (jc))), (qs, .inl (cI, 256, .inl (js))), (qv, .inl (cI, 256, .inl (jv)))] s.heap := hP
  refine y_enter (A := A) hP (fun H hP hS => ?_)
  refine lv_iconst (v := 0) hx hb dX0_carryForward_0 (by decide) ?_
  refine lv_istore_n (lv' := [(1, .int 0), (0, .ref h0)]) hx hb dX0_carryForward_1 rfl hl (by decide) rfl (fun ls hl => ?_)
  refine y_loop (fun k9 H locs ls => ∃ (i : Nat), k9 + i = k ∧ va_P (dC, dI) vwCl [(h0, .inr (0, [.ref qc, .ref qs, .ref qv, .int (nI k)])), (qc, .inl (cI, 8, .inl (crr jc js jv i))), (qs, .inl (cI, 256, .inl (js))), (qv, .inl (cI, 256, .inl (jv)))] H ∧ va_D A [(h0, .inr (0, [.ref qc, .ref qs, .ref qv, .int (nI k)])), (qc, .inl (cI, 8, .inl (crr jc js jv i))), (qs, .inl (cI, 256, .inl (js))), (qv, .inl (cI, 256, .inl (jv)))] ∧ va_S A s.heap H locs ∧ lv_has ls 2 [(1, .int (nI i)), (0, .ref h0)]) (k) ⟨0, by omega, hP, hD, hS, lv_sub hl [0, 1] rfl⟩ (fun k9 H locs ls hI ih => ?_)
  obtain ⟨i, hf0, hP, hD, hS, hl⟩ := hI
  refine lv_iload_n hx hb dX0_carryForward_2 rfl (lv_at hl 0 rfl) ?_
  refine lv_aload_n hx hb dX0_carryForward_3 rfl (lv_at hl 1 rfl) ?_
  refine va_get (D := (dC, dI)) (ci := 0) (v := .int (nI k)) (C := RX0) (T := TX0) (N := 4) hx hb hts hiX0 hown hK hP 0 rfl rfl 3 (by decide) (hts (.fieldLink RX0 21 "Payoutnet$Journal" "count" "I") (List.mem_of_getElem? (i := 1) rfl)) (fun _ h9 => h9) rfl dX0_carryForward_4 ?_
  refine lv_icmp_ge (tgt := 36) hx hb dX0_carryForward_7 (by decide) (fun c_1 => ?_) (fun c_1 => ?_)
  · have hik : i = k := by have := (nI_leI (a := k) (b := i) (by omega) (by omega)).mp c_1; omega
    subst hik
    skip
    refine lv_aload_n hx hb dX0_carryForward_36 rfl (lv_at hl 1 rfl) ?_
    refine lv_iconst (v := 0) hx hb dX0_carryForward_37 (by decide) ?_
    refine va_put (D := (dC, dI)) (ci := 0) (v := .int 0) (ty := .int) (C := RX0) (T := TX0) (N := 4) hx hb hts hiX0 tyX0 tyX0_ok nmX0 hown hK hP hD hS 0 rfl rfl 3 (by decide) (hts (.fieldLink RX0 21 "Payoutnet$Journal" "count" "I") (List.mem_of_getElem? (i := 1) rfl)) (fun _ h9 => h9) rfl (tyX0_ok 3 (by decide)) rfl rfl (Nat.le_of_ble_eq_true rfl) dX0_carryForward_38 (fun H locs hP hD hS => ?_)
    have hP : va_P (dC, dI) vwCl [(h0, .inr (0, [.ref qc, .ref qs, .ref qv, .int 0])), (qc, .inl (cI, 8, .inl (crr jc js jv i))), (qs, .inl (cI, 256, .inl (js))), (qv, .inl (cI, 256, .inl (jv)))] H := hP
    have hD : va_D A [(h0, .inr (0, [.ref qc, .ref qs, .ref qv, .int 0])), (qc, .inl (cI, 8, .inl (crr jc js jv i))), (qs, .inl (cI, 256, .inl (js))), (qv, .inl (cI, 256, .inl (jv)))] := hD
    have hP9 := hP
    have hD9 := hD
    have hK9 := hK
    exact W.vret hx hb hr (fun t ht hW => ⟨⟨(), rfl, trivial, atW_end hP9 hD9 hK9 ht hW⟩, hS.F ht⟩) hS.2.2 dX0_carryForward_41
  · have hik : i < k := Nat.lt_of_not_le (fun h => c_1 ((nI_leI (a := k) (b := i) (by omega) (by omega)).mpr h))
    obtain ⟨z, hz, ez⟩ := hj i hik
    refine lv_aload_n hx hb dX0_carryForward_10 rfl (lv_at hl 1 rfl) ?_
    refine va_get (D := (dC, dI)) (ci := 0) (v := .ref qc) (C := RX0) (T := TX0) (N := 4) hx hb hts hiX0 hown hK hP 0 rfl rfl 0 (by decide) (hts (.fieldLink RX0 9 "Payoutnet$Journal" "carried" "[I") (List.mem_of_getElem? (i := 2) rfl)) (fun _ h9 => h9) rfl dX0_carryForward_11 ?_
    refine lv_aload_n hx hb dX0_carryForward_14 rfl (lv_at hl 1 rfl) ?_
    refine va_get (D := (dC, dI)) (ci := 0) (v := .ref qs) (C := RX0) (T := TX0) (N := 4) hx hb hts hiX0 hown hK hP 0 rfl rfl 1 (by decide) (hts (.fieldLink RX0 15 "Payoutnet$Journal" "seller" "[I") (List.mem_of_getElem? (i := 3) rfl)) (fun _ h9 => h9) rfl dX0_carryForward_15 ?_
    refine lv_iload_n hx hb dX0_carryForward_18 rfl (lv_at hl 0 rfl) ?_
    refine y_ild hx hb hK hP 2 0 rfl rfl (t := i) (by omega) (Nat.le_of_ble_eq_true rfl) dX0_carryForward_19 ?_
    refine y_topi (y := nI z) ez ?_
    refine lv_dup2_11 hx hb dX0_carryForward_20 rfl rfl ?_
    refine y_ild hx hb hK hP 1 0 rfl rfl (t := z) (by omega) (Nat.le_of_ble_eq_true rfl) dX0_carryForward_21 ?_
    refine lv_aload_n hx hb dX0_carryForward_22 rfl (lv_at hl 1 rfl) ?_
    refine va_get (D := (dC, dI)) (ci := 0) (v := .ref qv) (C := RX0) (T := TX0) (N := 4) hx hb hts hiX0 hown hK hP 0 rfl rfl 2 (by decide) (hts (.fieldLink RX0 18 "Payoutnet$Journal" "cents" "[I") (List.mem_of_getElem? (i := 4) rfl)) (fun _ h9 => h9) rfl dX0_carryForward_23 ?_
    refine lv_iload_n hx hb dX0_carryForward_26 rfl (lv_at hl 0 rfl) ?_
    refine y_ild hx hb hK hP 3 0 rfl rfl (t := i) (by omega) (Nat.le_of_ble_eq_true rfl) dX0_carryForward_27 ?_
    refine lv_iadd hx hb dX0_carryForward_28 ?_
    refine y_ist hx hb hK hP hD hS 1 0 rfl rfl (t := z) (by omega) (Nat.le_of_ble_eq_true rfl) dX0_carryForward_29 (fun H locs hP hD hS => ?_)
    have hP : va_P (dC, dI) vwCl [(h0, .inr (0, [.ref qc, .ref qs, .ref qv, .int (nI k)])), (qc, .inl (cI, 8, .inl (upd (crr jc js jv i) z (((crr jc js jv i) z) + (jv i))))), (qs, .inl (cI, 256, .inl (js))), (qv, .inl (cI, 256, .inl (jv)))] H := hP
    have hD : va_D A [(h0, .inr (0, [.ref qc, .ref qs, .ref qv, .int (nI k)])), (qc, .inl (cI, 8, .inl (upd (crr jc js jv i) z (((crr jc js jv i) z) + (jv i))))), (qs, .inl (cI, 256, .inl (js))), (qv, .inl (cI, 256, .inl (jv)))] := hD
    refine lv_iinc (v := nI (i + 1)) (lv' := [(1, .int (nI (i + 1))), (0, .ref h0)]) hx hb dX0_carryForward_30 hl (k := 0) rfl (nI_1 i) (by decide) rfl (fun ls hl => ?_)
    have e9 : upd (crr jc js jv i) z (crr jc js jv i z + jv i) = crr jc js jv (i + 1) := by
      show _ = upd (crr jc js jv i) (js i).toNatClampNeg (crr jc js jv i (js i).toNatClampNeg + jv i)
      rw [ez, nI_clamp (by omega)]
    rw [e9] at hP hD
    refine lv_goto (tgt := 2) hx hb dX0_carryForward_33 (by decide) ?_
    exact ih (k9 - 1) H locs ls (by omega) ⟨i + 1, by omega, hP, hD, hS, lv_sub hl [0, 1] rfl⟩
set_option maxHeartbeats 4000000 in
set_option maxRecDepth 100000 in
theorem c_X0_sumOf (l : Launch) (dC : Nat → ClassId) (dI : Nat → Nat → Nat) (cI : ClassId) (h0 qc qs qv sz : Nat) (jc js jv : Nat → Int32) (k : Nat) (x : Nat) (hk : k ≤ 256) (hj : okJ js k) (hx8 : x < 8) : Met l yX0_sumOf wsX0_sumOf ({ frames := 0, cells := 0, slots := 0, locals := 0 } : Room) (va_Pc [.ref h0, .int (nI x)] (pcW dC dI [(cI, .int)] [(h0, .inr (0, [.ref qc, .ref qs, .ref qv, .int (nI k)])), (qc, .inl (cI, 8, .inl (jc))), (qs, .inl (cI, 256, .inl (js))), (qv, .inl (cI, 256, .inl (jv)))] sz)) (va_Qi (fun (r : Int32) (_ : Unit) => r = crr jc js jv k x) (fun _ t => atW dC dI [(cI, .int)] (va_A [(h0, .inr (0, [.ref qc, .ref qs, .ref qv, .int (nI k)])), (qc, .inl (cI, 8, .inl (jc))), (qs, .inl (cI, 256, .inl (js))), (qv, .inl (cI, 256, .inl (jv)))] sz) [(h0, .inr (0, [.ref qc, .ref qs, .ref qv, .int (nI k)])), (qc, .inl (cI, 8, .inl (jc))), (qs, .inl (cI, 256, .inl (js))), (qv, .inl (cI, 256, .inl (jv)))] t) (va_A [(h0, .inr (0, [.ref qc, .ref qs, .ref qv, .int (nI k)])), (qc, .inl (cI, 8, .inl (jc))), (qs, .inl (cI, 256, .inl (js))), (qv, .inl (cI, 256, .inl (jv)))] sz)) 0 0 (va_A [(h0, .inr (0, [.ref qc, .ref qs, .ref qv, .int (nI k)])), (qc, .inl (cI, 8, .inl (jc))), (qs, .inl (cI, 256, .inl (js))), (qv, .inl (cI, 256, .inl (jv)))] sz) := by
  refine Met.ofW (cc := cX0_sumOf) (maxL := 4) (ret := (some .int)) (by decide) rfl ?_
  intro p e s m args below meth c s₁ B hml hv
  obtain ⟨rfl, hsz, hP, hK, hD0⟩ := hv
  have hx := B.exec
  have hb := B.bytes
  have hr := B.returns
  have hts := atoms_spec (ws := wsX0_sumOf) B.pre
  have hown : s.vm.findClass RX0 = some m.cls := findClass_of_methodNamed B.named
  have hlocks := B.notSynchronized
  subst hsz
  have hD := hD0.self (sz := s.heap.size)
  generalize hAe : va_A [(h0, .inr (0, [.ref qc, .ref qs, .ref qv, .int (nI k)])), (qc, .inl (cI, 8, .inl (jc))), (qs, .inl (cI, 256, .inl (js))), (qv, .inl (cI, 256, .inl (jv)))] s.heap.size = A at hD ⊢
  have hA : ∀ q : Nat, s.heap.size ≤ q → A q := fun q h => by rw [← hAe]; exact Or.inr h
  have hS : va_S A s.heap s.heap [] := va_S.rf
  have hl := lv_entry ([.ref h0, .int (nI x)]) (n := 4) (Nat.le_of_ble_eq_true rfl)
  rw [lg_entry_eq]
  generalize (lg_sl ([.ref h0, .int (nI x)]) ++ List.replicate (4 - (lg_sl ([.ref h0, .int (nI x)])).length) Slot.unset).toArray = ls at hl ⊢
  have hl : lv_has ls 4 [(0, .ref h0), (1, .int (nI x))] := hl
  have hiX0 : ∀ w ∈ wsX00, w ∈ wsX0_sumOf := fun w h => List.mem_cons_of_mem _ (List.mem_append_right _ h)
  have hP : va_P (dC, dI) vwCl [(h0, .inr (0, [.ref qc, .ref qs, .ref qv, .int (nI k)])), (qc, .inl (cI, 8, .inl (jc))), (qs, .inl (cI, 256, .inl (js))), (qv, .inl (cI, 256, .inl (jv)))] s.heap := hP
  refine y_enter (A := A) hP (fun H hP hS => ?_)
  refine lv_aload_n hx hb dX0_sumOf_0 rfl (lv_at hl 0 rfl) ?_
  refine va_get (D := (dC, dI)) (ci := 0) (v := .ref qc) (C := RX0) (T := TX0) (N := 4) hx hb hts hiX0 hown hK hP 0 rfl rfl 0 (by decide) (hts (.fieldLink RX0 9 "Payoutnet$Journal" "carried" "[I") (List.mem_of_getElem? (i := 1) rfl)) (fun _ h9 => h9) rfl dX0_sumOf_1 ?_
  refine lv_iload_n hx hb dX0_sumOf_4 rfl (lv_at hl 1 rfl) ?_
  refine y_ild hx hb hK hP 1 0 rfl rfl (t := x) (by omega) (Nat.le_of_ble_eq_true rfl) dX0_sumOf_5 ?_
  refine lv_istore_n (lv' := [(2, .int (jc x)), (0, .ref h0), (1, .int (nI x))]) hx hb dX0_sumOf_6 rfl hl (by decide) rfl (fun ls hl => ?_)
  refine lv_iconst (v := 0) hx hb dX0_sumOf_7 (by decide) ?_
  refine lv_istore_n (lv' := [(3, .int 0), (2, .int (jc x)), (0, .ref h0), (1, .int (nI x))]) hx hb dX0_sumOf_8 rfl hl (by decide) rfl (fun ls hl => ?_)
  refine y_loop (fun k9 H locs ls => ∃ (i : Nat), k9 + i = k ∧ va_P (dC, dI) vwCl [(h0, .inr (0, [.ref qc, .ref qs, .ref qv, .int (nI k)])), (qc, .inl (cI, 8, .inl (jc))), (qs, .inl (cI, 256, .inl (js))), (qv, .inl (cI, 256, .inl (jv)))] H ∧ va_D A [(h0, .inr (0, [.ref qc, .ref qs, .ref qv, .int (nI k)])), (qc, .inl (cI, 8, .inl (jc))), (qs, .inl (cI, 256, .inl (js))), (qv, .inl (cI, 256, .inl (jv)))] ∧ va_S A s.heap H locs ∧ lv_has ls 4 [(3, .int (nI i)), (2, .int (crs jc js jv x i)), (1, .int (nI x)), (0, .ref h0)]) (k) ⟨0, by omega, hP, hD, hS, lv_sub hl [0, 1, 3, 2] rfl⟩ (fun k9 H locs ls hI ih => ?_)
  obtain ⟨i, hf0, hP, hD, hS, hl⟩ := hI
  refine lv_iload_n hx hb dX0_sumOf_9 rfl (lv_at hl 0 rfl) ?_
  refine lv_aload_n hx hb dX0_sumOf_10 rfl (lv_at hl 3 rfl) ?_
  refine va_get (D := (dC, dI)) (ci := 0) (v := .int (nI k)) (C := RX0) (T := TX0) (N := 4) hx hb hts hiX0 hown hK hP 0 rfl rfl 3 (by decide) (hts (.fieldLink RX0 21 "Payoutnet$Journal" "count" "I") (List.mem_of_getElem? (i := 2) rfl)) (fun _ h9 => h9) rfl dX0_sumOf_11 ?_
  refine lv_icmp_ge (tgt := 42) hx hb dX0_sumOf_14 (by decide) (fun c_1 => ?_) (fun c_1 => ?_)
  · have hik : i = k := by have := (nI_leI (a := k) (b := i) (by omega) (by omega)).mp c_1; omega
    refine lv_iload_n hx hb dX0_sumOf_42 rfl (lv_at hl 1 rfl) ?_
    have hP9 := hP
    have hD9 := hD
    have hK9 := hK
    exact W.iret (v := crs jc js jv x i) hx hb hr (fun t ht hW => ⟨⟨crs jc js jv x i, (), rfl, by rw [hik]; exact crs_eq hx8 k hj, atW_end hP9 hD9 hK9 ht hW⟩, hS.F ht⟩) hS.2.2 dX0_sumOf_43
  · have hik : i < k := Nat.lt_of_not_le (fun h => c_1 ((nI_leI (a := k) (b := i) (by omega) (by omega)).mpr h))
    refine lv_aload_n hx hb dX0_sumOf_17 rfl (lv_at hl 3 rfl) ?_
    refine va_get (D := (dC, dI)) (ci := 0) (v := .ref qs) (C := RX0) (T := TX0) (N := 4) hx hb hts hiX0 hown hK hP 0 rfl rfl 1 (by decide) (hts (.fieldLink RX0 15 "Payoutnet$Journal" "seller" "[I") (List.mem_of_getElem? (i := 3) rfl)) (fun _ h9 => h9) rfl dX0_sumOf_18 ?_
    refine lv_iload_n hx hb dX0_sumOf_21 rfl (lv_at hl 0 rfl) ?_
    refine y_ild hx hb hK hP 2 0 rfl rfl (t := i) (by omega) (Nat.le_of_ble_eq_true rfl) dX0_sumOf_22 ?_
    refine lv_iload_n hx hb dX0_sumOf_23 rfl (lv_at hl 2 rfl) ?_
    refine lv_icmp_ne (tgt := 36) hx hb dX0_sumOf_24 (by decide) (fun c_2 => ?_) (fun c_2 => ?_)
    · have e9 : crs jc js jv x (i + 1) = crs jc js jv x i := if_neg c_2
      rw [← e9] at hl
      refine lv_iinc (v := nI (i + 1)) (lv' := [(3, .int (nI (i + 1))), (2, .int (crs jc js jv x (i + 1))), (1, .int (nI x)), (0, .ref h0)]) hx hb dX0_sumOf_36 hl (k := 0) rfl (nI_1 i) (by decide) rfl (fun ls hl => ?_)
      refine lv_goto (tgt := 9) hx hb dX0_sumOf_39 (by decide) ?_
      exact ih (k9 - 1) H locs ls (by omega) ⟨i + 1, by omega, hP, hD, hS, lv_sub hl [0, 1, 2, 3] rfl⟩
    · have e9 : crs jc js jv x (i + 1) = crs jc js jv x i + jv i := if_pos c_2
      refine lv_iload_n hx hb dX0_sumOf_27 rfl (lv_at hl 1 rfl) ?_
      refine lv_aload_n hx hb dX0_sumOf_28 rfl (lv_at hl 3 rfl) ?_
      refine va_get (D := (dC, dI)) (ci := 0) (v := .ref qv) (C := RX0) (T := TX0) (N := 4) hx hb hts hiX0 hown hK hP 0 rfl rfl 2 (by decide) (hts (.fieldLink RX0 18 "Payoutnet$Journal" "cents" "[I") (List.mem_of_getElem? (i := 4) rfl)) (fun _ h9 => h9) rfl dX0_sumOf_29 ?_
      refine lv_iload_n hx hb dX0_sumOf_32 rfl (lv_at hl 0 rfl) ?_
      refine y_ild hx hb hK hP 3 0 rfl rfl (t := i) (by omega) (Nat.le_of_ble_eq_true rfl) dX0_sumOf_33 ?_
      refine lv_iadd hx hb dX0_sumOf_34 ?_
      refine y_topi (y := crs jc js jv x (i + 1)) e9.symm ?_
      refine lv_istore_n (lv' := [(2, .int (crs jc js jv x (i + 1))), (3, .int (nI i)), (1, .int (nI x)), (0, .ref h0)]) hx hb dX0_sumOf_35 rfl hl (by decide) rfl (fun ls hl => ?_)
      refine lv_iinc (v := nI (i + 1)) (lv' := [(3, .int (nI (i + 1))), (2, .int (crs jc js jv x (i + 1))), (1, .int (nI x)), (0, .ref h0)]) hx hb dX0_sumOf_36 hl (k := 1) rfl (nI_1 i) (by decide) rfl (fun ls hl => ?_)
      refine lv_goto (tgt := 9) hx hb dX0_sumOf_39 (by decide) ?_
      exact ih (k9 - 1) H locs ls (by omega) ⟨i + 1, by omega, hP, hD, hS, lv_sub hl [0, 1, 2, 3] rfl⟩
set_option maxHeartbeats 4000000 in
set_option maxRecDepth 100000 in
theorem c_X0_enter (l : Launch) (dC : Nat → ClassId) (dI : Nat → Nat → Nat) (cI : ClassId) (h0 qc qs qv sz : Nat) (jc js jv : Nat → Int32) (k : Nat) (z : Nat) (cv : Int32) (hk : k ≤ 256) (hj : okJ js k) (hz : z < 8) : Met l yX0_enter wsX0_enter ({ frames := 1, cells := 0, slots := 0, locals := 21 } : Room) (va_Pc [.ref h0, .int (nI z), .int cv] (pcW dC dI [(cI, .int)] [(h0, .inr (0, [.ref qc, .ref qs, .ref qv, .int (nI k)])), (qc, .inl (cI, 8, .inl (jc))), (qs, .inl (cI, 256, .inl (js))), (qv, .inl (cI, 256, .inl (jv)))] sz)) (va_Qv (fun u : (Nat → Int32) × (Nat → Int32) × (Nat → Int32) × Nat => u.2.2.2 ≤ 256 ∧ okJ u.2.1 u.2.2.2 ∧ crr u.1 u.2.1 u.2.2.1 u.2.2.2 = upd (crr jc js jv k) z (crr jc js jv k z + cv)) (fun u t => atW dC dI [(cI, .int)] (va_A [(h0, .inr (0, [.ref qc, .ref qs, .ref qv, .int (nI k)])), (qc, .inl (cI, 8, .inl (jc))), (qs, .inl (cI, 256, .inl (js))), (qv, .inl (cI, 256, .inl (jv)))] sz) [(h0, .inr (0, [.ref qc, .ref qs, .ref qv, .int (nI u.2.2.2)])), (qc, .inl (cI, 8, .inl (u.1))), (qs, .inl (cI, 256, .inl (u.2.1))), (qv, .inl (cI, 256, .inl (u.2.2.1)))] t) (va_A [(h0, .inr (0, [.ref qc, .ref qs, .ref qv, .int (nI k)])), (qc, .inl (cI, 8, .inl (jc))), (qs, .inl (cI, 256, .inl (js))), (qv, .inl (cI, 256, .inl (jv)))] sz)) 0 0 (va_A [(h0, .inr (0, [.ref qc, .ref qs, .ref qv, .int (nI k)])), (qc, .inl (cI, 8, .inl (jc))), (qs, .inl (cI, 256, .inl (js))), (qv, .inl (cI, 256, .inl (jv)))] sz) := by
  refine Met.ofW (cc := cX0_enter) (maxL := 3) (ret := none) (by decide) rfl ?_
  intro p e s m args below meth c s₁ B hml hv
  obtain ⟨rfl, hsz, hP, hK, hD0⟩ := hv
  have hx := B.exec
  have hb := B.bytes
  have hr := B.returns
  have hts := atoms_spec (ws := wsX0_enter) B.pre
  have hown : s.vm.findClass RX0 = some m.cls := findClass_of_methodNamed B.named
  have hlocks := B.notSynchronized
  subst hsz
  have hD := hD0.self (sz := s.heap.size)
  generalize hAe : va_A [(h0, .inr (0, [.ref qc, .ref qs, .ref qv, .int (nI k)])), (qc, .inl (cI, 8, .inl (jc))), (qs, .inl (cI, 256, .inl (js))), (qv, .inl (cI, 256, .inl (jv)))] s.heap.size = A at hD ⊢
  have hA : ∀ q : Nat, s.heap.size ≤ q → A q := fun q h => by rw [← hAe]; exact Or.inr h
  have hS : va_S A s.heap s.heap [] := va_S.rf
  have hl := lv_entry ([.ref h0, .int (nI z), .int cv]) (n := 3) (Nat.le_of_ble_eq_true rfl)
  rw [lg_entry_eq]
  generalize (lg_sl ([.ref h0, .int (nI z), .int cv]) ++ List.replicate (3 - (lg_sl ([.ref h0, .int (nI z), .int cv])).length) Slot.unset).toArray = ls at hl ⊢
  have hl : lv_has ls 3 [(0, .ref h0), (1, .int (nI z)), (2, .int cv)] := hl
  have hiX0 : ∀ w ∈ wsX00, w ∈ wsX0_enter := fun w h => List.mem_cons_of_mem _ (List.mem_append_right _ h)
  have hP : va_P (dC, dI) vwCl [(h0, .inr (0, [.ref qc, .ref qs, .ref qv, .int (nI k)])), (qc, .inl (cI, 8, .inl (jc))), (qs, .inl (cI, 256, .inl (js))), (qv, .inl (cI, 256, .inl (jv)))] s.heap := hP
  refine y_enter (A := A) hP (fun H hP hS => ?_)
  refine lv_iload_n hx hb dX0_enter_0 rfl (lv_at hl 2 rfl) ?_
  refine lv_if_ne (tgt := 5) hx hb dX0_enter_1 (by decide) (fun c_1 => ?_) (fun c_1 => ?_)
  · refine lv_aload_n hx hb dX0_enter_5 rfl (lv_at hl 0 rfl) ?_
    refine va_get (D := (dC, dI)) (ci := 0) (v := .int (nI k)) (C := RX0) (T := TX0) (N := 4) hx hb hts hiX0 hown hK hP 0 rfl rfl 3 (by decide) (hts (.fieldLink RX0 21 "Payoutnet$Journal" "count" "I") (List.mem_of_getElem? (i := 1) rfl)) (fun _ h9 => h9) rfl dX0_enter_6 ?_
    refine lv_sipush (v := 256) hx hb dX0_enter_9 (by decide) ?_
    refine lv_icmp_lt (tgt := 19) hx hb dX0_enter_12 (by decide) (fun c_2 => ?_) (fun c_2 => ?_)
    · have hk2 : k < 256 := (nI_ltI (a := k) (b := 256) (by omega) (by omega)).mp c_2
      refine lv_aload_n hx hb dX0_enter_19 rfl (lv_at hl 0 rfl) ?_
      refine va_get (D := (dC, dI)) (ci := 0) (v := .ref qs) (C := RX0) (T := TX0) (N := 4) hx hb hts hiX0 hown hK hP 0 rfl rfl 1 (by decide) (hts (.fieldLink RX0 15 "Payoutnet$Journal" "seller" "[I") (List.mem_of_getElem? (i := 2) rfl)) (fun _ h9 => h9) rfl dX0_enter_20 ?_
      refine lv_aload_n hx hb dX0_enter_23 rfl (lv_at hl 0 rfl) ?_
      refine va_get (D := (dC, dI)) (ci := 0) (v := .int (nI k)) (C := RX0) (T := TX0) (N := 4) hx hb hts hiX0 hown hK hP 0 rfl rfl 3 (by decide) (hts (.fieldLink RX0 21 "Payoutnet$Journal" "count" "I") (List.mem_of_getElem? (i := 1) rfl)) (fun _ h9 => h9) rfl dX0_enter_24 ?_
      refine lv_iload_n hx hb dX0_enter_27 rfl (lv_at hl 1 rfl) ?_
      refine y_ist hx hb hK hP hD hS 2 0 rfl rfl (t := k) (by omega) (Nat.le_of_ble_eq_true rfl) dX0_enter_28 (fun H locs hP hD hS => ?_)
      have hP : va_P (dC, dI) vwCl [(h0, .inr (0, [.ref qc, .ref qs, .ref qv, .int (nI k)])), (qc, .inl (cI, 8, .inl (jc))), (qs, .inl (cI, 256, .inl (upd js k (nI z)))), (qv, .inl (cI, 256, .inl (jv)))] H := hP
      have hD : va_D A [(h0, .inr (0, [.ref qc, .ref qs, .ref qv, .int (nI k)])), (qc, .inl (cI, 8, .inl (jc))), (qs, .inl (cI, 256, .inl (upd js k (nI z)))), (qv, .inl (cI, 256, .inl (jv)))] := hD
      refine lv_aload_n hx hb dX0_enter_29 rfl (lv_at hl 0 rfl) ?_
      refine va_get (D := (dC, dI)) (ci := 0) (v := .ref qv) (C := RX0) (T := TX0) (N := 4) hx hb hts hiX0 hown hK hP 0 rfl rfl 2 (by decide) (hts (.fieldLink RX0 18 "Payoutnet$Journal" "cents" "[I") (List.mem_of_getElem? (i := 3) rfl)) (fun _ h9 => h9) rfl dX0_enter_30 ?_
      refine lv_aload_n hx hb dX0_enter_33 rfl (lv_at hl 0 rfl) ?_
      refine va_get (D := (dC, dI)) (ci := 0) (v := .int (nI k)) (C := RX0) (T := TX0) (N := 4) hx hb hts hiX0 hown hK hP 0 rfl rfl 3 (by decide) (hts (.fieldLink RX0 21 "Payoutnet$Journal" "count" "I") (List.mem_of_getElem? (i := 1) rfl)) (fun _ h9 => h9) rfl dX0_enter_34 ?_
      refine lv_iload_n hx hb dX0_enter_37 rfl (lv_at hl 2 rfl) ?_
      refine y_ist hx hb hK hP hD hS 3 0 rfl rfl (t := k) (by omega) (Nat.le_of_ble_eq_true rfl) dX0_enter_38 (fun H locs hP hD hS => ?_)
      have hP : va_P (dC, dI) vwCl [(h0, .inr (0, [.ref qc, .ref qs, .ref qv, .int (nI k)])), (qc, .inl (cI, 8, .inl (jc))), (qs, .inl (cI, 256, .inl (upd js k (nI z)))), (qv, .inl (cI, 256, .inl (upd jv k cv)))] H := hP
      have hD : va_D A [(h0, .inr (0, [.ref qc, .ref qs, .ref qv, .int (nI k)])), (qc, .inl (cI, 8, .inl (jc))), (qs, .inl (cI, 256, .inl (upd js k (nI z)))), (qv, .inl (cI, 256, .inl (upd jv k cv)))] := hD
      refine lv_aload_n hx hb dX0_enter_39 rfl (lv_at hl 0 rfl) ?_
      refine lv_dup hx hb dX0_enter_40 rfl ?_
      refine va_get (D := (dC, dI)) (ci := 0) (v := .int (nI k)) (C := RX0) (T := TX0) (N := 4) hx hb hts hiX0 hown hK hP 0 rfl rfl 3 (by decide) (hts (.fieldLink RX0 21 "Payoutnet$Journal" "count" "I") (List.mem_of_getElem? (i := 1) rfl)) (fun _ h9 => h9) rfl dX0_enter_41 ?_
      refine lv_iconst (v := 1) hx hb dX0_enter_44 (by decide) ?_
      refine lv_iadd hx hb dX0_enter_45 ?_
      refine y_topi (y := nI (k + 1)) (nI_1 k) ?_
      refine va_put (D := (dC, dI)) (ci := 0) (v := .int (nI (k + 1))) (ty := .int) (C := RX0) (T := TX0) (N := 4) hx hb hts hiX0 tyX0 tyX0_ok nmX0 hown hK hP hD hS 0 rfl rfl 3 (by decide) (hts (.fieldLink RX0 21 "Payoutnet$Journal" "count" "I") (List.mem_of_getElem? (i := 1) rfl)) (fun _ h9 => h9) rfl (tyX0_ok 3 (by decide)) rfl rfl (Nat.le_of_ble_eq_true rfl) dX0_enter_46 (fun H locs hP hD hS => ?_)
      have hP : va_P (dC, dI) vwCl [(h0, .inr (0, [.ref qc, .ref qs, .ref qv, .int (nI (k + 1))])), (qc, .inl (cI, 8, .inl (jc))), (qs, .inl (cI, 256, .inl (upd js k (nI z)))), (qv, .inl (cI, 256, .inl (upd jv k cv)))] H := hP
      have hD : va_D A [(h0, .inr (0, [.ref qc, .ref qs, .ref qv, .int (nI (k + 1))])), (qc, .inl (cI, 8, .inl (jc))), (qs, .inl (cI, 256, .inl (upd js k (nI z)))), (qv, .inl (cI, 256, .inl (upd jv k cv)))] := hD
      have hP9 := hP
      have hD9 := hD
      have hK9 := hK
      exact W.vret hx hb hr (fun t ht hW => ⟨⟨(jc, upd js k (nI z), upd jv k cv, k + 1), rfl, ⟨Nat.succ_le_of_lt hk2, okJ_put hj hz, crr_put hz cv⟩, atW_end hP9 hD9 hK9 ht hW⟩, hS.F ht⟩) hS.2.2 dX0_enter_49
    · have hk2 : k = 256 := Nat.le_antisymm hk (Nat.le_of_not_lt (fun h => c_2 ((nI_ltI (a := k) (b := 256) (by omega) (by omega)).mpr h)))
      refine lv_aload_n hx hb dX0_enter_15 rfl (lv_at hl 0 rfl) ?_
      have hPc := hP.sub (ws' := [(h0, .inr (0, [.ref qc, .ref qs, .ref qv, .int (nI k)])), (qc, .inl (cI, 8, .inl (jc))), (qs, .inl (cI, 256, .inl (js))), (qv, .inl (cI, 256, .inl (jv)))]) [0, 1, 2, 3] rfl
      have hDc := hD.sub (ws' := [(h0, .inr (0, [.ref qc, .ref qs, .ref qv, .int (nI k)])), (qc, .inl (cI, 8, .inl (jc))), (qs, .inl (cI, 256, .inl (js))), (qv, .inl (cI, 256, .inl (jv)))]) [0, 1, 2, 3] (by decide) rfl
      have hFc := va_free (wc := [(h0, .inr (0, [.ref qc, .ref qs, .ref qv, .int (nI k)])), (qc, .inl (cI, 8, .inl (jc))), (qs, .inl (cI, 256, .inl (js))), (qv, .inl (cI, 256, .inl (jv)))]) hD hS hA [0, 1, 2, 3] rfl
      have hKc := hK.sub (tys' := [(cI, .int)]) [0] rfl
      refine va_callv (va_runV (As := []) (rest := []) ⟨hx, hb, hml, hown, hts⟩ (c_X0_carryForward l dC dI cI h0 qc qs qv H.size jc js jv k hk hj) (cwV 0 hts gX0_enter_X0_carryForward rfl rfl rfl (by decide +kernel) ⟨Nat.le_of_ble_eq_true rfl, Nat.le_of_ble_eq_true rfl⟩) ⟨pcW_blind, va_recv hKc hPc (ci := 0) (q0 := 0) rfl rfl, fun U hU hW => pcW_pre hPc hDc hKc hU hW⟩ rfl rfl hl.1 rfl (lv_room (Nat.le_of_ble_eq_true rfl)) dX0_enter_16 ⟨(Nat.zero_le _), (Nat.zero_le _)⟩) hS (fun q _ h => hFc q h) hFc (fun u t H1 locs ht hvm hw hB hz1 hk1 hS => ?_)
      obtain ⟨hP1, hK1, hD1⟩ := hB
      rw [ht] at hP1
      obtain ⟨hP, hD⟩ := va_join (wr := []) (w1 := [(h0, .inr (0, [.ref qc, .ref qs, .ref qv, .int (nI 0)])), (qc, .inl (cI, 8, .inl (crr jc js jv k))), (qs, .inl (cI, 256, .inl (js))), (qv, .inl (cI, 256, .inl (jv)))]) hP hD [0, 1, 2, 3] [] rfl rfl (by decide) (by decide) hk1 hFc hP1 hD1
      generalize H1 = H at hP hS ⊢
      have hP := hP.sub (ws' := [(h0, .inr (0, [.ref qc, .ref qs, .ref qv, .int (nI 0)])), (qc, .inl (cI, 8, .inl (crr jc js jv k))), (qs, .inl (cI, 256, .inl (js))), (qv, .inl (cI, 256, .inl (jv)))]) [0, 1, 2, 3] rfl
      have hD := hD.sub (ws' := [(h0, .inr (0, [.ref qc, .ref qs, .ref qv, .int (nI 0)])), (qc, .inl (cI, 8, .inl (crr jc js jv k))), (qs, .inl (cI, 256, .inl (js))), (qv, .inl (cI, 256, .inl (jv)))]) [0, 1, 2, 3] (by decide) rfl
      refine lv_aload_n hx hb dX0_enter_19 rfl (lv_at hl 0 rfl) ?_
      refine va_get (D := (dC, dI)) (ci := 0) (v := .ref qs) (C := RX0) (T := TX0) (N := 4) hx hb hts hiX0 hown hK hP 0 rfl rfl 1 (by decide) (hts (.fieldLink RX0 15 "Payoutnet$Journal" "seller" "[I") (List.mem_of_getElem? (i := 2) rfl)) (fun _ h9 => h9) rfl dX0_enter_20 ?_
      refine lv_aload_n hx hb dX0_enter_23 rfl (lv_at hl 0 rfl) ?_
      refine va_get (D := (dC, dI)) (ci := 0) (v := .int (nI 0)) (C := RX0) (T := TX0) (N := 4) hx hb hts hiX0 hown hK hP 0 rfl rfl 3 (by decide) (hts (.fieldLink RX0 21 "Payoutnet$Journal" "count" "I") (List.mem_of_getElem? (i := 1) rfl)) (fun _ h9 => h9) rfl dX0_enter_24 ?_
      refine lv_iload_n hx hb dX0_enter_27 rfl (lv_at hl 1 rfl) ?_
      refine y_ist hx hb hK hP hD hS 2 0 rfl rfl (t := 0) (by omega) (Nat.le_of_ble_eq_true rfl) dX0_enter_28 (fun H locs hP hD hS => ?_)
      have hP : va_P (dC, dI) vwCl [(h0, .inr (0, [.ref qc, .ref qs, .ref qv, .int (nI 0)])), (qc, .inl (cI, 8, .inl (crr jc js jv k))), (qs, .inl (cI, 256, .inl (upd js 0 (nI z)))), (qv, .inl (cI, 256, .inl (jv)))] H := hP
      have hD : va_D A [(h0, .inr (0, [.ref qc, .ref qs, .ref qv, .int (nI 0)])), (qc, .inl (cI, 8, .inl (crr jc js jv k))), (qs, .inl (cI, 256, .inl (upd js 0 (nI z)))), (qv, .inl (cI, 256, .inl (jv)))] := hD
      refine lv_aload_n hx hb dX0_enter_29 rfl (lv_at hl 0 rfl) ?_
      refine va_get (D := (dC, dI)) (ci := 0) (v := .ref qv) (C := RX0) (T := TX0) (N := 4) hx hb hts hiX0 hown hK hP 0 rfl rfl 2 (by decide) (hts (.fieldLink RX0 18 "Payoutnet$Journal" "cents" "[I") (List.mem_of_getElem? (i := 3) rfl)) (fun _ h9 => h9) rfl dX0_enter_30 ?_
      refine lv_aload_n hx hb dX0_enter_33 rfl (lv_at hl 0 rfl) ?_
      refine va_get (D := (dC, dI)) (ci := 0) (v := .int (nI 0)) (C := RX0) (T := TX0) (N := 4) hx hb hts hiX0 hown hK hP 0 rfl rfl 3 (by decide) (hts (.fieldLink RX0 21 "Payoutnet$Journal" "count" "I") (List.mem_of_getElem? (i := 1) rfl)) (fun _ h9 => h9) rfl dX0_enter_34 ?_
      refine lv_iload_n hx hb dX0_enter_37 rfl (lv_at hl 2 rfl) ?_
      refine y_ist hx hb hK hP hD hS 3 0 rfl rfl (t := 0) (by omega) (Nat.le_of_ble_eq_true rfl) dX0_enter_38 (fun H locs hP hD hS => ?_)
      have hP : va_P (dC, dI) vwCl [(h0, .inr (0, [.ref qc, .ref qs, .ref qv, .int (nI 0)])), (qc, .inl (cI, 8, .inl (crr jc js jv k))), (qs, .inl (cI, 256, .inl (upd js 0 (nI z)))), (qv, .inl (cI, 256, .inl (upd jv 0 cv)))] H := hP
      have hD : va_D A [(h0, .inr (0, [.ref qc, .ref qs, .ref qv, .int (nI 0)])), (qc, .inl (cI, 8, .inl (crr jc js jv k))), (qs, .inl (cI, 256, .inl (upd js 0 (nI z)))), (qv, .inl (cI, 256, .inl (upd jv 0 cv)))] := hD
      refine lv_aload_n hx hb dX0_enter_39 rfl (lv_at hl 0 rfl) ?_
      refine lv_dup hx hb dX0_enter_40 rfl ?_
      refine va_get (D := (dC, dI)) (ci := 0) (v := .int (nI 0)) (C := RX0) (T := TX0) (N := 4) hx hb hts hiX0 hown hK hP 0 rfl rfl 3 (by decide) (hts (.fieldLink RX0 21 "Payoutnet$Journal" "count" "I") (List.mem_of_getElem? (i := 1) rfl)) (fun _ h9 => h9) rfl dX0_enter_41 ?_
      refine lv_iconst (v := 1) hx hb dX0_enter_44 (by decide) ?_
      refine lv_iadd hx hb dX0_enter_45 ?_
      refine y_topi (y := nI 1) (nI_1 0) ?_
      refine va_put (D := (dC, dI)) (ci := 0) (v := .int (nI 1)) (ty := .int) (C := RX0) (T := TX0) (N := 4) hx hb hts hiX0 tyX0 tyX0_ok nmX0 hown hK hP hD hS 0 rfl rfl 3 (by decide) (hts (.fieldLink RX0 21 "Payoutnet$Journal" "count" "I") (List.mem_of_getElem? (i := 1) rfl)) (fun _ h9 => h9) rfl (tyX0_ok 3 (by decide)) rfl rfl (Nat.le_of_ble_eq_true rfl) dX0_enter_46 (fun H locs hP hD hS => ?_)
      have hP : va_P (dC, dI) vwCl [(h0, .inr (0, [.ref qc, .ref qs, .ref qv, .int (nI 1)])), (qc, .inl (cI, 8, .inl (crr jc js jv k))), (qs, .inl (cI, 256, .inl (upd js 0 (nI z)))), (qv, .inl (cI, 256, .inl (upd jv 0 cv)))] H := hP
      have hD : va_D A [(h0, .inr (0, [.ref qc, .ref qs, .ref qv, .int (nI 1)])), (qc, .inl (cI, 8, .inl (crr jc js jv k))), (qs, .inl (cI, 256, .inl (upd js 0 (nI z)))), (qv, .inl (cI, 256, .inl (upd jv 0 cv)))] := hD
      have hP9 := hP
      have hD9 := hD
      have hK9 := hK
      exact W.vret hx hb hr (fun t ht hW => ⟨⟨(crr jc js jv k, upd js 0 (nI z), upd jv 0 cv, 1), rfl, ⟨(by decide : 1 ≤ 256), okJ_put (k := 0) (fun i hi => absurd hi (Nat.not_lt_zero i)) hz, crr_put (k := 0) hz cv⟩, atW_end hP9 hD9 hK9 ht hW⟩, hS.F ht⟩) hS.2.2 dX0_enter_49
  · have hP9 := hP
    have hD9 := hD
    have hK9 := hK
    exact W.vret hx hb hr (fun t ht hW => ⟨⟨(jc, js, jv, k), rfl, ⟨hk, hj, by rw [c_1, upd_add0]⟩, atW_end hP9 hD9 hK9 ht hW⟩, hS.F ht⟩) hS.2.2 dX0_enter_4
end
section
/-! the state that class and reference stand for: rows of numbers.
Row 0: 0 sellers, 1 today, 2 tax, 3 sales, 4 payouts, 5 received, 6 refunded, 7 fees, 8 taxes.
1 owner, 2 step, 3 weekday, 4 least, 5 reserve's thousandths, 6 reserve's days, 7 balance, 8 paid (a place a seller); 9 shares in thousandths (a place a kind);
10 seller, 11 amount, 12 refunded, 13 share in thousandths, 14 tax, 15 fee taken, 16 fee given back, 17 held, 18 held until (a place a sale); 19 cents, 20 seller, 21 failed (a place a payout). -/
abbrev yA : Type := Nat → Nat → Int32
def put (a : yA) (i j : Nat) (v : Int32) : yA := fun i' => if i' = i then upd (a i') j v else a i'
theorem put_row (a : yA) (i j : Nat) (v : Int32) : put a i j v i = upd (a i) j v := by simp [put]
theorem put_oth (a : yA) {i i' : Nat} (j : Nat) (v : Int32) (h : i' ≠ i) : put a i j v i' = a i' := by simp [put, h]
theorem put_at (a : yA) (i j : Nat) (v : Int32) : put a i j v i j = v := by simp [put, upd]
theorem put_ne (a : yA) (i : Nat) {j j' : Nat} (v : Int32) (h : j' ≠ j) : put a i j v i j' = a i j' := by simp [put, upd, h]
def nn (x : Int32) : Nat := x.toNatClampNeg
theorem nn_nI {n : Nat} (h : n < 2 ^ 31) : nn (nI n) = n := nI_clamp h
/-- a whole number from 0 to b -/
def lim (x : Int32) (b : Nat) : Prop := x = nI (nn x) ∧ nn x ≤ b
theorem lim_nI {n b : Nat} (h : n ≤ b) (hb : b < 2 ^ 31) : lim (nI n) b := by
  unfold lim
  rw [nn_nI (by omega)]
  exact ⟨rfl, h⟩
theorem lim_mono {x : Int32} {b c : Nat} (h : lim x b) (hbc : b ≤ c) : lim x c := ⟨h.1, Nat.le_trans h.2 hbc⟩
/-- the limits of the rows that have one -/
def mx (i j : Nat) : Option Nat := match i with
  | 0 => match j with
    | 0 => some 8
    | 1 => some 5000
    | 2 => some 500
    | 3 => some 100
    | 4 => some 1024
    | _ => none
  | 2 => some 2
  | 5 => some 1000
  | 6 => some 180
  | 9 => some 999
  | 10 => some 7
  | 11 => some 1000000
  | 13 => some 999
  | 14 => some 500
  | 20 => some 7
  | _ => none
def okB (a : yA) : Prop := ∀ i j b, mx i j = some b → lim (a i j) b
theorem okB_put {a : yA} (h : okB a) {i j : Nat} {v : Int32} (hv : ∀ b, mx i j = some b → lim v b) : okB (put a i j v) := by
  intro i' j' b hb
  by_cases h1 : i' = i
  · subst h1
    by_cases h2 : j' = j
    · subst h2
      rw [put_at]
      exact hv b hb
    · rw [put_ne _ _ _ h2]
      exact h i' j' b hb
  · rw [put_oth _ _ _ h1]
    exact h i' j' b hb
theorem okB_free {a : yA} (h : okB a) {i j : Nat} {v : Int32} (hv : mx i j = none) : okB (put a i j v) := okB_put h (fun b hb => by rw [hv] at hb; cases hb)
/-- a row of the journal's sums stands beside it -/
def imin (x y : Int32) : Int32 := if y < x then y else x
def shF (k : Int32) : UInt32 := FP.fdiv (FP.i2f k) 1148846080
theorem shF_0 : shF 0 = 0 := by decide +kernel
def feeI (x k : Int32) : Int32 := FP.f2i (FP.fmul (FP.i2f x) (shF k))
theorem shF_upd (f : Nat → Int32) (t : Nat) (x : Int32) : vf_upd (fun j => shF (f j)) t (shF x) = fun j => shF (upd f t x j) := by
  funext j
  by_cases h : j = t <;> simp [vf_upd, upd, h]
/-- one entry of a seller -/
def sPost (a : yA) (z : Nat) (c : Int32) : yA := put a 7 z (a 7 z + c)
def slr (a : yA) (j : Nat) : Nat := nn (a 10 j)
/-- c of what the sale j holds goes to its seller's balance -/
def sRel (a : yA) (j : Nat) (c : Int32) : yA := sPost (put a 17 j (a 17 j - c)) (slr a j) c
def sRels (a : yA) : Nat → yA
  | 0 => a
  | j + 1 => if sRels a j 18 j = sRels a j 0 1 then sRel (sRels a j) j (sRels a j 17 j) else sRels a j
def sCovR (a : yA) (z : Nat) : Nat → yA
  | 0 => a
  | j + 1 => if sCovR a z j 7 z < 0 ∧ sCovR a z j 10 j = nI z then sRel (sCovR a z j) j (imin (sCovR a z j 17 j) (-(sCovR a z j 7 z))) else sCovR a z j
def sCovRs (a : yA) (n : Nat) : Nat → yA
  | 0 => a
  | z + 1 => sCovR (sCovRs a n z) z n
/-- c goes from the seller g to the seller z -/
def sGive (a : yA) (g z : Nat) (c : Int32) : yA := sPost (sPost a g (-c)) z c
def sCovO (a : yA) (z : Nat) : Nat → yA
  | 0 => a
  | g + 1 => if sCovO a z g 7 z < 0 ∧ sCovO a z g 1 g = sCovO a z g 1 z ∧ 0 < sCovO a z g 7 g then sGive (sCovO a z g) g z (imin (sCovO a z g 7 g) (-(sCovO a z g 7 z))) else sCovO a z g
def sCovOs (a : yA) (n : Nat) : Nat → yA
  | 0 => a
  | z + 1 => sCovO (sCovOs a n z) z n
def sDue (a : yA) (z : Nat) : Int32 := if a 2 z = 0 ∨ a 7 z < a 4 z then 0 else if a 2 z = 1 then imin (a 7 z) (100000 - a 8 z) else a 7 z
/-- a payout of c more -/
def sEnt (a : yA) (z : Nat) (c : Int32) : yA := put (put (put a 20 (nn (a 0 4)) (nI z)) 19 (nn (a 0 4)) c) 0 4 (a 0 4 + 1)
def sPayC (a : yA) (z : Nat) (c : Int32) : yA := sPost (put (sEnt a z c) 8 z (a 8 z + c)) z (-c)
def sPay (a : yA) (z : Nat) : yA := if 0 < sDue a z then sPayC a z (sDue a z) else a
def dow (x : Int32) : Int32 := x - x / 7 * 7
def sPays (a : yA) : Nat → yA
  | 0 => a
  | z + 1 => if sPays a z 3 z = dow (sPays a z 0 1) then sPay (sPays a z) z else sPays a z
def sNext (a : yA) : yA := put a 0 1 (a 0 1 + 1)
def sDay (a : yA) : yA :=
  sNext (sPays (sCovOs (sCovRs (sRels a (nn (a 0 3))) (nn (a 0 3)) (nn (a 0 0))) (nn (a 0 0)) (nn (a 0 0))) (nn (a 0 0)))
def sPass (a : yA) : Nat → yA
  | 0 => a
  | d + 1 => sDay (sPass a d)
/-- a sale settled: tax, fee, what is left, what is held -/
def sTax (a : yA) (x : Int32) : Int32 := x * a 0 2 / 1000
def sFee (a : yA) (k : Nat) (x : Int32) : Int32 := imin (feeI x (a 9 k)) (x - sTax a x)
def sLeft (a : yA) (k : Nat) (x : Int32) : Int32 := x - sTax a x - sFee a k x
def sHeld (a : yA) (z k : Nat) (x : Int32) : Int32 := sLeft a k x * a 5 z / 1000
def sSale (a : yA) (z k : Nat) (x : Int32) (n : Nat) : yA :=
  put (put (put (put (put (put (put (put (put (put (put a 10 n (nI z)) 11 n x) 0 3 (a 0 3 + 1)) 13 n (a 9 k)) 14 n (a 0 2)) 15 n (sFee a k x)) 17 n (sHeld a z k x)) 18 n (a 0 1 + a 6 z)) 0 5 (a 0 5 + x)) 0 8 (a 0 8 + sTax a x)) 0 7 (a 0 7 + sFee a k x)
def sSettle (a : yA) (z k : Nat) (x : Int32) : yA := sPost (sSale a z k x (nn (a 0 3))) z (sLeft a k x - sHeld a z k x)
def cntB (set : Nat) : Nat → Nat
  | 0 => 0
  | z + 1 => cntB set z + (if set.testBit z then 1 else 0)
/-- an order's sales, of the sellers below z: ev each, one more for the first rm -/
def sOrd (a : yA) (set k ev rm : Nat) : Nat → yA
  | 0 => a
  | z + 1 => if set.testBit z = true ∧ 0 < (if cntB set z < rm then ev + 1 else ev) then sSettle (sOrd a set k ev rm z) z k (nI (if cntB set z < rm then ev + 1 else ev)) else sOrd a set k ev rm z
def sBackT (a : yA) (j : Nat) (x : Int32) : Int32 := x * a 14 j / 1000
def sBackF (a : yA) (j : Nat) (x : Int32) (fb : Bool) : Int32 := if fb then imin (feeI x (a 13 j)) (a 15 j - a 16 j) else 0
def sRefC (a : yA) (j : Nat) (x : Int32) (fb : Bool) : yA :=
  put (put (put (put (put a 12 j (a 12 j + x)) 16 j (a 16 j + sBackF a j x fb)) 0 6 (a 0 6 + x)) 0 8 (a 0 8 - sBackT a j x)) 0 7 (a 0 7 - sBackF a j x fb)
def sRefund (a : yA) (j : Nat) (x : Int32) (fb : Bool) : yA := sPost (sRefC a j x fb) (slr a j) (sBackT a j x + sBackF a j x fb - x)
def sFail (a : yA) (i : Nat) : yA := sPost (put (put a 21 i 1) 8 (nn (a 20 i)) (a 8 (nn (a 20 i)) - a 19 i)) (nn (a 20 i)) (a 19 i)
def sHsum (a : yA) (z : Nat) : Nat → Int32
  | 0 => 0
  | j + 1 => if a 10 j = nI z then sHsum a z j + a 17 j else sHsum a z j
def capOf (m : Nat) : Nat := if m ≤ 32 then 32 else if m ≤ 64 then 64 else if m ≤ 128 then 128 else if m ≤ 256 then 256 else if m ≤ 512 then 512 else 1024
theorem capOf_mono {m n : Nat} (h : m ≤ n) : capOf m ≤ capOf n := by
  unfold capOf
  repeat' split
  all_goals omega
theorem capOf_ge {m : Nat} (h : m ≤ 1024) : m ≤ capOf m := by
  unfold capOf
  repeat' split
  all_goals omega
theorem capOf_le (m : Nat) : capOf m ≤ 1024 := by
  unfold capOf
  repeat' split
  all_goals omega
theorem capOf_32 (m : Nat) : 32 ≤ capOf m := by
  unfold capOf
  repeat' split
  all_goals omega
theorem capOf_grow {m : Nat} (h : capOf m ≤ m) (h2 : m < 1024) : m = capOf m ∧ capOf (m + 1) = capOf m * 2 := by
  unfold capOf at h ⊢
  repeat' split at h
  all_goals (repeat' split)
  all_goals omega
theorem capOf_stay {m : Nat} (h : m < capOf m) : capOf (m + 1) = capOf m := by
  unfold capOf at h ⊢
  repeat' split at h
  all_goals (repeat' split)
  all_goals omega
/-- the class's cells -/
abbrev WC (cI cF : ClassId) (h0 : Nat) (q : Nat → Nat) (a : yA) (jc js jv : Nat → Int32) (k n : Nat) : va_W :=
  [(h0, .inr (4, [.ref (q 1), .ref (q 10), .ref (q 18), .ref (q 22), .ref (q 26), .int (a 0 2), .int (a 0 1), .int (a 0 5), .int (a 0 6), .int (a 0 7), .int (a 0 8)])),
   (q 1, .inr (3, [.ref (q 2), .ref (q 3), .ref (q 4), .ref (q 5), .ref (q 6), .ref (q 7), .ref (q 8), .ref (q 9), .int (a 0 0)])),
   (q 2, .inl (cI, 8, .inl (a 1))), (q 3, .inl (cI, 8, .inl (a 2))), (q 4, .inl (cI, 8, .inl (a 3))), (q 5, .inl (cI, 8, .inl (a 4))),
   (q 6, .inl (cI, 8, .inl (a 5))), (q 7, .inl (cI, 8, .inl (a 6))), (q 8, .inl (cI, 8, .inl (a 7))), (q 9, .inl (cI, 8, .inl (a 8))),
   (q 10, .inr (2, [.ref (q 11), .ref (q 12), .ref (q 13), .ref (q 14), .ref (q 15), .ref (q 16), .ref (q 17), .int (a 0 3)])),
   (q 11, .inl (cI, 100, .inl (a 10))), (q 12, .inl (cF, 100, .inr (.inr (.inl (fun j => shF (a 13 j)))))), (q 13, .inl (cI, 100, .inl (a 14))),
   (q 14, .inl (cI, 100, .inl (fun j => a 11 j - a 12 j))), (q 15, .inl (cI, 100, .inl (fun j => a 15 j - a 16 j))), (q 16, .inl (cI, 100, .inl (a 17))), (q 17, .inl (cI, 100, .inl (a 18))),
   (q 18, .inr (1, [.ref (q 19), .ref (q 20), .ref (q 21), .int (a 0 4)])),
   (q 19, .inl (cI, n, .inl (a 20))), (q 20, .inl (cI, n, .inl (a 19))), (q 21, .inl (cI, n, .inl (a 21))),
   (q 22, .inr (0, [.ref (q 23), .ref (q 24), .ref (q 25), .int (nI k)])),
   (q 23, .inl (cI, 8, .inl (jc))), (q 24, .inl (cI, 256, .inl (js))), (q 25, .inl (cI, 256, .inl (jv))),
   (q 26, .inl (cF, 4, .inr (.inr (.inl (fun j => shF (a 9 j))))))]
/-- what the journal holds stands for the balances -/
def okC (a : yA) (jc js jv : Nat → Int32) (k : Nat) : Prop := k ≤ 256 ∧ okJ js k ∧ crr jc js jv k = a 7
def atC (dC : Nat → ClassId) (dI : Nat → Nat → Nat) (cI cF : ClassId) (A : Nat → Prop) (h0 : Nat) (a : yA) (t : State) : Prop :=
  ∃ (q : Nat → Nat) (jc js jv : Nat → Int32) (k : Nat), okC a jc js jv k ∧ atW dC dI [(cI, .int), (cF, .float)] A (WC cI cF h0 q a jc js jv k (capOf (nn (a 0 4)))) t
theorem atC_in {dC : Nat → ClassId} {dI : Nat → Nat → Nat} {cI cF : ClassId} {A : Nat → Prop} {h0 : Nat} {a : yA} {t : State} {q : Nat → Nat} {jc js jv : Nat → Int32} {k : Nat} (h : okC a jc js jv k) (hw : atW dC dI [(cI, .int), (cF, .float)] A (WC cI cF h0 q a jc js jv k (capOf (nn (a 0 4)))) t) : atC dC dI cI cF A h0 a t := ⟨q, jc, js, jv, k, h, hw⟩
/-- the reference's cells -/
abbrev WM (cI cF cZ : ClassId) (h0 : Nat) (q : Nat → Nat) (a : yA) (th : Int32) : va_W :=
  [(h0, .inr (5, [.int th, .int (a 0 0), .int (a 0 1), .ref (q 1), .ref (q 2), .ref (q 3), .ref (q 4), .ref (q 5), .ref (q 6), .ref (q 7), .ref (q 8), .ref (q 9), .int (a 0 2), .int (a 0 3), .ref (q 10), .ref (q 11), .ref (q 12), .ref (q 13), .ref (q 14), .ref (q 15), .ref (q 16), .ref (q 17), .ref (q 18), .int (a 0 4), .ref (q 19), .ref (q 20), .ref (q 21), .int (a 0 5), .int (a 0 6), .int (a 0 7), .int (a 0 8)])),
   (q 1, .inl (cI, 8, .inl (a 1))), (q 2, .inl (cI, 8, .inl (a 2))), (q 3, .inl (cI, 8, .inl (a 3))), (q 4, .inl (cI, 8, .inl (a 4))),
   (q 5, .inl (cI, 8, .inl (a 5))), (q 6, .inl (cI, 8, .inl (a 6))), (q 7, .inl (cI, 8, .inl (a 7))), (q 8, .inl (cI, 8, .inl (a 8))),
   (q 9, .inl (cF, 4, .inr (.inr (.inl (fun j => shF (a 9 j)))))),
   (q 10, .inl (cI, 100, .inl (a 10))), (q 11, .inl (cI, 100, .inl (a 11))), (q 12, .inl (cI, 100, .inl (a 12))),
   (q 13, .inl (cF, 100, .inr (.inr (.inl (fun j => shF (a 13 j)))))), (q 14, .inl (cI, 100, .inl (a 14))),
   (q 15, .inl (cI, 100, .inl (a 15))), (q 16, .inl (cI, 100, .inl (a 16))), (q 17, .inl (cI, 100, .inl (a 17))), (q 18, .inl (cI, 100, .inl (a 18))),
   (q 19, .inl (cI, 2000, .inl (a 19))), (q 20, .inl (cI, 2000, .inl (a 20))), (q 21, .inl (cZ, 2000, .inl (a 21)))]
def atM (dC : Nat → ClassId) (dI : Nat → Nat → Nat) (cI cF cZ : ClassId) (A : Nat → Prop) (h0 : Nat) (q : Nat → Nat) (a : yA) (th : Int32) (t : State) : Prop :=
  atW dC dI [(cI, .int), (cF, .float), (cZ, .boolean)] A (WM cI cF cZ h0 q a th) t
end
section
/-! which rows stay, and that the limits stay -/
theorem sPost_oth (a : yA) (z : Nat) (c : Int32) {i : Nat} (h : i ≠ 7) : sPost a z c i = a i := put_oth a z _ h
theorem sRel_oth (a : yA) (j : Nat) (c : Int32) {i : Nat} (h : i ≠ 7) (h2 : i ≠ 17) : sRel a j c i = a i := by
  unfold sRel
  rw [sPost_oth _ _ _ h, put_oth _ _ _ h2]
theorem sRels_oth (a : yA) (n : Nat) {i : Nat} (h : i ≠ 7) (h2 : i ≠ 17) : sRels a n i = a i := by
  induction n with
  | zero => rfl
  | succ n ih =>
    show (if _ then _ else _ : yA) i = a i
    split
    · rw [sRel_oth _ _ _ h h2, ih]
    · exact ih
theorem sCovR_oth (a : yA) (z n : Nat) {i : Nat} (h : i ≠ 7) (h2 : i ≠ 17) : sCovR a z n i = a i := by
  induction n with
  | zero => rfl
  | succ n ih =>
    show (if _ then _ else _ : yA) i = a i
    split
    · rw [sRel_oth _ _ _ h h2, ih]
    · exact ih
theorem sCovRs_oth (a : yA) (m n : Nat) {i : Nat} (h : i ≠ 7) (h2 : i ≠ 17) : sCovRs a m n i = a i := by
  induction n with
  | zero => rfl
  | succ n ih =>
    show sCovR _ _ _ i = a i
    rw [sCovR_oth _ _ _ h h2, ih]
theorem sGive_oth (a : yA) (g z : Nat) (c : Int32) {i : Nat} (h : i ≠ 7) : sGive a g z c i = a i := by
  unfold sGive
  rw [sPost_oth _ _ _ h, sPost_oth _ _ _ h]
theorem sCovO_oth (a : yA) (z n : Nat) {i : Nat} (h : i ≠ 7) : sCovO a z n i = a i := by
  induction n with
  | zero => rfl
  | succ n ih =>
    show (if _ then _ else _ : yA) i = a i
    split
    · rw [sGive_oth _ _ _ _ h, ih]
    · exact ih
theorem sCovOs_oth (a : yA) (m n : Nat) {i : Nat} (h : i ≠ 7) : sCovOs a m n i = a i := by
  induction n with
  | zero => rfl
  | succ n ih =>
    show sCovO _ _ _ i = a i
    rw [sCovO_oth _ _ _ h, ih]
theorem sEnt_oth (a : yA) (z : Nat) (c : Int32) {i : Nat} (h0 : i ≠ 0) (h1 : i ≠ 19) (h2 : i ≠ 20) : sEnt a z c i = a i := by
  unfold sEnt
  rw [put_oth _ _ _ h0, put_oth _ _ _ h1, put_oth _ _ _ h2]
theorem sEnt_0 (a : yA) (z : Nat) (c : Int32) {j : Nat} (h : j ≠ 4) : sEnt a z c 0 j = a 0 j := by
  unfold sEnt
  rw [put_ne _ _ _ h, put_oth _ _ _ (by decide), put_oth _ _ _ (by decide)]
theorem sEnt_04 (a : yA) (z : Nat) (c : Int32) : sEnt a z c 0 4 = a 0 4 + 1 := by
  unfold sEnt
  rw [put_at]
theorem sPayC_oth (a : yA) (z : Nat) (c : Int32) {i : Nat} (h0 : i ≠ 0) (h7 : i ≠ 7) (h8 : i ≠ 8) (h1 : i ≠ 19) (h2 : i ≠ 20) : sPayC a z c i = a i := by
  unfold sPayC
  rw [sPost_oth _ _ _ h7, put_oth _ _ _ h8, sEnt_oth _ _ _ h0 h1 h2]
theorem sPayC_0 (a : yA) (z : Nat) (c : Int32) {j : Nat} (h : j ≠ 4) : sPayC a z c 0 j = a 0 j := by
  unfold sPayC
  rw [sPost_oth _ _ _ (by decide), put_oth _ _ _ (by decide), sEnt_0 _ _ _ h]
theorem sPayC_04 (a : yA) (z : Nat) (c : Int32) : sPayC a z c 0 4 = a 0 4 + 1 := by
  unfold sPayC
  rw [sPost_oth _ _ _ (by decide), put_oth _ _ _ (by decide), sEnt_04]
theorem sPay_oth (a : yA) (z : Nat) {i : Nat} (h0 : i ≠ 0) (h7 : i ≠ 7) (h8 : i ≠ 8) (h1 : i ≠ 19) (h2 : i ≠ 20) : sPay a z i = a i := by
  unfold sPay
  split
  · exact sPayC_oth _ _ _ h0 h7 h8 h1 h2
  · rfl
theorem sPay_0 (a : yA) (z : Nat) {j : Nat} (h : j ≠ 4) : sPay a z 0 j = a 0 j := by
  unfold sPay
  split
  · exact sPayC_0 _ _ _ h
  · rfl
theorem sPays_oth (a : yA) (n : Nat) {i : Nat} (h0 : i ≠ 0) (h7 : i ≠ 7) (h8 : i ≠ 8) (h1 : i ≠ 19) (h2 : i ≠ 20) : sPays a n i = a i := by
  induction n with
  | zero => rfl
  | succ n ih =>
    show (if _ then _ else _ : yA) i = a i
    split
    · rw [sPay_oth _ _ h0 h7 h8 h1 h2, ih]
    · exact ih
theorem sPays_0 (a : yA) (n : Nat) {j : Nat} (h : j ≠ 4) : sPays a n 0 j = a 0 j := by
  induction n with
  | zero => rfl
  | succ n ih =>
    show (if _ then _ else _ : yA) 0 j = a 0 j
    split
    · rw [sPay_0 _ _ h, ih]
    · exact ih
theorem okB_post {a : yA} (h : okB a) (z : Nat) (c : Int32) : okB (sPost a z c) := okB_free h rfl
theorem okB_rel {a : yA} (h : okB a) (j : Nat) (c : Int32) : okB (sRel a j c) := okB_post (okB_free h rfl) _ _
theorem okB_rels {a : yA} (h : okB a) (n : Nat) : okB (sRels a n) := by
  induction n with
  | zero => exact h
  | succ n ih =>
    show okB (if _ then _ else _)
    split
    · exact okB_rel ih _ _
    · exact ih
theorem okB_covR {a : yA} (h : okB a) (z n : Nat) : okB (sCovR a z n) := by
  induction n with
  | zero => exact h
  | succ n ih =>
    show okB (if _ then _ else _)
    split
    · exact okB_rel ih _ _
    · exact ih
theorem okB_covRs {a : yA} (h : okB a) (m n : Nat) : okB (sCovRs a m n) := by
  induction n with
  | zero => exact h
  | succ n ih => exact okB_covR ih _ _
theorem okB_covO {a : yA} (h : okB a) (z n : Nat) : okB (sCovO a z n) := by
  induction n with
  | zero => exact h
  | succ n ih =>
    show okB (if _ then _ else _)
    split
    · exact okB_post (okB_post ih _ _) _ _
    · exact ih
theorem okB_covOs {a : yA} (h : okB a) (m n : Nat) : okB (sCovOs a m n) := by
  induction n with
  | zero => exact h
  | succ n ih => exact okB_covO ih _ _
theorem lim_inc {x : Int32} {b : Nat} (h : lim x b) (h2 : nn x + 1 ≤ b) (hb : b < 2 ^ 31) : lim (x + 1) b := by
  rw [h.1, nI_1]
  exact lim_nI h2 hb
theorem nn_inc {x : Int32} {b : Nat} (h : lim x b) (hb : b + 1 < 2 ^ 31) : nn (x + 1) = nn x + 1 := by
  rw [h.1, nI_1, nn_nI (by have := h.2; omega), nn_nI (by have := h.2; omega)]
theorem okB_ent {a : yA} (h : okB a) {z : Nat} (hz : z < 8) (c : Int32) (hm : nn (a 0 4) + 1 ≤ 1024) : okB (sEnt a z c) := by
  unfold sEnt
  refine okB_put (okB_free (okB_put h fun b hb => ?_) rfl) fun b hb => ?_
  · cases hb; exact lim_nI (by omega) (by omega)
  · cases hb; exact lim_inc (h 0 4 1024 rfl) hm (by omega)
theorem okB_payC {a : yA} (h : okB a) {z : Nat} (hz : z < 8) (c : Int32) (hm : nn (a 0 4) + 1 ≤ 1024) : okB (sPayC a z c) := okB_post (okB_free (okB_ent h hz c hm) rfl) _ _
theorem okB_pay {a : yA} (h : okB a) {z : Nat} (hz : z < 8) (hm : 0 < sDue a z → nn (a 0 4) + 1 ≤ 1024) : okB (sPay a z) := by
  unfold sPay
  split
  · exact okB_payC h hz _ (hm ‹_›)
  · exact h
/-- the payouts only grow in number -/
theorem sPay_mono {a : yA} (h : okB a) (z : Nat) : nn (a 0 4) ≤ nn (sPay a z 0 4) ∧ (0 < sDue a z → nn (sPay a z 0 4) = nn (a 0 4) + 1) := by
  unfold sPay
  split
  · rw [sPayC_04, nn_inc (h 0 4 1024 rfl) (by omega)]
    exact ⟨by omega, fun _ => rfl⟩
  · exact ⟨Nat.le_refl _, fun q => absurd q ‹_›⟩
/-- the payouts that a day's end makes find room -/
def payOK (a : yA) (n : Nat) : Prop := ∀ z, z < n → sPays a z 3 z = dow (sPays a z 0 1) → 0 < sDue (sPays a z) z → nn (sPays a z 0 4) + 1 ≤ 1024
theorem okB_pays {a : yA} (h : okB a) : ∀ n, n ≤ 8 → payOK a n → okB (sPays a n) ∧ nn (a 0 4) ≤ nn (sPays a n 0 4) := by
  intro n
  induction n with
  | zero => exact fun _ _ => ⟨h, Nat.le_refl _⟩
  | succ n ih =>
    intro hn hp
    obtain ⟨h1, h2⟩ := ih (by omega) (fun z hz => hp z (by omega))
    show okB (if _ then _ else _) ∧ nn (a 0 4) ≤ nn ((if _ then _ else _ : yA) 0 4)
    split
    · next hd => exact ⟨okB_pay h1 (by omega) (hp n (by omega) hd), Nat.le_trans h2 (sPay_mono h1 n).1⟩
    · exact ⟨h1, h2⟩
/-- the stages of a day's end -/
def sD1 (a : yA) : yA := sRels a (nn (a 0 3))
def sD2 (a : yA) : yA := sCovRs (sD1 a) (nn (a 0 3)) (nn (a 0 0))
def sD3 (a : yA) : yA := sCovOs (sD2 a) (nn (a 0 0)) (nn (a 0 0))
def sD4 (a : yA) : yA := sPays (sD3 a) (nn (a 0 0))
theorem sDay_eq (a : yA) : sDay a = sNext (sD4 a) := rfl
theorem sD3_oth (a : yA) {i : Nat} (h : i ≠ 7) (h2 : i ≠ 17) : sD3 a i = a i := by
  unfold sD3 sD2 sD1
  rw [sCovOs_oth _ _ _ h, sCovRs_oth _ _ _ h h2, sRels_oth _ _ h h2]
theorem okB_D3 {a : yA} (h : okB a) : okB (sD3 a) := okB_covOs (okB_covRs (okB_rels h _) _ _) _ _
/-- a day may end: its payouts find room, and the day after it is one -/
def dayOK (a : yA) : Prop := payOK (sD3 a) (nn (a 0 0)) ∧ nn (a 0 1) + 1 ≤ 5000
theorem okB_day {a : yA} (h : okB a) (hd : dayOK a) : okB (sDay a) ∧ nn (a 0 4) ≤ nn (sDay a 0 4) := by
  obtain ⟨h1, h2⟩ := okB_pays (okB_D3 h) (nn (a 0 0)) (h 0 0 8 rfl).2 hd.1
  rw [sD3_oth a (by decide) (by decide)] at h2
  refine ⟨okB_put h1 fun b hb => ?_, ?_⟩
  · cases hb
    have e : sD4 a 0 1 = a 0 1 := by
      unfold sD4
      rw [sPays_0 _ _ (by decide), sD3_oth a (by decide) (by decide)]
    show lim (sD4 a 0 1 + 1) 5000
    rw [e]
    exact lim_inc (h 0 1 5000 rfl) hd.2 (by omega)
  · show _ ≤ nn (sNext (sD4 a) 0 4)
    unfold sNext
    rw [put_ne _ _ _ (by decide)]
    exact h2
end
section
/-! floats: a fee is a whole number from 0 to the sum -/
theorem fp_tails : FP.Core.Fmt.tails FP.Core.b32 = 8388608 := by decide +kernel
theorem fp_exps : FP.Core.Fmt.exps FP.Core.b32 = 256 := by decide +kernel
theorem fp_qmin : FP.Core.Fmt.qmin FP.Core.b32 = -149 := by decide +kernel
theorem fp_qmax : FP.Core.Fmt.qmax FP.Core.b32 = 104 := by decide +kernel
theorem fp_de {k : Nat} {q : Int} (h1 : k < 16777216) (h2 : -149 ≤ q) (h3 : q ≤ 100) (h4 : q = -149 ∨ 8388608 ≤ k) :
    FP.Core.encode FP.Core.b32 (.fin false k q) < 2130706432 ∧ FP.Core.decode FP.Core.b32 (FP.Core.encode FP.Core.b32 (.fin false k q)) = .fin false k q := by
  unfold FP.Core.encode FP.Core.decode FP.Core.fieldE FP.Core.fieldT FP.Core.fieldS FP.Core.assemble
  simp only [fp_tails, fp_exps, fp_qmin, Bool.toNat_false]
  by_cases hk : k < 8388608
  · rw [if_pos hk]
    have hq : q = -149 := by omega
    subst hq
    refine ⟨by omega, ?_⟩
    rw [if_neg (by omega), if_pos (by omega)]
    have e1 : ((0 * 256 + 0) * 8388608 + k) % 8388608 = k := by omega
    have e2 : ((0 * 256 + 0) * 8388608 + k) / 8388608 / 256 % 2 = 0 := by omega
    rw [e1, e2]
    rfl
  · rw [if_neg hk]
    obtain ⟨n, hn⟩ : ∃ n : Nat, q = -149 + (n : Int) := ⟨(q + 149).toNat, by omega⟩
    subst hn
    have e0 : (-149 + (n : Int) - -149).toNat = n := by omega
    rw [e0]
    have hn2 : n ≤ 249 := by omega
    refine ⟨by omega, ?_⟩
    have e1 : ((0 * 256 + (n + 1)) * 8388608 + (k - 8388608)) % 8388608 = k - 8388608 := by omega
    have e2 : ((0 * 256 + (n + 1)) * 8388608 + (k - 8388608)) / 8388608 % 256 = n + 1 := by omega
    have e3 : ((0 * 256 + (n + 1)) * 8388608 + (k - 8388608)) / 8388608 / 256 % 2 = 0 := by omega
    rw [e1, e2, e3, if_neg (by omega), if_neg (by omega)]
    have e4 : 8388608 + (k - 8388608) = k := by omega
    have e5 : (-149 : Int) + (((n + 1 : Nat) : Int) - 1) = -149 + (n : Int) := by omega
    rw [e4, e5]
    rfl
theorem fp_n32 {n : Nat} (h : n < 2130706432) : vf_n32 (UInt32.ofNat n) := by
  unfold vf_n32
  rw [UInt32.le_iff_toNat_le, UInt32.toNat_and]
  have e : (UInt32.ofNat n).toNat = n := by simp; omega
  rw [e]
  exact Nat.le_trans Nat.and_le_left (by show n ≤ 2139095040; omega)
theorem fp_near {u v b : Nat} (hv : 0 < v) (h : u ≤ b * v) : FP.Core.nearest u v ≤ b := by
  have hm := Nat.div_add_mod u v
  have hl := Nat.mod_lt u hv
  have h1 : u / v ≤ b := (Nat.div_le_iff_le_mul_add_pred hv).mpr (by have := Nat.mul_comm b v; omega)
  have h2 : 0 < u % v → u / v + 1 ≤ b := by
    intro hp
    have : u / v < b := by
      apply Nat.lt_of_mul_lt_mul_left (a := v)
      have : v * b = b * v := Nat.mul_comm _ _
      omega
    exact this
  unfold FP.Core.nearest
  split
  · exact h1
  · split
    · exact h2 (by omega)
    · have : u / v % 2 < 2 := Nat.mod_lt _ (by decide)
      by_cases hz : u % v = 0
      · exfalso; omega
      · have := h2 (by omega); omega
theorem fp_nearge {u v b : Nat} (hv : 0 < v) (h : b * v ≤ u) : b ≤ FP.Core.nearest u v := by
  have h1 : b ≤ u / v := (Nat.le_div_iff_mul_le hv).mpr h
  unfold FP.Core.nearest
  split
  · exact h1
  · split <;> omega
theorem fp_lead {n : Nat} (h : n ≠ 0) : FP.Core.leading n 1 = (n.log2 : Int) := by
  unfold FP.Core.leading
  have h1 : Nat.log2 1 = 0 := by decide +kernel
  rw [h1]
  have h2 : 2 ^ n.log2 ≤ n := Nat.log2_self_le h
  have e1 : ((n.log2 : Int) - ((0 : Nat) : Int)).toNat = n.log2 := by omega
  have e2 : (-((n.log2 : Int) - ((0 : Nat) : Int))).toNat = 0 := by omega
  simp only [e1, e2]
  rw [if_pos (by omega)]
  omega
/-- a whole number below 2^20, as a float -/
theorem fp_i2f {x : Nat} (h0 : 1 ≤ x) (h1 : x ≤ 1000000) : ∃ s : Nat, 4 ≤ s ∧ s ≤ 23 ∧ x * 2 ^ s < 16777216 ∧ FP.Core.decode FP.Core.b32 (FP.i2f (nI x)).toNat = .fin false (x * 2 ^ s) (-(s : Int)) := by
  have hx : x ≠ 0 := by omega
  have hl : 2 ^ x.log2 ≤ x := Nat.log2_self_le hx
  have hu : x < 2 ^ (x.log2 + 1) := Nat.lt_log2_self
  have h19 : x.log2 ≤ 19 := by
    apply Nat.le_of_not_lt
    intro hc
    have : 2 ^ 20 ≤ 2 ^ x.log2 := Nat.pow_le_pow_right (by decide) hc
    omega
  obtain ⟨s, hs⟩ : ∃ s : Nat, s = 23 - x.log2 := ⟨_, rfl⟩
  have es : x.log2 + s = 23 := by omega
  have hb1 : x * 2 ^ s < 16777216 := by
    have : x * 2 ^ s < 2 ^ (x.log2 + 1) * 2 ^ s := Nat.mul_lt_mul_of_pos_right hu (Nat.two_pow_pos s)
    rw [← Nat.pow_add, show x.log2 + 1 + s = 24 by omega] at this
    exact this
  have hb2 : 8388608 ≤ x * 2 ^ s := by
    have : 2 ^ x.log2 * 2 ^ s ≤ x * 2 ^ s := Nat.mul_le_mul_right _ hl
    rw [← Nat.pow_add, es] at this
    exact this
  refine ⟨s, by omega, by omega, hb1, ?_⟩
  have hi : (nI x).toInt = (x : Int) := nI_toInt (by omega)
  have hr : FP.Core.round FP.Core.b32 (FP.Core.ofInt (nI x).toInt) = .fin false (x * 2 ^ s) (-(s : Int)) := by
    rw [hi]
    have e0 : FP.Core.ofInt (x : Int) = .fin false x 0 := by
      unfold FP.Core.ofInt
      rw [show decide ((x : Int) < 0) = false from decide_eq_false (by omega), Int.natAbs_natCast]
    rw [e0]
    show FP.Core.roundRatio FP.Core.b32 false x 1 0 = _
    unfold FP.Core.roundRatio FP.Core.roundAt
    rw [if_neg hx]
    have eq : FP.Core.quantum FP.Core.b32 x 1 0 = -(s : Int) := by
      unfold FP.Core.quantum
      rw [fp_lead hx, fp_qmin]
      show max (-149 : Int) ((x.log2 : Int) + 0 - ((24 : Nat) - 1 : Int)) = _
      omega
    rw [eq]
    have eu : FP.Core.unitsNum x 0 (-(s : Int)) = x * 2 ^ s := by
      unfold FP.Core.unitsNum
      rw [show ((0 : Int) - -(s : Int)).toNat = s by omega]
    have ev : FP.Core.unitsDen 1 0 (-(s : Int)) = 1 := by
      unfold FP.Core.unitsDen
      rw [show (-(s : Int) - 0).toNat = 0 by omega]
    rw [eu, ev]
    have en : FP.Core.nearest (x * 2 ^ s) 1 = x * 2 ^ s := by
      unfold FP.Core.nearest
      rw [if_pos (by omega), Nat.div_one]
    rw [en]
    unfold FP.Core.settle FP.Core.bound
    rw [if_pos (by show x * 2 ^ s < 2 ^ 24; omega), fp_qmax, if_pos (by omega)]
  show FP.Core.decode FP.Core.b32 (UInt32.ofNat (FP.Core.encode FP.Core.b32 (FP.Core.round FP.Core.b32 (FP.Core.ofInt (nI x).toInt)))).toNat = _
  rw [hr]
  obtain ⟨d1, d2⟩ := fp_de (k := x * 2 ^ s) (q := -(s : Int)) hb1 (by omega) (by omega) (Or.inr hb2)
  rw [show (UInt32.ofNat (FP.Core.encode FP.Core.b32 (.fin false (x * 2 ^ s) (-(s : Int))))).toNat = FP.Core.encode FP.Core.b32 (.fin false (x * 2 ^ s) (-(s : Int))) by simp; omega]
  exact d2
/-- the shares: below 1, not below 0 -/
def fp_okS (k : Nat) : Bool := match FP.Core.decode FP.Core.b32 (shF (nI k)).toNat with
  | .fin false c q => decide (c < 16777216) && decide (q ≤ -24) && decide (-149 ≤ q)
  | _ => false
theorem fp_shares : ∀ k, k < 1000 → fp_okS k = true := by decide +kernel
theorem fp_sh {k : Nat} (h : k ≤ 999) : ∃ (c r : Nat), c < 16777216 ∧ 24 ≤ r ∧ r ≤ 149 ∧ FP.Core.decode FP.Core.b32 (shF (nI k)).toNat = .fin false c (-(r : Int)) := by
  have h1 := fp_shares k (by omega)
  unfold fp_okS at h1
  split at h1
  · next c q e =>
    simp only [Bool.and_eq_true, decide_eq_true_eq] at h1
    exact ⟨c, (-q).toNat, h1.1.1, by omega, by omega, by rw [e, show -(((-q).toNat : Nat) : Int) = q by omega]⟩
  · cases h1
theorem shF_n {k : Nat} (h : k ≤ 999) : vf_n32 (shF (nI k)) := by
  have : ∀ k, k < 1000 → shF (nI k) &&& 0x7fffffff ≤ 0x7f800000 := by decide +kernel
  exact this k (by omega)
theorem fp_mul {x k : Nat} (h0 : 1 ≤ x) (h1 : x ≤ 1000000) (hk : k ≤ 999) : vf_n32 (FP.fmul (FP.i2f (nI x)) (shF (nI k))) ∧ ∃ f : Nat, f ≤ x ∧ feeI (nI x) (nI k) = nI f := by
  obtain ⟨s, hs1, hs2, hs3, hd1⟩ := fp_i2f h0 h1
  obtain ⟨d, r, hd, hr1, hr2, hd2⟩ := fp_sh hk
  have key : ∃ (M t : Nat), FP.Core.round FP.Core.b32 (FP.Core.exactProduct (.fin false (x * 2 ^ s) (-(s : Int))) (.fin false d (-(r : Int)))) = .fin false M (-(t : Int)) ∧ M < 16777216 ∧ t ≤ 149 ∧ (t = 149 ∨ 8388608 ≤ M) ∧ M ≤ x * 2 ^ t := by
    show ∃ (M t : Nat), FP.Core.roundRatio FP.Core.b32 (false != false) (x * 2 ^ s * d) 1 (-(s : Int) + -(r : Int)) = .fin false M (-(t : Int)) ∧ _
    unfold FP.Core.roundRatio
    by_cases hz : x * 2 ^ s * d = 0
    · rw [if_pos hz, fp_qmin]
      exact ⟨0, 149, rfl, by omega, by omega, Or.inl rfl, Nat.zero_le _⟩
    · rw [if_neg hz]
      unfold FP.Core.roundAt
      obtain ⟨N, hN⟩ : ∃ N, N = x * 2 ^ s * d := ⟨_, rfl⟩
      rw [← hN] at hz ⊢
      have hNu : N < 2 ^ 48 := by
        rw [hN]
        have := Nat.mul_lt_mul_of_le_of_lt (Nat.le_of_lt hs3) hd (by decide : 0 < 16777216)
        calc x * 2 ^ s * d < 16777216 * 16777216 := this
          _ = 2 ^ 48 := by decide
      have hl : 2 ^ N.log2 ≤ N := Nat.log2_self_le hz
      have hL : N.log2 ≤ 47 := by
        apply Nat.le_of_not_lt
        intro hc
        have : 2 ^ 48 ≤ 2 ^ N.log2 := Nat.pow_le_pow_right (by decide) hc
        omega
      obtain ⟨t, ht⟩ : ∃ t : Nat, FP.Core.quantum FP.Core.b32 N 1 (-(s : Int) + -(r : Int)) = -(t : Int) ∧ t ≤ 149 ∧ 4 ≤ t ∧ (t = 149 ∨ (t : Int) = (s : Int) + r + 23 - N.log2) ∧ (s : Int) + r + 23 - N.log2 ≥ t := by
        unfold FP.Core.quantum
        rw [fp_lead hz, fp_qmin]
        show ∃ t : Nat, max (-149 : Int) ((N.log2 : Int) + (-(s : Int) + -(r : Int)) - ((24 : Nat) - 1 : Int)) = -(t : Int) ∧ _
        by_cases hc : (N.log2 : Int) + (-(s : Int) + -(r : Int)) - 23 ≤ -149
        · exact ⟨149, by omega, by omega, by omega, Or.inl rfl, by omega⟩
        · refine ⟨((s : Int) + r + 23 - N.log2).toNat, by omega, by omega, by omega, Or.inr (by omega), by omega⟩
      obtain ⟨ht0, ht1, ht2, ht3, ht4⟩ := ht
      rw [ht0]
      have hv : 0 < FP.Core.unitsDen 1 (-(s : Int) + -(r : Int)) (-(t : Int)) := by
        unfold FP.Core.unitsDen
        rw [Nat.one_mul]
        exact Nat.two_pow_pos _
      have hdr : d ≤ 2 ^ r := Nat.le_trans (Nat.le_of_lt hd) (by show 2 ^ 24 ≤ 2 ^ r; exact Nat.pow_le_pow_right (by decide) hr1)
      have hle : FP.Core.unitsNum N (-(s : Int) + -(r : Int)) (-(t : Int)) ≤ x * 2 ^ t * FP.Core.unitsDen 1 (-(s : Int) + -(r : Int)) (-(t : Int)) := by
        unfold FP.Core.unitsNum FP.Core.unitsDen
        rw [Nat.one_mul]
        have hN2 : N ≤ x * 2 ^ (s + r) := by
          rw [hN, Nat.pow_add, ← Nat.mul_assoc]
          exact Nat.mul_le_mul_left _ hdr
        by_cases hc : s + r ≤ t
        · rw [show (-(t : Int) - (-(s : Int) + -(r : Int))).toNat = 0 by omega, show (-(s : Int) + -(r : Int) - -(t : Int)).toNat = t - (s + r) by omega, Nat.pow_zero, Nat.mul_one]
          calc N * 2 ^ (t - (s + r)) ≤ x * 2 ^ (s + r) * 2 ^ (t - (s + r)) := Nat.mul_le_mul_right _ hN2
            _ = x * 2 ^ t := by rw [Nat.mul_assoc, ← Nat.pow_add, show s + r + (t - (s + r)) = t by omega]
        · rw [show (-(t : Int) - (-(s : Int) + -(r : Int))).toNat = s + r - t by omega, show (-(s : Int) + -(r : Int) - -(t : Int)).toNat = 0 by omega, Nat.pow_zero, Nat.mul_one]
          calc N ≤ x * 2 ^ (s + r) := hN2
            _ = x * 2 ^ t * 2 ^ (s + r - t) := by rw [Nat.mul_assoc, ← Nat.pow_add, show t + (s + r - t) = s + r by omega]
      have hge : t = 149 ∨ 8388608 * FP.Core.unitsDen 1 (-(s : Int) + -(r : Int)) (-(t : Int)) ≤ FP.Core.unitsNum N (-(s : Int) + -(r : Int)) (-(t : Int)) := by
        rcases ht3 with h | h
        · exact Or.inl h
        · right
          unfold FP.Core.unitsNum FP.Core.unitsDen
          rw [Nat.one_mul]
          by_cases hc : s + r ≤ t
          · rw [show (-(t : Int) - (-(s : Int) + -(r : Int))).toNat = 0 by omega, show (-(s : Int) + -(r : Int) - -(t : Int)).toNat = 23 - N.log2 by omega, Nat.pow_zero, Nat.mul_one]
            calc 8388608 = 2 ^ N.log2 * 2 ^ (23 - N.log2) := by rw [← Nat.pow_add, show N.log2 + (23 - N.log2) = 23 by omega]
              _ ≤ N * 2 ^ (23 - N.log2) := Nat.mul_le_mul_right _ hl
          · rw [show (-(t : Int) - (-(s : Int) + -(r : Int))).toNat = N.log2 - 23 by omega, show (-(s : Int) + -(r : Int) - -(t : Int)).toNat = 0 by omega, Nat.pow_zero, Nat.mul_one]
            calc 8388608 * 2 ^ (N.log2 - 23) = 2 ^ N.log2 := by rw [show (8388608 : Nat) = 2 ^ 23 from rfl, ← Nat.pow_add, show 23 + (N.log2 - 23) = N.log2 by omega]
              _ ≤ N := hl
      have hup : FP.Core.unitsNum N (-(s : Int) + -(r : Int)) (-(t : Int)) ≤ 16777216 * FP.Core.unitsDen 1 (-(s : Int) + -(r : Int)) (-(t : Int)) := by
        have hu : N < 2 ^ (N.log2 + 1) := Nat.lt_log2_self
        unfold FP.Core.unitsNum FP.Core.unitsDen
        rw [Nat.one_mul]
        by_cases hc : s + r ≤ t
        · rw [show (-(t : Int) - (-(s : Int) + -(r : Int))).toNat = 0 by omega, show (-(s : Int) + -(r : Int) - -(t : Int)).toNat = t - (s + r) by omega, Nat.pow_zero, Nat.mul_one]
          calc N * 2 ^ (t - (s + r)) ≤ 2 ^ (N.log2 + 1) * 2 ^ (t - (s + r)) := Nat.mul_le_mul_right _ (Nat.le_of_lt hu)
            _ = 2 ^ (N.log2 + 1 + (t - (s + r))) := by rw [← Nat.pow_add]
            _ ≤ 2 ^ 24 := Nat.pow_le_pow_right (by decide) (by omega)
        · rw [show (-(t : Int) - (-(s : Int) + -(r : Int))).toNat = s + r - t by omega, show (-(s : Int) + -(r : Int) - -(t : Int)).toNat = 0 by omega, Nat.pow_zero, Nat.mul_one]
          calc N ≤ 2 ^ (N.log2 + 1) := Nat.le_of_lt hu
            _ ≤ 2 ^ (24 + (s + r - t)) := Nat.pow_le_pow_right (by decide) (by omega)
            _ = 16777216 * 2 ^ (s + r - t) := by rw [Nat.pow_add]
      have hM1 := fp_near hv hle
      have hM2 := fp_near hv hup
      obtain ⟨M, hM⟩ : ∃ M, M = FP.Core.nearest (FP.Core.unitsNum N (-(s : Int) + -(r : Int)) (-(t : Int))) (FP.Core.unitsDen 1 (-(s : Int) + -(r : Int)) (-(t : Int))) := ⟨_, rfl⟩
      rw [← hM] at hM1 hM2 ⊢
      have hMg : t = 149 ∨ 8388608 ≤ M := by
        rcases hge with h | h
        · exact Or.inl h
        · right; rw [hM]; exact fp_nearge hv h
      unfold FP.Core.settle FP.Core.bound
      rw [fp_qmax]
      by_cases hc : M < 16777216
      · rw [if_pos (by show M < 2 ^ 24; omega), if_pos (by omega)]
        exact ⟨M, t, rfl, hc, ht1, hMg, hM1⟩
      · rw [if_neg (by show ¬ M < 2 ^ 24; omega), if_pos (by omega)]
        have hM3 : M = 16777216 := by omega
        refine ⟨8388608, t - 1, by rw [fp_tails, show (-(t : Int) + 1) = -((t - 1 : Nat) : Int) by omega]; rfl, by omega, by omega, Or.inr (by omega), ?_⟩
        have : x * 2 ^ t = x * 2 ^ (t - 1) * 2 := by rw [Nat.mul_assoc, ← Nat.pow_succ, show (t - 1).succ = t by omega]
        omega
  obtain ⟨M, t, e, hM, ht, hMt, hMx⟩ := key
  obtain ⟨d1, d2⟩ := fp_de (k := M) (q := -(t : Int)) hM (by omega) (by omega) (hMt.imp (fun h => by omega) id)
  have em : FP.fmul (FP.i2f (nI x)) (shF (nI k)) = UInt32.ofNat (FP.Core.encode FP.Core.b32 (.fin false M (-(t : Int)))) := by
    show UInt32.ofNat (FP.Core.encode FP.Core.b32 (FP.Core.round FP.Core.b32 (FP.Core.exactProduct (FP.Core.decode FP.Core.b32 (FP.i2f (nI x)).toNat) (FP.Core.decode FP.Core.b32 (shF (nI k)).toNat)))) = _
    rw [hd1, hd2, e]
  refine ⟨by rw [em]; exact fp_n32 d1, M / 2 ^ t, ?_, ?_⟩
  · exact Nat.div_le_of_le_mul (by rw [Nat.mul_comm]; exact hMx)
  · unfold feeI
    rw [em]
    show FP.Core.toI (FP.Core.decode FP.Core.b32 (UInt32.ofNat _).toNat) = _
    rw [show (UInt32.ofNat (FP.Core.encode FP.Core.b32 (.fin false M (-(t : Int))))).toNat = FP.Core.encode FP.Core.b32 (.fin false M (-(t : Int))) by simp; omega, d2]
    have hle : M / 2 ^ t ≤ x := Nat.div_le_of_le_mul (by rw [Nat.mul_comm]; exact hMx)
    show Int32.ofInt (max (-2 ^ 31) (min (2 ^ 31 - 1) (FP.Core.truncate false M (-(t : Int))))) = _
    have et : FP.Core.truncate false M (-(t : Int)) = ((M / 2 ^ t : Nat) : Int) := by
      unfold FP.Core.truncate FP.Core.signed
      rw [show (-(t : Int)).toNat = 0 by omega, show (- -(t : Int)).toNat = t by omega, Nat.pow_zero, Nat.mul_one]
      rfl
    obtain ⟨w, hw⟩ : ∃ w, w = M / 2 ^ t := ⟨_, rfl⟩
    rw [← hw] at hle
    rw [et, ← hw]
    have hw2 : (w : Int) ≤ 2147483647 := by omega
    rw [show min ((2 : Int) ^ 31 - 1) (w : Int) = w from Int.min_eq_right hw2, show max (-(2 : Int) ^ 31) (w : Int) = w from Int.max_eq_right (by show (-2147483648 : Int) ≤ w; omega)]
    rfl
end
