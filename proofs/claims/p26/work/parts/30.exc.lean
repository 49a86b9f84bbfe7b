/-! what a method that throws needs, and leaves -/
def vStr : List (Nat × String) := [(47, "no such owner"), (58, "no more sellers"), (114, "no seller in the set"), (117, "a seller of the set is not there"), (130, "no such sale"), (135, "less than that is not refunded yet"), (174, "too many days"), (186, "it has failed"), (204, "no such seller"), (206, "no such kind"), (208, "no such payout"), (210, "out of range"), (212, "no more sales")]
abbrev exI : String := "java/lang/IndexOutOfBoundsException"
abbrev exS : String := "java/lang/IllegalStateException"
abbrev exA : String := "java/lang/IllegalArgumentException"
abbrev exN : List String := ["java/lang/RuntimeException", "java/lang/Exception"]
def vB : List Cond := [.castable exI exI, .castable exS exS, .castable exA exA, .declares (Bundle.initS "java/lang/RuntimeException"), .declares (Bundle.initS "java/lang/Exception"), .declares (Bundle.initS Bundle.tN)]
def okV (A : Nat → Prop) (U : State) : Prop := vx_Zq Bundle.tN "UNASSIGNED_STACK" Bundle.steD A U U.heap ∧ vx_Zq Bundle.tN "SUPPRESSED_SENTINEL" Bundle.listD A U U.heap ∧ (∀ w ∈ vB, va_Nw w U) ∧ ∀ x ∈ vStr, ∃ sa, vk_R RX4 x.1 x.2 sa U
theorem vB_cases {P : Cond → Prop} (h1 : ∀ a b, P (.castable a b)) (h2 : ∀ x, P (.declares x)) : ∀ w ∈ vB, P w := by
  intro w hw
  simp only [vB, List.mem_cons, List.not_mem_nil, or_false] at hw
  rcases hw with rfl | rfl | rfl | rfl | rfl | rfl
  · exact h1 _ _
  · exact h1 _ _
  · exact h1 _ _
  · exact h2 _
  · exact h2 _
  · exact h2 _
theorem okV_use {A : Nat → Prop} {s : State} {args : Array Value} (h : okV A s) : ∀ w ∈ vB, w.before args s = true := fun w hw =>
  vB_cases (P := fun w => w ∈ vB → w.before args s = true) (fun a b hm => va_any rfl (h.2.2.1 _ hm)) (fun x hm => va_any rfl (h.2.2.1 _ hm)) w hw hw
theorem okV_calling {A : Nat → Prop} {U : State} (h : okV A U) (g : JFrame) (mk : MethodId) (a : Array Value) : okV A (U.calling g mk a) :=
  ⟨vx_Zq.moved (u := U) (U := U.calling g mk a) (Vm.Alike.refl U.vm) h.1, vx_Zq.moved (u := U) (U := U.calling g mk a) (Vm.Alike.refl U.vm) h.2.1,
   fun w hw => vB_cases (P := fun w => w ∈ vB → va_Nw w (U.calling g mk a)) (fun x y hm => va_Nw.same (u := U) rfl rfl (h.2.2.1 _ hm)) (fun x hm => va_Nw.same (u := U) rfl rfl (h.2.2.1 _ hm)) w hw hw,
   fun x hx => (h.2.2.2 x hx).elim fun sa hsa => ⟨sa, vk_R.same (u := U) rfl hsa⟩⟩
theorem okV_at {A B : Nat → Prop} {s U : State} {H : Heap} {locs : List Loc} (h : okV A s) (hS : va_S A s.heap H locs) (hAB : ∀ q, B q → A q) (hU : U.heap = H) (hW : s.WarmedH U.vm) : okV B U :=
  ⟨((vx_Zq.moved hW.alike h.1).kept (H1 := U.heap) (fun a h1 h2 => by rw [hU]; exact hS.2.1 a h1 h2)).narrow hAB, ((vx_Zq.moved hW.alike h.2.1).kept (H1 := U.heap) (fun a h1 h2 => by rw [hU]; exact hS.2.1 a h1 h2)).narrow hAB,
   fun w hw => vB_cases (P := fun w => w ∈ vB → va_Nw w U) (fun x y hm => va_Nw.warmC hW (h.2.2.1 _ hm)) (fun x hm => va_Nw.warmD hW (h.2.2.1 _ hm)) w hw hw,
   fun x hx => (h.2.2.2 x hx).elim fun sa hsa => ⟨sa, vk_R.warm hW hsa⟩⟩
def pcV (dC : Nat → ClassId) (dI : Nat → Nat → Nat) (tys : List (ClassId × FieldType)) (ws : va_W) (sz : Nat) (U : State) : Prop := pcW dC dI tys ws sz U ∧ okV (va_A ws sz) U
theorem pcV_blind {dC : Nat → ClassId} {dI : Nat → Nat → Nat} {tys : List (ClassId × FieldType)} {ws : va_W} {sz : Nat} {As : List Value} : FrameBlind (va_Pc As (pcV dC dI tys ws sz)) := fun a U g mk h => ⟨h.1, ⟨h.2.1.1, h.2.1.2.1, va_K.moved (u := U) (U := U.calling g mk a) (Vm.Alike.refl U.vm) h.2.1.2.2.1, h.2.1.2.2.2⟩, okV_calling h.2.2 g mk a⟩
theorem pcV_pre {dC : Nat → ClassId} {dI : Nat → Nat → Nat} {tys : List (ClassId × FieldType)} {ws : va_W} {s U : State} {H : Heap} {A A1 : Nat → Prop} {locs : List Loc} {As : List Value} (hP : va_P (dC, dI) vwCl ws H) (hD : va_D A1 ws) (hK : va_K (dC, dI) vwCl tys s) (hV : okV A s) (hS : va_S A s.heap H locs) (hF : ∀ q, va_A ws H.size q → A q) (hU : U.heap = H) (hW : s.WarmedH U.vm) : va_Pc As (pcV dC dI tys ws H.size) As.toArray U :=
  ⟨rfl, ⟨by rw [hU], by rw [hU]; exact hP, va_K.moved hW.alike hK, hD.weaken (fun _ _ _ _ => trivial)⟩, okV_at hV hS hF hU hW⟩
theorem va_P_nil {D : va_G} {cl : List vw_C} {H : Heap} : va_P D cl [] H := fun k q h => by simp at h
theorem va_D_nil {A : Nat → Prop} : va_D A [] := ⟨fun i j p q h => by simp at h, fun k q h => by simp at h⟩
theorem va_A_nil {sz q : Nat} (h : va_A [] sz q) : sz ≤ q := h.elim (fun ⟨k, e, h⟩ => by simp at h) id
theorem y_keptE {D : va_G} {cl : List vw_C} {ws : va_W} {H H1 : Heap} (hP : va_P D cl ws H) (hk : ∀ q : Nat, q < H.size → ¬ va_A [] H.size q → H1[q]? = H[q]?) : va_P D cl ws H1 := hP.kept (fun k q hq => hk q.1 ((hP k q hq).lt) (fun h => absurd (va_A_nil h) (Nat.not_le.mpr ((hP k q hq).lt))))
theorem y_freeE {A0 : Nat → Prop} {H0 H : Heap} {locs : List Loc} (hS : va_S A0 H0 H locs) (hA : ∀ q, H0.size ≤ q → A0 q) : ∀ q, va_A [] H.size q → A0 q := fun q h => hA q (Nat.le_trans hS.1 (va_A_nil h))
theorem atW_thr {dC : Nat → ClassId} {dI : Nat → Nat → Nat} {tys : List (ClassId × FieldType)} {ws : va_W} {s t : State} {H : Heap} {A : Nat → Prop} (hP : va_P (dC, dI) vwCl ws H) (hD : va_D A ws) (hK : va_K (dC, dI) vwCl tys s) (hvm : s.vm.Alike t.vm) (hk : ∀ q : Nat, q < H.size → t.heap[q]? = H[q]?) : atW dC dI tys A ws t :=
  ⟨hP.kept (fun k q hq => hk q.1 ((hP k q hq).lt)), va_K.moved hvm hK, hD⟩
theorem y_F_thr {A : Nat → Prop} {s t : State} {H : Heap} {locs : List Loc} (hS : va_S A s.heap H locs) (hz : H.size ≤ t.heap.size) (hk : ∀ q : Nat, q < H.size → t.heap[q]? = H[q]?) : va_F A s t :=
  ⟨Nat.le_trans hS.1 hz, fun q h1 h2 => (hk q (Nat.lt_of_lt_of_le h1 hS.1)).trans (hS.2.1 q h1 h2)⟩
/-- from lo to hi -/
abbrev bw (v lo hi : Int32) : Prop := lo ≤ v ∧ v ≤ hi
abbrev selOK (a : yA) (x : Int32) : Prop := 0 ≤ x ∧ x < a 0 0
abbrev payOKn (a : yA) (x : Int32) : Prop := 0 ≤ x ∧ x < a 0 4
theorem nat_of {x y : Int32} {b : Nat} (hy : lim y b) (hb : b < 2 ^ 31) (h0 : 0 ≤ x) (h1 : x < y) : x = nI (nn x) ∧ nn x < nn y := by
  obtain ⟨j, hj, rfl⟩ := nI_of (Int32.not_lt.mpr h0)
  rw [nn_nI hj]
  refine ⟨rfl, ?_⟩
  rw [hy.1] at h1
  exact (nI_ltI hj (by have := hy.2; omega)).mp h1
theorem nat_le {x : Int32} {b : Nat} (hb : b < 2 ^ 31) (h0 : 0 ≤ x) (h1 : x ≤ nI b) : x = nI (nn x) ∧ nn x ≤ b := by
  obtain ⟨j, hj, rfl⟩ := nI_of (Int32.not_lt.mpr h0)
  rw [nn_nI hj]
  exact ⟨rfl, (nI_leI hj hb).mp h1⟩
