set_option maxHeartbeats 4000000 in
set_option maxRecDepth 100000 in
theorem whole_start {p : Program} {e : Env} {s : State} {m : MethodId} {below : List Frame} {meth : Method} {c : Code} (l : Launch) (hflags : l.flags = flags0) {b L : Nat} {xs : Nat → Int32} (hL : L ≤ 260) (C0 : lw_At p s m meth c b L xs) : W p l e room_1 s m #[Value.ref b] below meth c s.heap [] 0 0 (lw_Z below #[Value.ref b] s) (entryFrame m ([Value.ref b] : List Value).toArray 7) := by
  obtain ⟨hx, hb, hr, hml, hown, hts, hX, hbl, hlocks, hgv⟩ := C0
  have hst : l.stackTraces = false := by
    unfold Launch.stackTraces
    rw [hflags]
    decide +kernel
  obtain ⟨dC, dI, cI, cF, hK⟩ := st_K hts
  have hd0 := Drawn.sameBut.refl s.drawn lw_cs
  refine st_walk (A := fun q : Nat => s.heap.size ≤ q) hst hx hb hml hown hts hX hbl (Nat.not_le.mpr hbl) (fun _ h => h) hK (st_V hts hgv (fun a h => Nat.not_le.mpr h)) (st_N3 hgv) (st_N hts) hL (fun H locs cells slots ls hS hc hs => ?_)
  refine va_forget (fun q hq => hS.2.2 q hq) ?_
  refine W.widen (k := 609056) (n := 7274300) hc hs ?_
  refine W.base ?_
  exact lw_ret hd0 hx hb hr hlocks dL_law_286
