/-! base: the environment (classes, nest links), worlds, calls; words of the pure functions -/
def zNl : List (String × Nat × MethodName × String) := [(RX8, 9, yX7_init, RX8), (RX8, 18, yX3_init, RX8), (RX8, 25, yX5_init, RX8), (RX8, 35, yX0_init, RX8), (RX0, 33, yX2_init, RX8), (RX8, 52, yX1_init, RX8), (RX8, 59, yX4_init, RX8), (RX3, 78, yX8_isWithin, RX8), (RX6, 32, yX8_isWithin, RX8), (RX5, 64, yX8_greatestCommon, RX8)]
def zN (U : State) : Prop := ∀ q ∈ zNl, va_Nw (.methodLinkNest q.1 q.2.1 q.2.2.1 q.2.2.2) U
theorem zN.warm {s U : State} (hW : s.WarmedH U.vm) (h : zN s) : zN U := fun q hq => va_Nw.warmM hW (h q hq)
theorem zN.call {U : State} {g : JFrame} {mk : MethodId} {a : Array Value} (h : zN U) : zN (U.calling g mk a) := fun q hq => va_Nw.same rfl rfl (h q hq)
abbrev zG : Type := va_G × (ClassId × (ClassId × ClassId))
abbrev zT (G : zG) : List (ClassId × FieldType) := [(G.2.1, .int), (G.2.2.1, .char), (G.2.2.2, .boolean)]
def zE (G : zG) (U : State) : Prop := va_K G.1 vwCl (zT G) U ∧ zN U
theorem zE.warm {G : zG} {s U : State} (hW : s.WarmedH U.vm) (h : zE G s) : zE G U := ⟨va_K.moved hW.alike h.1, h.2.warm hW⟩
theorem zE.call {G : zG} {U : State} {g : JFrame} {mk : MethodId} {a : Array Value} (h : zE G U) : zE G (U.calling g mk a) := ⟨va_K.moved (u := U) (U := U.calling g mk a) (Vm.Alike.refl U.vm) h.1, h.2.call⟩
/-- a method that only reads: its start, its end -/
def zR (G : zG) (ws : va_W) (U : State) : Prop := va_P G.1 vwCl ws U.heap ∧ zE G U
def zSv (v : Option Value) : Array Value → State → Outcome → State → Prop := fun _ st o t => o = .returned v ∧ t.heap = st.heap
/-- a method that writes -/
def zB (G : zG) (ws : va_W) (sz : Nat) (U : State) : Prop := U.heap.size = sz ∧ va_P G.1 vwCl ws U.heap ∧ va_D (fun _ => True) ws ∧ zE G U
def zQ (G : zG) (v : Option Value) (w1 : va_W) (A : Nat → Prop) : Array Value → State → Outcome → State → Prop := fun _ st o t => (o = .returned v ∧ va_P G.1 vwCl w1 t.heap) ∧ va_F A st t
theorem zfm {α β : Type} {f : α → Option β} : ∀ {is : List α} {w : List β}, is.map f = w.map some → is.filterMap f = w := by
  intro is
  induction is with
  | nil => intro w h; cases w with
    | nil => rfl
    | cons a l => cases h
  | cons i is ih => intro w h; cases w with
    | nil => cases h
    | cons a l =>
      simp only [List.map_cons, List.cons.injEq] at h
      rw [List.filterMap_cons, h.1]
      simp only [ih h.2]
theorem zPS {G : zG} {s : State} {H : Heap} {ws wc : va_W} {As : List Value} (hE : zE G s) (hP : va_P G.1 vwCl ws H) (is : List Nat) (hs : is.map (fun i => ws[i]?) = wc.map some) : PreS s H (va_Pc As (zR G wc)) As :=
  ⟨fun _ _ _ _ q => ⟨q.1, q.2.1, q.2.2.call⟩, fun _ hU hW => ⟨rfl, by rw [hU]; exact hP.sub is (zfm hs), hE.warm hW⟩⟩
theorem zPV {G : zG} {s : State} {H : Heap} {ws wc : va_W} {b ci : Nat} {q : vw_C} {fs : List Value} {As : List Value} (hE : zE G s) (hP : va_P G.1 vwCl ws H) (is : List Nat) (hs : is.map (fun i => ws[i]?) = wc.map some) (q0 : Nat) (hc : vwCl[ci]? = some q) (he : ws[q0]? = some (b, .inr (ci, fs))) : PreV s H q.1 b (va_Pc (.ref b :: As) (zR G wc)) As :=
  ⟨fun _ _ _ _ q => ⟨q.1, q.2.1, q.2.2.call⟩, va_recv hE.1 hP hc he, fun _ hU hW => ⟨rfl, by rw [hU]; exact hP.sub is (zfm hs), hE.warm hW⟩⟩
theorem zPSw {G : zG} {A : Nat → Prop} {s : State} {H : Heap} {ws wc : va_W} {As : List Value} (hE : zE G s) (hP : va_P G.1 vwCl ws H) (hD : va_D A ws) (is : List Nat) (hn : va_nd is = true) (hs : is.map (fun i => ws[i]?) = wc.map some) : PreS s H (va_Pc As (zB G wc H.size)) As :=
  ⟨fun _ _ _ _ q => ⟨q.1, q.2.1, q.2.2.1, q.2.2.2.1, q.2.2.2.2.call⟩, fun _ hU hW => ⟨rfl, by rw [hU], by rw [hU]; exact hP.sub is (zfm hs), (hD.sub is hn hs).weaken (fun _ _ _ _ => trivial), hE.warm hW⟩⟩
theorem zPVw {G : zG} {A : Nat → Prop} {s : State} {H : Heap} {ws wc : va_W} {b ci : Nat} {q : vw_C} {fs : List Value} {As : List Value} (hE : zE G s) (hP : va_P G.1 vwCl ws H) (hD : va_D A ws) (is : List Nat) (hn : va_nd is = true) (hs : is.map (fun i => ws[i]?) = wc.map some) (q0 : Nat) (hc : vwCl[ci]? = some q) (he : ws[q0]? = some (b, .inr (ci, fs))) : PreV s H q.1 b (va_Pc (.ref b :: As) (zB G wc H.size)) As :=
  ⟨fun _ _ _ _ q => ⟨q.1, q.2.1, q.2.2.1, q.2.2.2.1, q.2.2.2.2.call⟩, va_recv hE.1 hP hc he, fun _ hU hW => ⟨rfl, by rw [hU], by rw [hU]; exact hP.sub is (zfm hs), (hD.sub is hn hs).weaken (fun _ _ _ _ => trivial), hE.warm hW⟩⟩
theorem zD_adr {A : Nat → Prop} {ws w2 : va_W} (h : va_D A ws) (e : w2.map Prod.fst = ws.map Prod.fst) : va_D A w2 := by
  have at' : ∀ (k : Nat) (q : Nat × va_E), w2[k]? = some q → ∃ q' : Nat × va_E, ws[k]? = some q' ∧ q'.1 = q.1 := by
    intro k q hq
    have h1 : (w2.map Prod.fst)[k]? = some q.1 := by rw [List.getElem?_map, hq]; rfl
    rw [e, List.getElem?_map] at h1
    cases hw : ws[k]? with
    | none => rw [hw] at h1; cases h1
    | some q' => rw [hw] at h1; exact ⟨q', rfl, Option.some.inj h1⟩
  refine ⟨fun i j p q hp hq e1 => ?_, fun k q hk => ?_⟩
  · obtain ⟨p', h1, h2⟩ := at' i p hp
    obtain ⟨q', h3, h4⟩ := at' j q hq
    exact h.1 i j p' q' h1 h3 (by rw [h2, h4]; exact e1)
  · obtain ⟨q', h1, h2⟩ := at' k q hk
    rw [← h2]
    exact h.2 k q' h1
section ZC
variable {p : Program} {l : Launch} {e : Env} {R : Room} {s : State} {m : MethodId} {args : Array Value} {below : List Frame} {meth : Method} {c : Code} {H : Heap} {locs : List Loc} {cells slots : Nat} {Q : State → Prop} {pc : Nat} {ls : Array Slot} {rest st0 : List Value} {a : Array Value}
theorem zRv {v0 : Option Value} (hr : va_Run p l e R s m args below meth c H locs cells slots 0 0 (F0 m pc ls st0) rest (zSv v0 a) (fun _ => False)) (kk : W p l e R s m args below meth c H locs cells slots Q (F0 m (pc + 3) ls (v0.toList ++ rest))) : W p l e R s m args below meth c H locs cells slots Q (F0 m pc ls st0) := by
  intro T hT X
  obtain ⟨v, st₀, t, T', L, h0, X', hL, e1, e2, ⟨hv, hh⟩, st⟩ := hr T hT X
  cases hv
  obtain ⟨t2, a1, b1⟩ := kk T' (by rw [e1, hh, h0]) (Stand.forget X' (fun q h => (hL q h).elim))
  exact ⟨t2, st t2 a1, b1⟩
theorem zRi {r0 : Int32} (hr : va_Run p l e R s m args below meth c H locs cells slots 0 0 (F0 m pc ls st0) rest (zSv (some (.int r0)) a) (fun _ => False)) (kk : W p l e R s m args below meth c H locs cells slots Q (F0 m (pc + 3) ls (.int r0 :: rest))) : W p l e R s m args below meth c H locs cells slots Q (F0 m pc ls st0) := zRv hr kk
theorem zRl {r0 : Int64} (hr : va_Run p l e R s m args below meth c H locs cells slots 0 0 (F0 m pc ls st0) rest (zSv (some (.long r0)) a) (fun _ => False)) (kk : W p l e R s m args below meth c H locs cells slots Q (F0 m (pc + 3) ls (.long r0 :: rest))) : W p l e R s m args below meth c H locs cells slots Q (F0 m pc ls st0) := zRv hr kk
theorem zRr {r0 : Nat} (hr : va_Run p l e R s m args below meth c H locs cells slots 0 0 (F0 m pc ls st0) rest (zSv (some (.ref r0)) a) (fun _ => False)) (kk : W p l e R s m args below meth c H locs cells slots Q (F0 m (pc + 3) ls (.ref r0 :: rest))) : W p l e R s m args below meth c H locs cells slots Q (F0 m pc ls st0) := zRv hr kk
variable {G : zG} {A0 : Nat → Prop} {H0 : Heap} {ws wc wr w1 ws2 : va_W}
theorem zWv {v0 : Option Value} (hr : va_Run p l e R s m args below meth c H locs cells slots 0 0 (F0 m pc ls st0) rest (zQ G v0 w1 (va_A wc H.size) a) (va_A wc H.size)) (hP : va_P G.1 vwCl ws H) (hD : va_D A0 ws) (hS : va_S A0 H0 H locs) (hA : ∀ q, H0.size ≤ q → A0 q) (isC isR pm : List Nat) (hC : isC.map (fun i => ws[i]?) = wc.map some) (hnC : va_nd isC = true) (hR : isR.map (fun i => ws[i]?) = wr.map some) (hn : va_nd isR = true) (hdis : ∀ i ∈ isR, i ∉ isC) (had : w1.map Prod.fst = wc.map Prod.fst) (hpm : pm.map (fun i => (wr ++ w1)[i]?) = ws2.map some) (hnp : va_nd pm = true)
    (kk : ∀ (H1 : Heap) (locs1 : List Loc), va_P G.1 vwCl ws2 H1 → va_D A0 ws2 → va_S A0 H0 H1 locs1 → W p l e R s m args below meth c H1 locs1 cells slots Q (F0 m (pc + 3) ls (v0.toList ++ rest))) : W p l e R s m args below meth c H locs cells slots Q (F0 m pc ls st0) := by
  intro T hT X
  obtain ⟨v, st₀, t, T', L, h0, X', hL, e1, e2, ⟨⟨hv, hp1⟩, hz, hk⟩, st⟩ := hr T hT X
  cases hv
  rw [h0] at hz hk
  have hF := va_free hD hS hA isC hC
  have hDc : va_D (va_A wc H.size) wc := (hD.sub isC hnC hC).self
  obtain ⟨j1, j2⟩ := va_join (H1 := t.heap) hP hD isC isR hC hR hn hdis hk hF hp1 (zD_adr hDc had)
  obtain ⟨t2, a1, b1⟩ := kk T'.heap (locs ++ L) (by rw [e1]; exact j1.sub pm (zfm hpm)) (j2.sub pm hnp hpm)
    ⟨Nat.le_trans hS.1 (by rw [e1]; exact hz), fun q h1 h2 => by rw [e1, hk q (Nat.lt_of_lt_of_le h1 hS.1) (fun z => h2 (hF q z))]; exact hS.2.1 q h1 h2, fun q hq => by
      rcases List.mem_append.mp hq with h | h
      · exact hS.2.2 q h
      · exact hF _ (hL q h)⟩ T' rfl X'
  exact ⟨t2, st t2 a1, b1⟩
theorem zWi {r0 : Int32} (hr : va_Run p l e R s m args below meth c H locs cells slots 0 0 (F0 m pc ls st0) rest (zQ G (some (.int r0)) w1 (va_A wc H.size) a) (va_A wc H.size)) (hP : va_P G.1 vwCl ws H) (hD : va_D A0 ws) (hS : va_S A0 H0 H locs) (hA : ∀ q, H0.size ≤ q → A0 q) (isC isR pm : List Nat) (hC : isC.map (fun i => ws[i]?) = wc.map some) (hnC : va_nd isC = true) (hR : isR.map (fun i => ws[i]?) = wr.map some) (hn : va_nd isR = true) (hdis : ∀ i ∈ isR, i ∉ isC) (had : w1.map Prod.fst = wc.map Prod.fst) (hpm : pm.map (fun i => (wr ++ w1)[i]?) = ws2.map some) (hnp : va_nd pm = true)
    (kk : ∀ (H1 : Heap) (locs1 : List Loc), va_P G.1 vwCl ws2 H1 → va_D A0 ws2 → va_S A0 H0 H1 locs1 → W p l e R s m args below meth c H1 locs1 cells slots Q (F0 m (pc + 3) ls (.int r0 :: rest))) : W p l e R s m args below meth c H locs cells slots Q (F0 m pc ls st0) := zWv hr hP hD hS hA isC isR pm hC hnC hR hn hdis had hpm hnp kk
theorem zWn (hr : va_Run p l e R s m args below meth c H locs cells slots 0 0 (F0 m pc ls st0) rest (zQ G none w1 (va_A wc H.size) a) (va_A wc H.size)) (hP : va_P G.1 vwCl ws H) (hD : va_D A0 ws) (hS : va_S A0 H0 H locs) (hA : ∀ q, H0.size ≤ q → A0 q) (isC isR pm : List Nat) (hC : isC.map (fun i => ws[i]?) = wc.map some) (hnC : va_nd isC = true) (hR : isR.map (fun i => ws[i]?) = wr.map some) (hn : va_nd isR = true) (hdis : ∀ i ∈ isR, i ∉ isC) (had : w1.map Prod.fst = wc.map Prod.fst) (hpm : pm.map (fun i => (wr ++ w1)[i]?) = ws2.map some) (hnp : va_nd pm = true)
    (kk : ∀ (H1 : Heap) (locs1 : List Loc), va_P G.1 vwCl ws2 H1 → va_D A0 ws2 → va_S A0 H0 H1 locs1 → W p l e R s m args below meth c H1 locs1 cells slots Q (F0 m (pc + 3) ls rest)) : W p l e R s m args below meth c H locs cells slots Q (F0 m pc ls st0) := zWv hr hP hD hS hA isC isR pm hC hnC hR hn hdis had hpm hnp kk
end ZC
section ZA
variable {p : Program} {l : Launch} {e : Env} {R : Room} {s : State} {m : MethodId} {args : Array Value} {below : List Frame} {meth : Method} {c : Code} {H : Heap} {locs : List Loc} {cells slots : Nat} {Q : State → Prop}
variable {cc : ByteArray} {pc : Nat} {ls : Array Slot} {rest : List Value} {D : va_G} {cl : List vw_C} {A : Nat → Prop} {a : Nat} {tys : List (ClassId × FieldType)} {ws : va_W} {H0 : Heap}
theorem z_iast (hexec : p.tables.exec = Jvm.exec) (hb : c.code = cc) (hK : va_K D cl tys s) (hP : va_P D cl ws H) (hD : va_D A ws) (hS : va_S A H0 H locs) (q0 t0 : Nat) {cA : ClassId} {n : Nat} {f : Nat → Int32} (ha : ws[q0]? = some (a, .inl (cA, n, .inl f))) (ht : tys[t0]? = some (cA, .int)) {i : Int32} {x : Int32} (hin : vp_in i n) (hdg : decode cc pc = .ok (.iastore, 1)) (ws2 : (Nat → Int32) → va_W) (hw : ∀ g, ws.set q0 (a, .inl (cA, n, .inl g)) = ws2 g)
    (kk : ∀ (g : Nat → Int32) (H1 : Heap) (locs1 : List Loc), g = upd f i.toNatClampNeg x → va_P D cl (ws2 g) H1 → va_D A (ws2 g) → va_S A H0 H1 locs1 → W p l e R s m args below meth c H1 locs1 cells slots Q (F0 m (pc + 1) ls rest)) : W p l e R s m args below meth c H locs cells slots Q (F0 m pc ls (.int x :: .int i :: .ref a :: rest)) :=
  va_iast hexec hb hK hP hD hS q0 t0 ha ht hin hdg (fun H1 l1 h1 h2 h3 => kk _ H1 l1 rfl (by rw [← hw]; exact h1) (by rw [← hw]; exact h2) h3)
theorem z_zast (hexec : p.tables.exec = Jvm.exec) (hb : c.code = cc) (hK : va_K D cl tys s) (hP : va_P D cl ws H) (hD : va_D A ws) (hS : va_S A H0 H locs) (q0 t0 : Nat) {cA : ClassId} {n : Nat} {f : Nat → Int32} (ha : ws[q0]? = some (a, .inl (cA, n, .inl f))) (ht : tys[t0]? = some (cA, .boolean)) {i : Int32} {x : Int32} (hin : vp_in i n) (hdg : decode cc pc = .ok (.bastore, 1)) (ws2 : (Nat → Int32) → va_W) (hw : ∀ g, ws.set q0 (a, .inl (cA, n, .inl g)) = ws2 g)
    (kk : ∀ (g : Nat → Int32) (H1 : Heap) (locs1 : List Loc), g = upd f i.toNatClampNeg (vp_nar .boolean x) → va_P D cl (ws2 g) H1 → va_D A (ws2 g) → va_S A H0 H1 locs1 → W p l e R s m args below meth c H1 locs1 cells slots Q (F0 m (pc + 1) ls rest)) : W p l e R s m args below meth c H locs cells slots Q (F0 m pc ls (.int x :: .int i :: .ref a :: rest)) :=
  va_zast hexec hb hK hP hD hS q0 t0 ha ht hin hdg (fun H1 l1 h1 h2 h3 => kk _ H1 l1 rfl (by rw [← hw]; exact h1) (by rw [← hw]; exact h2) h3)
theorem z_cast (hexec : p.tables.exec = Jvm.exec) (hb : c.code = cc) (hK : va_K D cl tys s) (hP : va_P D cl ws H) (hD : va_D A ws) (hS : va_S A H0 H locs) (q0 t0 : Nat) {cA : ClassId} {n : Nat} {f : Nat → Int32} (ha : ws[q0]? = some (a, .inl (cA, n, .inl f))) (ht : tys[t0]? = some (cA, .char)) {i : Int32} {x : Int32} (hin : vp_in i n) (hdg : decode cc pc = .ok (.castore, 1)) (ws2 : (Nat → Int32) → va_W) (hw : ∀ g, ws.set q0 (a, .inl (cA, n, .inl g)) = ws2 g)
    (kk : ∀ (g : Nat → Int32) (H1 : Heap) (locs1 : List Loc), g = upd f i.toNatClampNeg (vp_nar .char x) → va_P D cl (ws2 g) H1 → va_D A (ws2 g) → va_S A H0 H1 locs1 → W p l e R s m args below meth c H1 locs1 cells slots Q (F0 m (pc + 1) ls rest)) : W p l e R s m args below meth c H locs cells slots Q (F0 m pc ls (.int x :: .int i :: .ref a :: rest)) :=
  va_cast hexec hb hK hP hD hS q0 t0 ha ht hin hdg (fun H1 l1 h1 h2 h3 => kk _ H1 l1 rfl (by rw [← hw]; exact h1) (by rw [← hw]; exact h2) h3)
/-- what arraycopy asks of its numbers -/
def cpB (sp dp n : Int32) (n0 n1 : Nat) : Bool := !(decide (sp < 0)) && !(decide (dp < 0)) && !(decide (n < 0)) && decide (sp.toNatClampNeg + n.toNatClampNeg ≤ n0) && decide (dp.toNatClampNeg + n.toNatClampNeg ≤ n1)
theorem cpB_of {sp dp n : Int32} {n0 n1 : Nat} (h : cpB sp dp n n0 n1 = true) : (¬ sp < 0) ∧ (¬ dp < 0) ∧ (¬ n < 0) ∧ sp.toNatClampNeg + n.toNatClampNeg ≤ n0 ∧ dp.toNatClampNeg + n.toNatClampNeg ≤ n1 := by
  simp only [cpB, Bool.and_eq_true, Bool.not_eq_true', decide_eq_false_iff_not, decide_eq_true_eq] at h
  exact ⟨h.1.1.1.1, h.1.1.1.2, h.1.1.2, h.1.2, h.2⟩
theorem z_copyi {G : zG} (hexec : p.tables.exec = Jvm.exec) (hb : c.code = cc) (hml : c.maxLocals = ls.size) {own : String} {index : Nat} (hown : s.vm.findClass own = some m.cls) (hlink : (Cond.methodLink own index arraycopyName).before args s = true) (hnat : (Cond.native arraycopyName).before args s = true) (hstat : (Cond.static arraycopyName).before args s = true) (hini : (Cond.initialized "java/lang/System").before args s = true)
    (hK : va_K D cl (zT G) s) (hP : va_P D cl ws H) (hD : va_D A ws) (hS : va_S A H0 H locs) (q0 q1 : Nat) {a0 : Nat} {n0 n1 : Nat} {f g : Nat → Int32} (ha0 : ws[q0]? = some (a0, .inl (G.2.1, n0, .inl f))) (ha1 : ws[q1]? = some (a, .inl (G.2.1, n1, .inl g)))
    {sp dp n : Int32} (hok : cpB sp dp n n0 n1 = true)
    (hframes : 1 ≤ R.frames) (hlocals : (rest.map fun v => v.category).sum + (nativeFrameWords "java/lang/System" "arraycopy" 5 + 11) ≤ R.locals) (hdg : decode cc pc = .ok (.invokestatic index, 3)) (ws2 : (Nat → Int32) → va_W) (hw : ∀ g, ws.set q1 (a, .inl (G.2.1, n1, .inl g)) = ws2 g)
    (kk : ∀ (g' : Nat → Int32) (H1 : Heap) (locs1 : List Loc), g' = va_cpy f g sp.toNatClampNeg dp.toNatClampNeg n.toNatClampNeg → va_P D cl (ws2 g') H1 → va_D A (ws2 g') → va_S A H0 H1 locs1 → W p l e R s m args below meth c H1 locs1 cells slots Q (F0 m (pc + 3) ls rest)) : W p l e R s m args below meth c H locs cells slots Q (F0 m pc ls (.int n :: .int dp :: .ref a :: .int sp :: .ref a0 :: rest)) := by
  obtain ⟨h1, h2, h3, h4, h5⟩ := cpB_of hok
  exact va_copyi hexec hb hml hown hlink hnat hstat hini hK hP hD hS q0 q1 0 0 ha0 ha1 rfl rfl rfl h1 h2 h3 h4 h5 (fun i _ => rfl) hframes hlocals hdg (fun H1 l1 k1 k2 k3 => kk _ H1 l1 rfl (by rw [← hw]; exact k1) (by rw [← hw]; exact k2) k3)
end ZA
/-! the pure functions' words -/
def zushr (x y : Int32) : Int32 := (x.toUInt32 >>> (y.toUInt32 &&& Int32.toUInt32 31)).toInt32
def zlushr (x : Int64) (y : Int32) : Int64 := (x.toUInt64 >>> (y.toInt64.toUInt64 &&& Int64.toUInt64 63)).toInt64
def zlshl (x : Int64) (y : Int32) : Int64 := x <<< (y.toInt64 &&& 63)
def zlshr (x : Int64) (y : Int32) : Int64 := x >>> (y.toInt64 &&& 63)
def zi2c (x : Int32) : Int32 := (x.toUInt32 % 65536).toInt32
def zF : Nat := 2000
def gd {α : Type} (b : Bool) (k : Option α) : Option α := match b with
  | true => k
  | false => none
theorem gd_some {α : Type} {b : Bool} {k : Option α} {r : α} (h : gd b k = some r) : b = true ∧ k = some r := by
  cases b with
  | true => exact ⟨rfl, h⟩
  | false => cases h
def nm {α β : Type} (e : α) (k : α → β) : β := k e
theorem nm_to {α β : Type} {k : α → β} {e x : α} {r : β} (h : nm e k = r) (ex : x = e) : k x = r := by subst ex; exact h
theorem nm_rf {α β : Type} {k : α → β} {e : α} {r : β} (h : nm e k = r) : k e = r := h
def inB (i : Int32) (n : Nat) : Bool := !(decide (i < 0)) && !(decide (n ≤ i.toNatClampNeg))
theorem inB_in {i : Int32} {n : Nat} (h : inB i n = true) : vp_in i n := by
  simp only [inB, Bool.and_eq_true, Bool.not_eq_true', decide_eq_false_iff_not] at h
  exact fun q => q.elim h.1 h.2
def nzB (x : Int32) : Bool := !(decide (x = 0))
theorem nzB_ne {x : Int32} (h : nzB x = true) : ¬ x = 0 := by
  simpa only [nzB, Bool.not_eq_true', decide_eq_false_iff_not] using h
def nzL (x : Int64) : Bool := !(decide (x = 0))
theorem nzL_ne {x : Int64} (h : nzL x = true) : ¬ x = 0 := by
  simpa only [nzL, Bool.not_eq_true', decide_eq_false_iff_not] using h
def bzB (x : Int32) : Bool := decide (x &&& 1 = x)
theorem bzB_nar {x : Int32} (h : bzB x = true) : narrow .boolean (.int x) = .int x := by
  have h1 : x &&& 1 = x := by simpa only [bzB, decide_eq_true_eq] using h
  show Value.int (x &&& 1) = .int x
  rw [h1]
theorem if_t {α : Type} {c : Prop} [Decidable c] {a b r : α} (h : (if c then a else b) = r) (hc : c) : a = r := by rw [if_pos hc] at h; exact h
theorem if_f {α : Type} {c : Prop} [Decidable c] {a b r : α} (h : (if c then a else b) = r) (hc : ¬ c) : b = r := by rw [if_neg hc] at h; exact h
theorem so1 {α : Type} {a b : α} (h : some a = some b) : a = b := Option.some.inj h
def bd1 {T0 γ : Type} (x : Option (T0)) (k : T0 → Option γ) : Option γ := match x with
  | none => none
  | some u => k u
theorem bd1_some {T0 γ : Type} {x : Option (T0)} {k : T0 → Option γ} {r : γ} (h : bd1 x k = some r) : ∃ (x0 : T0), x = some x0 ∧ k x0 = some r := by
  cases x with
  | none => cases h
  | some u => exact ⟨u, rfl, h⟩
def bd2 {T0 T1 γ : Type} (x : Option (T0 × T1)) (k : T0 → T1 → Option γ) : Option γ := match x with
  | none => none
  | some u => k u.1 u.2
theorem bd2_some {T0 T1 γ : Type} {x : Option (T0 × T1)} {k : T0 → T1 → Option γ} {r : γ} (h : bd2 x k = some r) : ∃ (x0 : T0) (x1 : T1), x = some (x0, x1) ∧ k x0 x1 = some r := by
  cases x with
  | none => cases h
  | some u => exact ⟨u.1, u.2, rfl, h⟩
theorem so2 {T0 T1 : Type} {x0 y0 : T0} {x1 y1 : T1} (h : some (x0, x1) = some (y0, y1)) : x0 = y0 ∧ x1 = y1 := by
  cases h
  exact ⟨rfl, rfl⟩
def bd3 {T0 T1 T2 γ : Type} (x : Option (T0 × T1 × T2)) (k : T0 → T1 → T2 → Option γ) : Option γ := match x with
  | none => none
  | some u => k u.1 u.2.1 u.2.2
theorem bd3_some {T0 T1 T2 γ : Type} {x : Option (T0 × T1 × T2)} {k : T0 → T1 → T2 → Option γ} {r : γ} (h : bd3 x k = some r) : ∃ (x0 : T0) (x1 : T1) (x2 : T2), x = some (x0, x1, x2) ∧ k x0 x1 x2 = some r := by
  cases x with
  | none => cases h
  | some u => exact ⟨u.1, u.2.1, u.2.2, rfl, h⟩
theorem so3 {T0 T1 T2 : Type} {x0 y0 : T0} {x1 y1 : T1} {x2 y2 : T2} (h : some (x0, x1, x2) = some (y0, y1, y2)) : x0 = y0 ∧ x1 = y1 ∧ x2 = y2 := by
  cases h
  exact ⟨rfl, rfl, rfl⟩
def bd4 {T0 T1 T2 T3 γ : Type} (x : Option (T0 × T1 × T2 × T3)) (k : T0 → T1 → T2 → T3 → Option γ) : Option γ := match x with
  | none => none
  | some u => k u.1 u.2.1 u.2.2.1 u.2.2.2
theorem bd4_some {T0 T1 T2 T3 γ : Type} {x : Option (T0 × T1 × T2 × T3)} {k : T0 → T1 → T2 → T3 → Option γ} {r : γ} (h : bd4 x k = some r) : ∃ (x0 : T0) (x1 : T1) (x2 : T2) (x3 : T3), x = some (x0, x1, x2, x3) ∧ k x0 x1 x2 x3 = some r := by
  cases x with
  | none => cases h
  | some u => exact ⟨u.1, u.2.1, u.2.2.1, u.2.2.2, rfl, h⟩
theorem so4 {T0 T1 T2 T3 : Type} {x0 y0 : T0} {x1 y1 : T1} {x2 y2 : T2} {x3 y3 : T3} (h : some (x0, x1, x2, x3) = some (y0, y1, y2, y3)) : x0 = y0 ∧ x1 = y1 ∧ x2 = y2 ∧ x3 = y3 := by
  cases h
  exact ⟨rfl, rfl, rfl, rfl⟩
def bd5 {T0 T1 T2 T3 T4 γ : Type} (x : Option (T0 × T1 × T2 × T3 × T4)) (k : T0 → T1 → T2 → T3 → T4 → Option γ) : Option γ := match x with
  | none => none
  | some u => k u.1 u.2.1 u.2.2.1 u.2.2.2.1 u.2.2.2.2
theorem bd5_some {T0 T1 T2 T3 T4 γ : Type} {x : Option (T0 × T1 × T2 × T3 × T4)} {k : T0 → T1 → T2 → T3 → T4 → Option γ} {r : γ} (h : bd5 x k = some r) : ∃ (x0 : T0) (x1 : T1) (x2 : T2) (x3 : T3) (x4 : T4), x = some (x0, x1, x2, x3, x4) ∧ k x0 x1 x2 x3 x4 = some r := by
  cases x with
  | none => cases h
  | some u => exact ⟨u.1, u.2.1, u.2.2.1, u.2.2.2.1, u.2.2.2.2, rfl, h⟩
theorem so5 {T0 T1 T2 T3 T4 : Type} {x0 y0 : T0} {x1 y1 : T1} {x2 y2 : T2} {x3 y3 : T3} {x4 y4 : T4} (h : some (x0, x1, x2, x3, x4) = some (y0, y1, y2, y3, y4)) : x0 = y0 ∧ x1 = y1 ∧ x2 = y2 ∧ x3 = y3 ∧ x4 = y4 := by
  cases h
  exact ⟨rfl, rfl, rfl, rfl, rfl⟩
def bd6 {T0 T1 T2 T3 T4 T5 γ : Type} (x : Option (T0 × T1 × T2 × T3 × T4 × T5)) (k : T0 → T1 → T2 → T3 → T4 → T5 → Option γ) : Option γ := match x with
  | none => none
  | some u => k u.1 u.2.1 u.2.2.1 u.2.2.2.1 u.2.2.2.2.1 u.2.2.2.2.2
theorem bd6_some {T0 T1 T2 T3 T4 T5 γ : Type} {x : Option (T0 × T1 × T2 × T3 × T4 × T5)} {k : T0 → T1 → T2 → T3 → T4 → T5 → Option γ} {r : γ} (h : bd6 x k = some r) : ∃ (x0 : T0) (x1 : T1) (x2 : T2) (x3 : T3) (x4 : T4) (x5 : T5), x = some (x0, x1, x2, x3, x4, x5) ∧ k x0 x1 x2 x3 x4 x5 = some r := by
  cases x with
  | none => cases h
  | some u => exact ⟨u.1, u.2.1, u.2.2.1, u.2.2.2.1, u.2.2.2.2.1, u.2.2.2.2.2, rfl, h⟩
theorem so6 {T0 T1 T2 T3 T4 T5 : Type} {x0 y0 : T0} {x1 y1 : T1} {x2 y2 : T2} {x3 y3 : T3} {x4 y4 : T4} {x5 y5 : T5} (h : some (x0, x1, x2, x3, x4, x5) = some (y0, y1, y2, y3, y4, y5)) : x0 = y0 ∧ x1 = y1 ∧ x2 = y2 ∧ x3 = y3 ∧ x4 = y4 ∧ x5 = y5 := by
  cases h
  exact ⟨rfl, rfl, rfl, rfl, rfl, rfl⟩
def bd7 {T0 T1 T2 T3 T4 T5 T6 γ : Type} (x : Option (T0 × T1 × T2 × T3 × T4 × T5 × T6)) (k : T0 → T1 → T2 → T3 → T4 → T5 → T6 → Option γ) : Option γ := match x with
  | none => none
  | some u => k u.1 u.2.1 u.2.2.1 u.2.2.2.1 u.2.2.2.2.1 u.2.2.2.2.2.1 u.2.2.2.2.2.2
theorem bd7_some {T0 T1 T2 T3 T4 T5 T6 γ : Type} {x : Option (T0 × T1 × T2 × T3 × T4 × T5 × T6)} {k : T0 → T1 → T2 → T3 → T4 → T5 → T6 → Option γ} {r : γ} (h : bd7 x k = some r) : ∃ (x0 : T0) (x1 : T1) (x2 : T2) (x3 : T3) (x4 : T4) (x5 : T5) (x6 : T6), x = some (x0, x1, x2, x3, x4, x5, x6) ∧ k x0 x1 x2 x3 x4 x5 x6 = some r := by
  cases x with
  | none => cases h
  | some u => exact ⟨u.1, u.2.1, u.2.2.1, u.2.2.2.1, u.2.2.2.2.1, u.2.2.2.2.2.1, u.2.2.2.2.2.2, rfl, h⟩
theorem so7 {T0 T1 T2 T3 T4 T5 T6 : Type} {x0 y0 : T0} {x1 y1 : T1} {x2 y2 : T2} {x3 y3 : T3} {x4 y4 : T4} {x5 y5 : T5} {x6 y6 : T6} (h : some (x0, x1, x2, x3, x4, x5, x6) = some (y0, y1, y2, y3, y4, y5, y6)) : x0 = y0 ∧ x1 = y1 ∧ x2 = y2 ∧ x3 = y3 ∧ x4 = y4 ∧ x5 = y5 ∧ x6 = y6 := by
  cases h
  exact ⟨rfl, rfl, rfl, rfl, rfl, rfl, rfl⟩
def bd8 {T0 T1 T2 T3 T4 T5 T6 T7 γ : Type} (x : Option (T0 × T1 × T2 × T3 × T4 × T5 × T6 × T7)) (k : T0 → T1 → T2 → T3 → T4 → T5 → T6 → T7 → Option γ) : Option γ := match x with
  | none => none
  | some u => k u.1 u.2.1 u.2.2.1 u.2.2.2.1 u.2.2.2.2.1 u.2.2.2.2.2.1 u.2.2.2.2.2.2.1 u.2.2.2.2.2.2.2
theorem bd8_some {T0 T1 T2 T3 T4 T5 T6 T7 γ : Type} {x : Option (T0 × T1 × T2 × T3 × T4 × T5 × T6 × T7)} {k : T0 → T1 → T2 → T3 → T4 → T5 → T6 → T7 → Option γ} {r : γ} (h : bd8 x k = some r) : ∃ (x0 : T0) (x1 : T1) (x2 : T2) (x3 : T3) (x4 : T4) (x5 : T5) (x6 : T6) (x7 : T7), x = some (x0, x1, x2, x3, x4, x5, x6, x7) ∧ k x0 x1 x2 x3 x4 x5 x6 x7 = some r := by
  cases x with
  | none => cases h
  | some u => exact ⟨u.1, u.2.1, u.2.2.1, u.2.2.2.1, u.2.2.2.2.1, u.2.2.2.2.2.1, u.2.2.2.2.2.2.1, u.2.2.2.2.2.2.2, rfl, h⟩
theorem so8 {T0 T1 T2 T3 T4 T5 T6 T7 : Type} {x0 y0 : T0} {x1 y1 : T1} {x2 y2 : T2} {x3 y3 : T3} {x4 y4 : T4} {x5 y5 : T5} {x6 y6 : T6} {x7 y7 : T7} (h : some (x0, x1, x2, x3, x4, x5, x6, x7) = some (y0, y1, y2, y3, y4, y5, y6, y7)) : x0 = y0 ∧ x1 = y1 ∧ x2 = y2 ∧ x3 = y3 ∧ x4 = y4 ∧ x5 = y5 ∧ x6 = y6 ∧ x7 = y7 := by
  cases h
  exact ⟨rfl, rfl, rfl, rfl, rfl, rfl, rfl, rfl⟩
def bd9 {T0 T1 T2 T3 T4 T5 T6 T7 T8 γ : Type} (x : Option (T0 × T1 × T2 × T3 × T4 × T5 × T6 × T7 × T8)) (k : T0 → T1 → T2 → T3 → T4 → T5 → T6 → T7 → T8 → Option γ) : Option γ := match x with
  | none => none
  | some u => k u.1 u.2.1 u.2.2.1 u.2.2.2.1 u.2.2.2.2.1 u.2.2.2.2.2.1 u.2.2.2.2.2.2.1 u.2.2.2.2.2.2.2.1 u.2.2.2.2.2.2.2.2
theorem bd9_some {T0 T1 T2 T3 T4 T5 T6 T7 T8 γ : Type} {x : Option (T0 × T1 × T2 × T3 × T4 × T5 × T6 × T7 × T8)} {k : T0 → T1 → T2 → T3 → T4 → T5 → T6 → T7 → T8 → Option γ} {r : γ} (h : bd9 x k = some r) : ∃ (x0 : T0) (x1 : T1) (x2 : T2) (x3 : T3) (x4 : T4) (x5 : T5) (x6 : T6) (x7 : T7) (x8 : T8), x = some (x0, x1, x2, x3, x4, x5, x6, x7, x8) ∧ k x0 x1 x2 x3 x4 x5 x6 x7 x8 = some r := by
  cases x with
  | none => cases h
  | some u => exact ⟨u.1, u.2.1, u.2.2.1, u.2.2.2.1, u.2.2.2.2.1, u.2.2.2.2.2.1, u.2.2.2.2.2.2.1, u.2.2.2.2.2.2.2.1, u.2.2.2.2.2.2.2.2, rfl, h⟩
theorem so9 {T0 T1 T2 T3 T4 T5 T6 T7 T8 : Type} {x0 y0 : T0} {x1 y1 : T1} {x2 y2 : T2} {x3 y3 : T3} {x4 y4 : T4} {x5 y5 : T5} {x6 y6 : T6} {x7 y7 : T7} {x8 y8 : T8} (h : some (x0, x1, x2, x3, x4, x5, x6, x7, x8) = some (y0, y1, y2, y3, y4, y5, y6, y7, y8)) : x0 = y0 ∧ x1 = y1 ∧ x2 = y2 ∧ x3 = y3 ∧ x4 = y4 ∧ x5 = y5 ∧ x6 = y6 ∧ x7 = y7 ∧ x8 = y8 := by
  cases h
  exact ⟨rfl, rfl, rfl, rfl, rfl, rfl, rfl, rfl, rfl⟩
def bd10 {T0 T1 T2 T3 T4 T5 T6 T7 T8 T9 γ : Type} (x : Option (T0 × T1 × T2 × T3 × T4 × T5 × T6 × T7 × T8 × T9)) (k : T0 → T1 → T2 → T3 → T4 → T5 → T6 → T7 → T8 → T9 → Option γ) : Option γ := match x with
  | none => none
  | some u => k u.1 u.2.1 u.2.2.1 u.2.2.2.1 u.2.2.2.2.1 u.2.2.2.2.2.1 u.2.2.2.2.2.2.1 u.2.2.2.2.2.2.2.1 u.2.2.2.2.2.2.2.2.1 u.2.2.2.2.2.2.2.2.2
theorem bd10_some {T0 T1 T2 T3 T4 T5 T6 T7 T8 T9 γ : Type} {x : Option (T0 × T1 × T2 × T3 × T4 × T5 × T6 × T7 × T8 × T9)} {k : T0 → T1 → T2 → T3 → T4 → T5 → T6 → T7 → T8 → T9 → Option γ} {r : γ} (h : bd10 x k = some r) : ∃ (x0 : T0) (x1 : T1) (x2 : T2) (x3 : T3) (x4 : T4) (x5 : T5) (x6 : T6) (x7 : T7) (x8 : T8) (x9 : T9), x = some (x0, x1, x2, x3, x4, x5, x6, x7, x8, x9) ∧ k x0 x1 x2 x3 x4 x5 x6 x7 x8 x9 = some r := by
  cases x with
  | none => cases h
  | some u => exact ⟨u.1, u.2.1, u.2.2.1, u.2.2.2.1, u.2.2.2.2.1, u.2.2.2.2.2.1, u.2.2.2.2.2.2.1, u.2.2.2.2.2.2.2.1, u.2.2.2.2.2.2.2.2.1, u.2.2.2.2.2.2.2.2.2, rfl, h⟩
theorem so10 {T0 T1 T2 T3 T4 T5 T6 T7 T8 T9 : Type} {x0 y0 : T0} {x1 y1 : T1} {x2 y2 : T2} {x3 y3 : T3} {x4 y4 : T4} {x5 y5 : T5} {x6 y6 : T6} {x7 y7 : T7} {x8 y8 : T8} {x9 y9 : T9} (h : some (x0, x1, x2, x3, x4, x5, x6, x7, x8, x9) = some (y0, y1, y2, y3, y4, y5, y6, y7, y8, y9)) : x0 = y0 ∧ x1 = y1 ∧ x2 = y2 ∧ x3 = y3 ∧ x4 = y4 ∧ x5 = y5 ∧ x6 = y6 ∧ x7 = y7 ∧ x8 = y8 ∧ x9 = y9 := by
  cases h
  exact ⟨rfl, rfl, rfl, rfl, rfl, rfl, rfl, rfl, rfl, rfl⟩
