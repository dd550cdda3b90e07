/-! the law: its cases -/
abbrev zA (s : State) : Nat → Prop := fun q => s.heap.size ≤ q
def zpick (ws : va_W) (is : List Nat) : va_W := is.filterMap (fun i => ws[i]?)
section ZL
variable {p : Program} {l : Launch} {e : Env} {R : Room} {s : State} {m : MethodId} {args : Array Value} {below : List Frame} {meth : Method} {c : Code} {H : Heap} {locs : List Loc} {cells slots : Nat} {Q : State → Prop}
variable {cc : ByteArray} {pc : Nat} {ls : Array Slot} {rest : List Value} {A : Nat → Prop} {H0 : Heap}
theorem z_sld (hexec : p.tables.exec = Jvm.exec) (hb : c.code = cc) {b L : Nat} {xs : Nat → Int32} (hX : va_X b L xs s H0) (hbl : b < H0.size) (hbA : ¬ A b) (hS : va_S A H0 H locs) {i v : Int32} (hin : vp_in i L) (hv : xs i.toNatClampNeg = v) (hdg : decode cc pc = .ok (.iaload, 1))
    (kk : W p l e R s m args below meth c H locs cells slots Q (F0 m (pc + 1) ls (.int v :: rest))) : W p l e R s m args below meth c H locs cells slots Q (F0 m pc ls (.int i :: .ref b :: rest)) := by
  subst hv
  exact va_sld hexec hb hX hbl hbA hS hin hdg kk
end ZL
def lAt (p : Program) (l : Launch) (e : Env) (s : State) (m : MethodId) (below : List Frame) (meth : Method) (c : Code) (G : zG) (b : Nat) (x3 : Int32) (pc : Nat) : Prop :=
  ∀ (a am : Nat → Nat) (v : Nat → Int32) (r : Nat → Nat → Int32) (t : Int64) (vm : Nat → Int32) (rm : Nat → Nat → Int32) (tm : Int64), Inv v r t vm rm tm → ∀ (H : Heap) (locs : List Loc), va_P G.1 vwCl (wXM G a am v r t vm rm tm) H → va_D (zA s) (wXM G a am v r t vm rm tm) → va_S (zA s) s.heap H locs → ∀ (ls : Array Slot), lv_has ls 4 [(0, .ref b), (1, .ref (a 0)), (2, .ref (am 0)), (3, .int x3)] → W p l e room_1 s m #[Value.ref b] below meth c H locs 66 1901 (lw_Z below #[Value.ref b] s) (F0 m pc ls [])
theorem hd_X8_back : yX8_back.cls = RX8 ∧ yX8_back.cls ≠ "java/lang/invoke/MethodHandle" ∧ yX8_back.cls ≠ "java/lang/invoke/VarHandle" ∧ (parseMethodDescriptor yX8_back.desc).map (fun d => d.parameters.length) = some 1 := by decide +kernel
theorem hd_X8_begins : yX8_begins.cls = RX8 ∧ yX8_begins.cls ≠ "java/lang/invoke/MethodHandle" ∧ yX8_begins.cls ≠ "java/lang/invoke/VarHandle" ∧ (parseMethodDescriptor yX8_begins.desc).map (fun d => d.parameters.length) = some 5 := by decide +kernel
theorem hd_X8_claims : yX8_claims.cls = RX8 ∧ yX8_claims.cls ≠ "java/lang/invoke/MethodHandle" ∧ yX8_claims.cls ≠ "java/lang/invoke/VarHandle" ∧ (parseMethodDescriptor yX8_claims.desc).map (fun d => d.parameters.length) = some 2 := by decide +kernel
theorem hd_X8_clear : yX8_clear.cls = RX8 ∧ yX8_clear.cls ≠ "java/lang/invoke/MethodHandle" ∧ yX8_clear.cls ≠ "java/lang/invoke/VarHandle" ∧ (parseMethodDescriptor yX8_clear.desc).map (fun d => d.parameters.length) = some 0 := by decide +kernel
theorem hd_X8_count : yX8_count.cls = RX8 ∧ yX8_count.cls ≠ "java/lang/invoke/MethodHandle" ∧ yX8_count.cls ≠ "java/lang/invoke/VarHandle" ∧ (parseMethodDescriptor yX8_count.desc).map (fun d => d.parameters.length) = some 1 := by decide +kernel
theorem hd_X8_cycle : yX8_cycle.cls = RX8 ∧ yX8_cycle.cls ≠ "java/lang/invoke/MethodHandle" ∧ yX8_cycle.cls ≠ "java/lang/invoke/VarHandle" ∧ (parseMethodDescriptor yX8_cycle.desc).map (fun d => d.parameters.length) = some 0 := by decide +kernel
theorem hd_X8_dark : yX8_dark.cls = RX8 ∧ yX8_dark.cls ≠ "java/lang/invoke/MethodHandle" ∧ yX8_dark.cls ≠ "java/lang/invoke/VarHandle" ∧ (parseMethodDescriptor yX8_dark.desc).map (fun d => d.parameters.length) = some 3 := by decide +kernel
theorem hd_X8_dates : yX8_dates.cls = RX8 ∧ yX8_dates.cls ≠ "java/lang/invoke/MethodHandle" ∧ yX8_dates.cls ≠ "java/lang/invoke/VarHandle" ∧ (parseMethodDescriptor yX8_dates.desc).map (fun d => d.parameters.length) = some 1 := by decide +kernel
theorem hd_X8_ends : yX8_ends.cls = RX8 ∧ yX8_ends.cls ≠ "java/lang/invoke/MethodHandle" ∧ yX8_ends.cls ≠ "java/lang/invoke/VarHandle" ∧ (parseMethodDescriptor yX8_ends.desc).map (fun d => d.parameters.length) = some 1 := by decide +kernel
theorem hd_X8_forget : yX8_forget.cls = RX8 ∧ yX8_forget.cls ≠ "java/lang/invoke/MethodHandle" ∧ yX8_forget.cls ≠ "java/lang/invoke/VarHandle" ∧ (parseMethodDescriptor yX8_forget.desc).map (fun d => d.parameters.length) = some 0 := by decide +kernel
theorem hd_X8_keep : yX8_keep.cls = RX8 ∧ yX8_keep.cls ≠ "java/lang/invoke/MethodHandle" ∧ yX8_keep.cls ≠ "java/lang/invoke/VarHandle" ∧ (parseMethodDescriptor yX8_keep.desc).map (fun d => d.parameters.length) = some 1 := by decide +kernel
theorem hd_X8_lease : yX8_lease.cls = RX8 ∧ yX8_lease.cls ≠ "java/lang/invoke/MethodHandle" ∧ yX8_lease.cls ≠ "java/lang/invoke/VarHandle" ∧ (parseMethodDescriptor yX8_lease.desc).map (fun d => d.parameters.length) = some 2 := by decide +kernel
theorem hd_X8_letting : yX8_letting.cls = RX8 ∧ yX8_letting.cls ≠ "java/lang/invoke/MethodHandle" ∧ yX8_letting.cls ≠ "java/lang/invoke/VarHandle" ∧ (parseMethodDescriptor yX8_letting.desc).map (fun d => d.parameters.length) = some 3 := by decide +kernel
theorem hd_X8_lot : yX8_lot.cls = RX8 ∧ yX8_lot.cls ≠ "java/lang/invoke/MethodHandle" ∧ yX8_lot.cls ≠ "java/lang/invoke/VarHandle" ∧ (parseMethodDescriptor yX8_lot.desc).map (fun d => d.parameters.length) = some 1 := by decide +kernel
theorem hd_X8_meets : yX8_meets.cls = RX8 ∧ yX8_meets.cls ≠ "java/lang/invoke/MethodHandle" ∧ yX8_meets.cls ≠ "java/lang/invoke/VarHandle" ∧ (parseMethodDescriptor yX8_meets.desc).map (fun d => d.parameters.length) = some 3 := by decide +kernel
theorem hd_X8_night : yX8_night.cls = RX8 ∧ yX8_night.cls ≠ "java/lang/invoke/MethodHandle" ∧ yX8_night.cls ≠ "java/lang/invoke/VarHandle" ∧ (parseMethodDescriptor yX8_night.desc).map (fun d => d.parameters.length) = some 0 := by decide +kernel
theorem hd_X8_odds : yX8_odds.cls = RX8 ∧ yX8_odds.cls ≠ "java/lang/invoke/MethodHandle" ∧ yX8_odds.cls ≠ "java/lang/invoke/VarHandle" ∧ (parseMethodDescriptor yX8_odds.desc).map (fun d => d.parameters.length) = some 4 := by decide +kernel
theorem hd_X8_offer : yX8_offer.cls = RX8 ∧ yX8_offer.cls ≠ "java/lang/invoke/MethodHandle" ∧ yX8_offer.cls ≠ "java/lang/invoke/VarHandle" ∧ (parseMethodDescriptor yX8_offer.desc).map (fun d => d.parameters.length) = some 6 := by decide +kernel
theorem hd_X8_purse : yX8_purse.cls = RX8 ∧ yX8_purse.cls ≠ "java/lang/invoke/MethodHandle" ∧ yX8_purse.cls ≠ "java/lang/invoke/VarHandle" ∧ (parseMethodDescriptor yX8_purse.desc).map (fun d => d.parameters.length) = some 1 := by decide +kernel
theorem hd_X8_rate : yX8_rate.cls = RX8 ∧ yX8_rate.cls ≠ "java/lang/invoke/MethodHandle" ∧ yX8_rate.cls ≠ "java/lang/invoke/VarHandle" ∧ (parseMethodDescriptor yX8_rate.desc).map (fun d => d.parameters.length) = some 2 := by decide +kernel
theorem hd_X8_refuse : yX8_refuse.cls = RX8 ∧ yX8_refuse.cls ≠ "java/lang/invoke/MethodHandle" ∧ yX8_refuse.cls ≠ "java/lang/invoke/VarHandle" ∧ (parseMethodDescriptor yX8_refuse.desc).map (fun d => d.parameters.length) = some 0 := by decide +kernel
theorem hd_X8_saw : yX8_saw.cls = RX8 ∧ yX8_saw.cls ≠ "java/lang/invoke/MethodHandle" ∧ yX8_saw.cls ≠ "java/lang/invoke/VarHandle" ∧ (parseMethodDescriptor yX8_saw.desc).map (fun d => d.parameters.length) = some 2 := by decide +kernel
theorem hd_X8_sky : yX8_sky.cls = RX8 ∧ yX8_sky.cls ≠ "java/lang/invoke/MethodHandle" ∧ yX8_sky.cls ≠ "java/lang/invoke/VarHandle" ∧ (parseMethodDescriptor yX8_sky.desc).map (fun d => d.parameters.length) = some 0 := by decide +kernel
theorem hd_X8_star : yX8_star.cls = RX8 ∧ yX8_star.cls ≠ "java/lang/invoke/MethodHandle" ∧ yX8_star.cls ≠ "java/lang/invoke/VarHandle" ∧ (parseMethodDescriptor yX8_star.desc).map (fun d => d.parameters.length) = some 2 := by decide +kernel
theorem hd_X8_trace : yX8_trace.cls = RX8 ∧ yX8_trace.cls ≠ "java/lang/invoke/MethodHandle" ∧ yX8_trace.cls ≠ "java/lang/invoke/VarHandle" ∧ (parseMethodDescriptor yX8_trace.desc).map (fun d => d.parameters.length) = some 0 := by decide +kernel
theorem hd_X8_type : yX8_type.cls = RX8 ∧ yX8_type.cls ≠ "java/lang/invoke/MethodHandle" ∧ yX8_type.cls ≠ "java/lang/invoke/VarHandle" ∧ (parseMethodDescriptor yX8_type.desc).map (fun d => d.parameters.length) = some 2 := by decide +kernel
theorem hd_X8_undo : yX8_undo.cls = RX8 ∧ yX8_undo.cls ≠ "java/lang/invoke/MethodHandle" ∧ yX8_undo.cls ≠ "java/lang/invoke/VarHandle" ∧ (parseMethodDescriptor yX8_undo.desc).map (fun d => d.parameters.length) = some 0 := by decide +kernel
theorem hd_X8_whose : yX8_whose.cls = RX8 ∧ yX8_whose.cls ≠ "java/lang/invoke/MethodHandle" ∧ yX8_whose.cls ≠ "java/lang/invoke/VarHandle" ∧ (parseMethodDescriptor yX8_whose.desc).map (fun d => d.parameters.length) = some 2 := by decide +kernel
theorem hd_X9_back : yX9_back.cls = RX9 ∧ yX9_back.cls ≠ "java/lang/invoke/MethodHandle" ∧ yX9_back.cls ≠ "java/lang/invoke/VarHandle" ∧ (parseMethodDescriptor yX9_back.desc).map (fun d => d.parameters.length) = some 1 := by decide +kernel
theorem hd_X9_begins : yX9_begins.cls = RX9 ∧ yX9_begins.cls ≠ "java/lang/invoke/MethodHandle" ∧ yX9_begins.cls ≠ "java/lang/invoke/VarHandle" ∧ (parseMethodDescriptor yX9_begins.desc).map (fun d => d.parameters.length) = some 5 := by decide +kernel
theorem hd_X9_claims : yX9_claims.cls = RX9 ∧ yX9_claims.cls ≠ "java/lang/invoke/MethodHandle" ∧ yX9_claims.cls ≠ "java/lang/invoke/VarHandle" ∧ (parseMethodDescriptor yX9_claims.desc).map (fun d => d.parameters.length) = some 2 := by decide +kernel
theorem hd_X9_clear : yX9_clear.cls = RX9 ∧ yX9_clear.cls ≠ "java/lang/invoke/MethodHandle" ∧ yX9_clear.cls ≠ "java/lang/invoke/VarHandle" ∧ (parseMethodDescriptor yX9_clear.desc).map (fun d => d.parameters.length) = some 0 := by decide +kernel
theorem hd_X9_count : yX9_count.cls = RX9 ∧ yX9_count.cls ≠ "java/lang/invoke/MethodHandle" ∧ yX9_count.cls ≠ "java/lang/invoke/VarHandle" ∧ (parseMethodDescriptor yX9_count.desc).map (fun d => d.parameters.length) = some 1 := by decide +kernel
theorem hd_X9_cycle : yX9_cycle.cls = RX9 ∧ yX9_cycle.cls ≠ "java/lang/invoke/MethodHandle" ∧ yX9_cycle.cls ≠ "java/lang/invoke/VarHandle" ∧ (parseMethodDescriptor yX9_cycle.desc).map (fun d => d.parameters.length) = some 0 := by decide +kernel
theorem hd_X9_dark : yX9_dark.cls = RX9 ∧ yX9_dark.cls ≠ "java/lang/invoke/MethodHandle" ∧ yX9_dark.cls ≠ "java/lang/invoke/VarHandle" ∧ (parseMethodDescriptor yX9_dark.desc).map (fun d => d.parameters.length) = some 3 := by decide +kernel
theorem hd_X9_dates : yX9_dates.cls = RX9 ∧ yX9_dates.cls ≠ "java/lang/invoke/MethodHandle" ∧ yX9_dates.cls ≠ "java/lang/invoke/VarHandle" ∧ (parseMethodDescriptor yX9_dates.desc).map (fun d => d.parameters.length) = some 1 := by decide +kernel
theorem hd_X9_ends : yX9_ends.cls = RX9 ∧ yX9_ends.cls ≠ "java/lang/invoke/MethodHandle" ∧ yX9_ends.cls ≠ "java/lang/invoke/VarHandle" ∧ (parseMethodDescriptor yX9_ends.desc).map (fun d => d.parameters.length) = some 1 := by decide +kernel
theorem hd_X9_forget : yX9_forget.cls = RX9 ∧ yX9_forget.cls ≠ "java/lang/invoke/MethodHandle" ∧ yX9_forget.cls ≠ "java/lang/invoke/VarHandle" ∧ (parseMethodDescriptor yX9_forget.desc).map (fun d => d.parameters.length) = some 0 := by decide +kernel
theorem hd_X9_keep : yX9_keep.cls = RX9 ∧ yX9_keep.cls ≠ "java/lang/invoke/MethodHandle" ∧ yX9_keep.cls ≠ "java/lang/invoke/VarHandle" ∧ (parseMethodDescriptor yX9_keep.desc).map (fun d => d.parameters.length) = some 1 := by decide +kernel
theorem hd_X9_lease : yX9_lease.cls = RX9 ∧ yX9_lease.cls ≠ "java/lang/invoke/MethodHandle" ∧ yX9_lease.cls ≠ "java/lang/invoke/VarHandle" ∧ (parseMethodDescriptor yX9_lease.desc).map (fun d => d.parameters.length) = some 2 := by decide +kernel
theorem hd_X9_letting : yX9_letting.cls = RX9 ∧ yX9_letting.cls ≠ "java/lang/invoke/MethodHandle" ∧ yX9_letting.cls ≠ "java/lang/invoke/VarHandle" ∧ (parseMethodDescriptor yX9_letting.desc).map (fun d => d.parameters.length) = some 3 := by decide +kernel
theorem hd_X9_lot : yX9_lot.cls = RX9 ∧ yX9_lot.cls ≠ "java/lang/invoke/MethodHandle" ∧ yX9_lot.cls ≠ "java/lang/invoke/VarHandle" ∧ (parseMethodDescriptor yX9_lot.desc).map (fun d => d.parameters.length) = some 1 := by decide +kernel
theorem hd_X9_meets : yX9_meets.cls = RX9 ∧ yX9_meets.cls ≠ "java/lang/invoke/MethodHandle" ∧ yX9_meets.cls ≠ "java/lang/invoke/VarHandle" ∧ (parseMethodDescriptor yX9_meets.desc).map (fun d => d.parameters.length) = some 3 := by decide +kernel
theorem hd_X9_night : yX9_night.cls = RX9 ∧ yX9_night.cls ≠ "java/lang/invoke/MethodHandle" ∧ yX9_night.cls ≠ "java/lang/invoke/VarHandle" ∧ (parseMethodDescriptor yX9_night.desc).map (fun d => d.parameters.length) = some 0 := by decide +kernel
theorem hd_X9_odds : yX9_odds.cls = RX9 ∧ yX9_odds.cls ≠ "java/lang/invoke/MethodHandle" ∧ yX9_odds.cls ≠ "java/lang/invoke/VarHandle" ∧ (parseMethodDescriptor yX9_odds.desc).map (fun d => d.parameters.length) = some 4 := by decide +kernel
theorem hd_X9_offer : yX9_offer.cls = RX9 ∧ yX9_offer.cls ≠ "java/lang/invoke/MethodHandle" ∧ yX9_offer.cls ≠ "java/lang/invoke/VarHandle" ∧ (parseMethodDescriptor yX9_offer.desc).map (fun d => d.parameters.length) = some 6 := by decide +kernel
theorem hd_X9_purse : yX9_purse.cls = RX9 ∧ yX9_purse.cls ≠ "java/lang/invoke/MethodHandle" ∧ yX9_purse.cls ≠ "java/lang/invoke/VarHandle" ∧ (parseMethodDescriptor yX9_purse.desc).map (fun d => d.parameters.length) = some 1 := by decide +kernel
theorem hd_X9_rate : yX9_rate.cls = RX9 ∧ yX9_rate.cls ≠ "java/lang/invoke/MethodHandle" ∧ yX9_rate.cls ≠ "java/lang/invoke/VarHandle" ∧ (parseMethodDescriptor yX9_rate.desc).map (fun d => d.parameters.length) = some 2 := by decide +kernel
theorem hd_X9_refuse : yX9_refuse.cls = RX9 ∧ yX9_refuse.cls ≠ "java/lang/invoke/MethodHandle" ∧ yX9_refuse.cls ≠ "java/lang/invoke/VarHandle" ∧ (parseMethodDescriptor yX9_refuse.desc).map (fun d => d.parameters.length) = some 0 := by decide +kernel
theorem hd_X9_saw : yX9_saw.cls = RX9 ∧ yX9_saw.cls ≠ "java/lang/invoke/MethodHandle" ∧ yX9_saw.cls ≠ "java/lang/invoke/VarHandle" ∧ (parseMethodDescriptor yX9_saw.desc).map (fun d => d.parameters.length) = some 2 := by decide +kernel
theorem hd_X9_sky : yX9_sky.cls = RX9 ∧ yX9_sky.cls ≠ "java/lang/invoke/MethodHandle" ∧ yX9_sky.cls ≠ "java/lang/invoke/VarHandle" ∧ (parseMethodDescriptor yX9_sky.desc).map (fun d => d.parameters.length) = some 0 := by decide +kernel
theorem hd_X9_star : yX9_star.cls = RX9 ∧ yX9_star.cls ≠ "java/lang/invoke/MethodHandle" ∧ yX9_star.cls ≠ "java/lang/invoke/VarHandle" ∧ (parseMethodDescriptor yX9_star.desc).map (fun d => d.parameters.length) = some 2 := by decide +kernel
theorem hd_X9_trace : yX9_trace.cls = RX9 ∧ yX9_trace.cls ≠ "java/lang/invoke/MethodHandle" ∧ yX9_trace.cls ≠ "java/lang/invoke/VarHandle" ∧ (parseMethodDescriptor yX9_trace.desc).map (fun d => d.parameters.length) = some 0 := by decide +kernel
theorem hd_X9_type : yX9_type.cls = RX9 ∧ yX9_type.cls ≠ "java/lang/invoke/MethodHandle" ∧ yX9_type.cls ≠ "java/lang/invoke/VarHandle" ∧ (parseMethodDescriptor yX9_type.desc).map (fun d => d.parameters.length) = some 2 := by decide +kernel
theorem hd_X9_undo : yX9_undo.cls = RX9 ∧ yX9_undo.cls ≠ "java/lang/invoke/MethodHandle" ∧ yX9_undo.cls ≠ "java/lang/invoke/VarHandle" ∧ (parseMethodDescriptor yX9_undo.desc).map (fun d => d.parameters.length) = some 0 := by decide +kernel
theorem hd_X9_whose : yX9_whose.cls = RX9 ∧ yX9_whose.cls ≠ "java/lang/invoke/MethodHandle" ∧ yX9_whose.cls ≠ "java/lang/invoke/VarHandle" ∧ (parseMethodDescriptor yX9_whose.desc).map (fun d => d.parameters.length) = some 2 := by decide +kernel
set_option maxHeartbeats 4000000 in
set_option maxRecDepth 100000 in
theorem lc_type {p : Program} {l : Launch} {e : Env} {s : State} {m : MethodId} {below : List Frame} {meth : Method} {c : Code} {G : zG} {KV : zKV} {b L : Nat} {xs : Nat → Int32} (C0 : lw_At p s m meth c b L xs) (hE : zE G s) (hZ : zS KV (zA s) s s.heap) {x3 : Int32} (hin : ∀ j : Nat, j < 7 → vp_in (x3 + nI j) L) (cont : lAt p l e s m below meth c G b x3 1007) : lAt p l e s m below meth c G b x3 160 := by
  intro a am v r t vm rm tm hI H locs hP hD hS ls hl
  obtain ⟨hx, hb, hr, hml, hown, hts0, hX, hbl, hlocks, hgv⟩ := C0
  have hts : ∀ w ∈ wsL_law, w.before #[Value.ref b] s = true := fun w h => hts0 w (wsL_law_in w h)
  have hbA : ¬ zA s b := Nat.not_le.mpr hbl
  have hA : ∀ q : Nat, s.heap.size ≤ q → zA s q := fun _ h => h
  have hC : CallFix p m c cL_law 4 s #[Value.ref b] wsL_law RL := ⟨hx, hb, hml, hown, hts⟩
  obtain ⟨p1, hp1⟩ : ∃ y : Int32, xs (x3 + (1 : Int32)).toNatClampNeg = y := ⟨_, rfl⟩
  obtain ⟨p2, hp2⟩ : ∃ y : Int32, xs (x3 + (2 : Int32)).toNatClampNeg = y := ⟨_, rfl⟩
  obtain ⟨p3, hp3⟩ : ∃ y : Int32, xs (x3 + (3 : Int32)).toNatClampNeg = y := ⟨_, rfl⟩
  obtain ⟨lq, hlq⟩ : ∃ y : Int64, ((zlshl (p1).toInt64 (32 : Int32)) ||| ((p2).toInt64 &&& (4294967295 : Int64))) = y := ⟨_, rfl⟩
  obtain ⟨R0, w0, w1, z0, z1, z2, h1, h2, hI2⟩ := pm_type v r t vm rm tm hI (lq) (p3)
  refine lv_aload_n hx hb dL_law_160 rfl (lv_at hl 1 rfl) ?_
  refine lv_aload_n hx hb dL_law_161 rfl (lv_at hl 0 rfl) ?_
  refine lv_iload_n hx hb dL_law_162 rfl (lv_at hl 3 rfl) ?_
  refine lv_iconst (v := (1 : Int32)) hx hb dL_law_163 (by decide) ?_
  refine lv_iadd hx hb dL_law_164 ?_
  refine z_sld (v := p1) hx hb hX hbl hbA hS (hin 1 (by decide)) hp1 dL_law_165 ?_
  refine lv_i2l (v := (p1).toInt64) hx hb dL_law_166 rfl ?_
  refine lv_bipush (v := (32 : Int32)) hx hb dL_law_167 (by decide) ?_
  refine lv_lshl (v := (zlshl (p1).toInt64 (32 : Int32))) hx hb dL_law_169 rfl ?_
  refine lv_aload_n hx hb dL_law_170 rfl (lv_at hl 0 rfl) ?_
  refine lv_iload_n hx hb dL_law_171 rfl (lv_at hl 3 rfl) ?_
  refine lv_iconst (v := (2 : Int32)) hx hb dL_law_172 (by decide) ?_
  refine lv_iadd hx hb dL_law_173 ?_
  refine z_sld (v := p2) hx hb hX hbl hbA hS (hin 2 (by decide)) hp2 dL_law_174 ?_
  refine lv_i2l (v := (p2).toInt64) hx hb dL_law_175 rfl ?_
  refine lv_ldc2 (own := RL) (index := 13) (v := (4294967295 : Int64)) hx hb hown (hts (.constantLong RL 13 (4294967295)) (by decide +kernel)) dL_law_176 ?_
  refine lv_land hx hb dL_law_179 ?_
  refine lv_lor hx hb dL_law_180 ?_
  rw [show ((zlshl (p1).toInt64 (32 : Int32)) ||| ((p2).toInt64 &&& (4294967295 : Int64))) = lq from hlq]
  refine lv_aload_n hx hb dL_law_181 rfl (lv_at hl 0 rfl) ?_
  refine lv_iload_n hx hb dL_law_182 rfl (lv_at hl 3 rfl) ?_
  refine lv_iconst (v := (3 : Int32)) hx hb dL_law_183 (by decide) ?_
  refine lv_iadd hx hb dL_law_184 ?_
  refine z_sld (v := p3) hx hb hX hbl hbA hS (hin 3 (by decide)) hp3 dL_law_185 ?_
  refine zWi (wr := zpick (wXM G a am v r t vm rm tm) [3, 4, 5, 6, 7, 8, 9, 10, 11, 12, 13, 14, 15, 16, 17, 18, 19, 20, 21, 22, 23, 24, 25, 26, 27, 28, 29, 30, 31, 32, 33, 34, 35, 36, 37, 38, 39, 40, 41, 42, 43, 44, 45, 46, 47, 48, 49, 50, 51, 52, 53, 54, 55, 56, 57, 58, 59, 60, 61, 62, 63, 64, 65]) (ws2 := wXM G a am (upd v 0 w0) (updA r 0 w1) t vm rm tm) (va_runV (As := [.long lq, .int p3]) (rest := []) hC (c_X8_type l G _ (a 0) (a 1) (a 2) (a 3) (a 5) (a 12) (a 19) (a 27) (a 35) (a 43) (a 44) (a 52) (a 55) t (v 0) (v 1) (v 2) (v 3) (v 4) (r 0) (lq) (p3) R0 w0 w1 h1) (cwV 2 hts gL_law_X8_type rfl rfl rfl hd_X8_type ⟨(Nat.le_of_ble_eq_true rfl), (Nat.le_of_ble_eq_true rfl)⟩) (zPVw hE hP hD [0, 1, 2] rfl rfl 0 rfl rfl) rfl rfl hl.1 rfl (lv_room (Nat.le_of_ble_eq_true rfl)) dL_law_186 ⟨(Nat.le_of_ble_eq_true rfl), (Nat.le_of_ble_eq_true rfl)⟩) hP hD hS hA [0, 1, 2] [3, 4, 5, 6, 7, 8, 9, 10, 11, 12, 13, 14, 15, 16, 17, 18, 19, 20, 21, 22, 23, 24, 25, 26, 27, 28, 29, 30, 31, 32, 33, 34, 35, 36, 37, 38, 39, 40, 41, 42, 43, 44, 45, 46, 47, 48, 49, 50, 51, 52, 53, 54, 55, 56, 57, 58, 59, 60, 61, 62, 63, 64, 65] [63, 64, 65, 0, 1, 2, 3, 4, 5, 6, 7, 8, 9, 10, 11, 12, 13, 14, 15, 16, 17, 18, 19, 20, 21, 22, 23, 24, 25, 26, 27, 28, 29, 30, 31, 32, 33, 34, 35, 36, 37, 38, 39, 40, 41, 42, 43, 44, 45, 46, 47, 48, 49, 50, 51, 52, 53, 54, 55, 56, 57, 58, 59, 60, 61, 62] rfl rfl rfl rfl (by decide) rfl rfl rfl (fun H locs hP hD hS => ?_)
  refine lv_aload_n hx hb dL_law_189 rfl (lv_at hl 2 rfl) ?_
  refine lv_aload_n hx hb dL_law_190 rfl (lv_at hl 0 rfl) ?_
  refine lv_iload_n hx hb dL_law_191 rfl (lv_at hl 3 rfl) ?_
  refine lv_iconst (v := (1 : Int32)) hx hb dL_law_192 (by decide) ?_
  refine lv_iadd hx hb dL_law_193 ?_
  refine z_sld (v := p1) hx hb hX hbl hbA hS (hin 1 (by decide)) hp1 dL_law_194 ?_
  refine lv_i2l (v := (p1).toInt64) hx hb dL_law_195 rfl ?_
  refine lv_bipush (v := (32 : Int32)) hx hb dL_law_196 (by decide) ?_
  refine lv_lshl (v := (zlshl (p1).toInt64 (32 : Int32))) hx hb dL_law_198 rfl ?_
  refine lv_aload_n hx hb dL_law_199 rfl (lv_at hl 0 rfl) ?_
  refine lv_iload_n hx hb dL_law_200 rfl (lv_at hl 3 rfl) ?_
  refine lv_iconst (v := (2 : Int32)) hx hb dL_law_201 (by decide) ?_
  refine lv_iadd hx hb dL_law_202 ?_
  refine z_sld (v := p2) hx hb hX hbl hbA hS (hin 2 (by decide)) hp2 dL_law_203 ?_
  refine lv_i2l (v := (p2).toInt64) hx hb dL_law_204 rfl ?_
  refine lv_ldc2 (own := RL) (index := 13) (v := (4294967295 : Int64)) hx hb hown (hts (.constantLong RL 13 (4294967295)) (by decide +kernel)) dL_law_205 ?_
  refine lv_land hx hb dL_law_208 ?_
  refine lv_lor hx hb dL_law_209 ?_
  rw [show ((zlshl (p1).toInt64 (32 : Int32)) ||| ((p2).toInt64 &&& (4294967295 : Int64))) = lq from hlq]
  refine lv_aload_n hx hb dL_law_210 rfl (lv_at hl 0 rfl) ?_
  refine lv_iload_n hx hb dL_law_211 rfl (lv_at hl 3 rfl) ?_
  refine lv_iconst (v := (3 : Int32)) hx hb dL_law_212 (by decide) ?_
  refine lv_iadd hx hb dL_law_213 ?_
  refine z_sld (v := p3) hx hb hX hbl hbA hS (hin 3 (by decide)) hp3 dL_law_214 ?_
  refine zWi (wr := zpick (wXM G a am (upd v 0 w0) (updA r 0 w1) t vm rm tm) [0, 1, 2, 3, 4, 5, 6, 7, 8, 9, 10, 11, 12, 13, 14, 15, 16, 17, 18, 19, 20, 21, 22, 23, 24, 25, 26, 27, 28, 29, 30, 31, 32, 33, 34, 35, 36, 37, 38, 39, 40, 41, 42, 43, 44, 45, 46, 47, 48, 49, 50, 51, 52, 53, 54, 55, 58, 59, 60, 61, 62, 63, 64, 65]) (ws2 := wXM G a am (upd v 0 w0) (updA r 0 w1) t (upd (upd vm 0 z0) 1 z1) (updA rm 0 z2) tm) (va_runV (As := [.long lq, .int p3]) (rest := [.int R0]) hC (c_X9_type l G _ (am 0) (am 1) (am 2) (am 3) (am 4) (am 5) (am 6) (am 7) (am 8) (am 9) (vm 0) tm (vm 1) (vm 2) (vm 3) (vm 4) (vm 5) (vm 6) (vm 7) (vm 8) (vm 9) (vm 10) (vm 11) (vm 12) (vm 13) (vm 14) (vm 15) (rm 0) (lq) (p3) R0 z0 z1 z2 h2) (cwV 2 hts gL_law_X9_type rfl rfl rfl hd_X9_type ⟨(Nat.le_of_ble_eq_true rfl), (Nat.le_of_ble_eq_true rfl)⟩) (zPVw hE hP hD [56, 57] rfl rfl 56 rfl rfl) rfl rfl hl.1 rfl (lv_room (Nat.le_of_ble_eq_true rfl)) dL_law_215 ⟨(Nat.le_of_ble_eq_true rfl), (Nat.le_of_ble_eq_true rfl)⟩) hP hD hS hA [56, 57] [0, 1, 2, 3, 4, 5, 6, 7, 8, 9, 10, 11, 12, 13, 14, 15, 16, 17, 18, 19, 20, 21, 22, 23, 24, 25, 26, 27, 28, 29, 30, 31, 32, 33, 34, 35, 36, 37, 38, 39, 40, 41, 42, 43, 44, 45, 46, 47, 48, 49, 50, 51, 52, 53, 54, 55, 58, 59, 60, 61, 62, 63, 64, 65] [0, 1, 2, 3, 4, 5, 6, 7, 8, 9, 10, 11, 12, 13, 14, 15, 16, 17, 18, 19, 20, 21, 22, 23, 24, 25, 26, 27, 28, 29, 30, 31, 32, 33, 34, 35, 36, 37, 38, 39, 40, 41, 42, 43, 44, 45, 46, 47, 48, 49, 50, 51, 52, 53, 54, 55, 64, 65, 56, 57, 58, 59, 60, 61, 62, 63] rfl rfl rfl rfl (by decide) rfl rfl rfl (fun H locs hP hD hS => ?_)
  refine lv_icmp_eq (tgt := 1007) hx hb dL_law_218 (by decide) (fun _ => ?_) (fun h => absurd rfl h)
  exact cont _ _ _ _ _ _ _ _ hI2 _ _ hP hD hS ls hl
set_option maxHeartbeats 4000000 in
set_option maxRecDepth 100000 in
theorem lc_clear {p : Program} {l : Launch} {e : Env} {s : State} {m : MethodId} {below : List Frame} {meth : Method} {c : Code} {G : zG} {KV : zKV} {b L : Nat} {xs : Nat → Int32} (C0 : lw_At p s m meth c b L xs) (hE : zE G s) (hZ : zS KV (zA s) s s.heap) {x3 : Int32} (hin : ∀ j : Nat, j < 7 → vp_in (x3 + nI j) L) (cont : lAt p l e s m below meth c G b x3 1007) : lAt p l e s m below meth c G b x3 223 := by
  intro a am v r t vm rm tm hI H locs hP hD hS ls hl
  obtain ⟨hx, hb, hr, hml, hown, hts0, hX, hbl, hlocks, hgv⟩ := C0
  have hts : ∀ w ∈ wsL_law, w.before #[Value.ref b] s = true := fun w h => hts0 w (wsL_law_in w h)
  have hbA : ¬ zA s b := Nat.not_le.mpr hbl
  have hA : ∀ q : Nat, s.heap.size ≤ q → zA s q := fun _ h => h
  have hC : CallFix p m c cL_law 4 s #[Value.ref b] wsL_law RL := ⟨hx, hb, hml, hown, hts⟩
  obtain ⟨R0, w0, z0, z1, h1, h2, hI2⟩ := pm_clear v r t vm rm tm hI 
  refine lv_aload_n hx hb dL_law_223 rfl (lv_at hl 1 rfl) ?_
  refine zWi (wr := zpick (wXM G a am v r t vm rm tm) [2, 3, 4, 5, 6, 7, 8, 9, 10, 11, 12, 13, 14, 15, 16, 17, 18, 19, 20, 21, 22, 23, 24, 25, 26, 27, 28, 29, 30, 31, 32, 33, 34, 35, 36, 37, 38, 39, 40, 41, 42, 43, 44, 45, 46, 47, 48, 49, 50, 51, 52, 53, 54, 55, 56, 57, 58, 59, 60, 61, 62, 63, 64, 65]) (ws2 := wXM G a am (upd v 0 w0) r t vm rm tm) (va_runV (As := []) (rest := []) hC (c_X8_clear l G _ (a 0) (a 1) (a 3) (a 5) (a 12) (a 19) (a 27) (a 35) (a 43) (a 44) (a 52) (a 55) (a 2) t (v 0) (v 1) (v 2) (v 3) (v 4) R0 w0 h1) (cwV 0 hts gL_law_X8_clear rfl rfl rfl hd_X8_clear ⟨(Nat.le_of_ble_eq_true rfl), (Nat.le_of_ble_eq_true rfl)⟩) (zPVw hE hP hD [0, 1] rfl rfl 0 rfl rfl) rfl rfl hl.1 rfl (lv_room (Nat.le_of_ble_eq_true rfl)) dL_law_224 ⟨(Nat.le_of_ble_eq_true rfl), (Nat.le_of_ble_eq_true rfl)⟩) hP hD hS hA [0, 1] [2, 3, 4, 5, 6, 7, 8, 9, 10, 11, 12, 13, 14, 15, 16, 17, 18, 19, 20, 21, 22, 23, 24, 25, 26, 27, 28, 29, 30, 31, 32, 33, 34, 35, 36, 37, 38, 39, 40, 41, 42, 43, 44, 45, 46, 47, 48, 49, 50, 51, 52, 53, 54, 55, 56, 57, 58, 59, 60, 61, 62, 63, 64, 65] [64, 65, 0, 1, 2, 3, 4, 5, 6, 7, 8, 9, 10, 11, 12, 13, 14, 15, 16, 17, 18, 19, 20, 21, 22, 23, 24, 25, 26, 27, 28, 29, 30, 31, 32, 33, 34, 35, 36, 37, 38, 39, 40, 41, 42, 43, 44, 45, 46, 47, 48, 49, 50, 51, 52, 53, 54, 55, 56, 57, 58, 59, 60, 61, 62, 63] rfl rfl rfl rfl (by decide) rfl rfl rfl (fun H locs hP hD hS => ?_)
  refine lv_aload_n hx hb dL_law_227 rfl (lv_at hl 2 rfl) ?_
  refine zWi (wr := zpick (wXM G a am (upd v 0 w0) r t vm rm tm) [0, 1, 2, 3, 4, 5, 6, 7, 8, 9, 10, 11, 12, 13, 14, 15, 16, 17, 18, 19, 20, 21, 22, 23, 24, 25, 26, 27, 28, 29, 30, 31, 32, 33, 34, 35, 36, 37, 38, 39, 40, 41, 42, 43, 44, 45, 46, 47, 48, 49, 50, 51, 52, 53, 54, 55, 57, 58, 59, 60, 61, 62, 63, 64, 65]) (ws2 := wXM G a am (upd v 0 w0) r t (upd (upd vm 0 z0) 1 z1) rm tm) (va_runV (As := []) (rest := [.int R0]) hC (c_X9_clear l G _ (am 0) (am 1) (am 2) (am 3) (am 4) (am 5) (am 6) (am 7) (am 8) (am 9) (vm 0) tm (vm 1) (vm 2) (vm 3) (vm 4) (vm 5) (vm 6) (vm 7) (vm 8) (vm 9) (vm 10) (vm 11) (vm 12) (vm 13) (vm 14) (vm 15) R0 z0 z1 h2) (cwV 0 hts gL_law_X9_clear rfl rfl rfl hd_X9_clear ⟨(Nat.le_of_ble_eq_true rfl), (Nat.le_of_ble_eq_true rfl)⟩) (zPVw hE hP hD [56] rfl rfl 56 rfl rfl) rfl rfl hl.1 rfl (lv_room (Nat.le_of_ble_eq_true rfl)) dL_law_228 ⟨(Nat.le_of_ble_eq_true rfl), (Nat.le_of_ble_eq_true rfl)⟩) hP hD hS hA [56] [0, 1, 2, 3, 4, 5, 6, 7, 8, 9, 10, 11, 12, 13, 14, 15, 16, 17, 18, 19, 20, 21, 22, 23, 24, 25, 26, 27, 28, 29, 30, 31, 32, 33, 34, 35, 36, 37, 38, 39, 40, 41, 42, 43, 44, 45, 46, 47, 48, 49, 50, 51, 52, 53, 54, 55, 57, 58, 59, 60, 61, 62, 63, 64, 65] [0, 1, 2, 3, 4, 5, 6, 7, 8, 9, 10, 11, 12, 13, 14, 15, 16, 17, 18, 19, 20, 21, 22, 23, 24, 25, 26, 27, 28, 29, 30, 31, 32, 33, 34, 35, 36, 37, 38, 39, 40, 41, 42, 43, 44, 45, 46, 47, 48, 49, 50, 51, 52, 53, 54, 55, 65, 56, 57, 58, 59, 60, 61, 62, 63, 64] rfl rfl rfl rfl (by decide) rfl rfl rfl (fun H locs hP hD hS => ?_)
  refine lv_icmp_eq (tgt := 1007) hx hb dL_law_231 (by decide) (fun _ => ?_) (fun h => absurd rfl h)
  exact cont _ _ _ _ _ _ _ _ hI2 _ _ hP hD hS ls hl
set_option maxHeartbeats 4000000 in
set_option maxRecDepth 100000 in
theorem lc_sky {p : Program} {l : Launch} {e : Env} {s : State} {m : MethodId} {below : List Frame} {meth : Method} {c : Code} {G : zG} {KV : zKV} {b L : Nat} {xs : Nat → Int32} (C0 : lw_At p s m meth c b L xs) (hE : zE G s) (hZ : zS KV (zA s) s s.heap) {x3 : Int32} (hin : ∀ j : Nat, j < 7 → vp_in (x3 + nI j) L) (cont : lAt p l e s m below meth c G b x3 1007) : lAt p l e s m below meth c G b x3 236 := by
  intro a am v r t vm rm tm hI H locs hP hD hS ls hl
  obtain ⟨hx, hb, hr, hml, hown, hts0, hX, hbl, hlocks, hgv⟩ := C0
  have hts : ∀ w ∈ wsL_law, w.before #[Value.ref b] s = true := fun w h => hts0 w (wsL_law_in w h)
  have hbA : ¬ zA s b := Nat.not_le.mpr hbl
  have hA : ∀ q : Nat, s.heap.size ≤ q → zA s q := fun _ h => h
  have hC : CallFix p m c cL_law 4 s #[Value.ref b] wsL_law RL := ⟨hx, hb, hml, hown, hts⟩
  obtain ⟨R0, w0, w1, w2, w3, w4, w5, w6, w7, w8, w9, w10, w11, w12, w13, w14, w15, w16, w17, w18, w19, w20, w21, w22, z0, z1, z2, z3, z4, z5, z6, z7, z8, z9, z10, z11, z12, z13, z14, z15, z16, z17, z18, z19, z20, h2, hsk⟩ := pm_sky a v r t vm rm tm hI
  rcases hsk with ⟨h1, hI2⟩ | ⟨h1, hI2⟩
  · refine lv_aload_n hx hb dL_law_236 rfl (lv_at hl 1 rfl) ?_
    refine zWi (wr := zpick (wXM G a am v r t vm rm tm) [5, 6, 7, 8, 9, 10, 11, 25, 26, 27, 28, 29, 30, 31, 32, 33, 34, 35, 36, 37, 38, 39, 40, 41, 42, 46, 47, 48, 49, 50, 51, 53, 54, 55, 56, 57, 58, 59, 60, 61, 62, 63, 64, 65]) (ws2 := wXM G a am (upd (upd (upd (upd (upd (upd (upd (upd (upd (upd (upd (upd (upd (upd v 0 w0) 1 w1) 2 w2) 3 w3) 4 w4) 10 w5) 11 w6) 12 w7) 14 w8) 15 w15) 18 w17) 20 w19) 34 w20) 35 w21) (updA (updA (updA (updA (updA (updA (updA (updA (updA r 1 w9) 7 w10) 8 w11) 9 w12) 10 w13) 11 w14) 12 w16) 13 w18) 24 w22) t vm rm tm) (va_runV (As := []) (rest := []) hC (c_X8_sky l G KV _ (a 0) (a 3) (a 1) (a 12) (a 17) (a 2) (a 4) (a 13) (a 14) (a 15) (a 16) (a 18) (a 19) (a 20) (a 21) (a 22) (a 23) (a 24) (a 44) (a 45) (a 52) (a 43) (a 5) (a 27) (a 35) (a 55) (a 26) (a 25) (a 47) (a 48) (a 49) (a 50) (a 51) (a 46) (a 53) (a 54) t (v 0) (v 1) (v 2) (v 3) (v 4) (v 10) (v 11) (v 12) (v 13) (v 14) (r 0) (r 1) (r 7) (r 8) (r 9) (r 10) (r 11) (v 15) (v 16) (r 12) (v 17) (v 18) (r 13) (v 19) (v 20) (v 33) (v 34) (v 35) (r 24) R0 w0 w1 w2 w3 w4 w5 w6 w7 w8 w9 w10 w11 w12 w13 w14 w15 w16 w17 w18 w19 w20 w21 w22 (a 12) (a 5) h1) (cwV 0 hts gL_law_X8_sky rfl rfl rfl hd_X8_sky ⟨(Nat.le_of_ble_eq_true rfl), (Nat.le_of_ble_eq_true rfl)⟩) (zPVwo hE hZ hS hA hP hD [0, 3, 1, 12, 17, 2, 4, 13, 14, 15, 16, 18, 19, 20, 21, 22, 23, 24, 44, 45, 52, 43] rfl rfl 0 rfl rfl) rfl rfl hl.1 rfl (lv_room (Nat.le_of_ble_eq_true rfl)) dL_law_237 ⟨(Nat.le_of_ble_eq_true rfl), (Nat.le_of_ble_eq_true rfl)⟩) hP hD hS hA [0, 3, 1, 12, 17, 2, 4, 13, 14, 15, 16, 18, 19, 20, 21, 22, 23, 24, 44, 45, 52, 43] [5, 6, 7, 8, 9, 10, 11, 25, 26, 27, 28, 29, 30, 31, 32, 33, 34, 35, 36, 37, 38, 39, 40, 41, 42, 46, 47, 48, 49, 50, 51, 53, 54, 55, 56, 57, 58, 59, 60, 61, 62, 63, 64, 65] [44, 46, 49, 45, 50, 0, 1, 2, 3, 4, 5, 6, 47, 51, 52, 53, 54, 48, 55, 56, 57, 58, 59, 60, 61, 7, 8, 9, 10, 11, 12, 13, 14, 15, 16, 17, 18, 19, 20, 21, 22, 23, 24, 65, 62, 63, 25, 26, 27, 28, 29, 30, 64, 31, 32, 33, 34, 35, 36, 37, 38, 39, 40, 41, 42, 43] rfl rfl rfl rfl (by decide) rfl rfl rfl (fun H locs hP hD hS => ?_)
    refine lv_aload_n hx hb dL_law_240 rfl (lv_at hl 2 rfl) ?_
    refine zWi (wr := zpick (wXM G a am (upd (upd (upd (upd (upd (upd (upd (upd (upd (upd (upd (upd (upd (upd v 0 w0) 1 w1) 2 w2) 3 w3) 4 w4) 10 w5) 11 w6) 12 w7) 14 w8) 15 w15) 18 w17) 20 w19) 34 w20) 35 w21) (updA (updA (updA (updA (updA (updA (updA (updA (updA r 1 w9) 7 w10) 8 w11) 9 w12) 10 w13) 11 w14) 12 w16) 13 w18) 24 w22) t vm rm tm) [0, 1, 2, 3, 4, 5, 6, 7, 8, 9, 10, 11, 12, 13, 14, 15, 16, 17, 18, 19, 20, 21, 22, 23, 24, 25, 26, 27, 28, 29, 30, 31, 32, 33, 34, 35, 36, 37, 38, 39, 40, 41, 42, 43, 44, 45, 46, 47, 48, 49, 50, 51, 52, 53, 54, 55, 62, 64, 65]) (ws2 := wXM G a am (upd (upd (upd (upd (upd (upd (upd (upd (upd (upd (upd (upd (upd (upd v 0 w0) 1 w1) 2 w2) 3 w3) 4 w4) 10 w5) 11 w6) 12 w7) 14 w8) 15 w15) 18 w17) 20 w19) 34 w20) 35 w21) (updA (updA (updA (updA (updA (updA (updA (updA (updA r 1 w9) 7 w10) 8 w11) 9 w12) 10 w13) 11 w14) 12 w16) 13 w18) 24 w22) t (upd (upd (upd (upd (upd (upd (upd (upd (upd (upd (upd (upd (upd (upd (upd (upd vm 0 z0) 1 z1) 2 z2) 3 z3) 4 z4) 5 z5) 6 z6) 7 z7) 8 z8) 9 z9) 10 z10) 11 z11) 12 z12) 13 z13) 14 z14) 15 z15) (updA (updA (updA (updA (updA rm 3 z16) 2 z17) 1 z18) 4 z19) 6 z20) tm) (va_runV (As := []) (rest := [.int R0]) hC (c_X9_sky l G _ (am 0) (am 1) (am 4) (am 3) (am 2) (am 5) (am 7) (am 6) (am 8) (am 9) (vm 0) tm (vm 1) (vm 2) (vm 3) (vm 4) (vm 5) (vm 6) (vm 7) (vm 8) (vm 9) (vm 10) (vm 11) (vm 12) (vm 13) (vm 14) (vm 15) (rm 0) (rm 3) (rm 2) (rm 1) (rm 4) (rm 6) R0 z0 z1 z2 z3 z4 z5 z6 z7 z8 z9 z10 z11 z12 z13 z14 z15 z16 z17 z18 z19 z20 h2) (cwV 0 hts gL_law_X9_sky rfl rfl rfl hd_X9_sky ⟨(Nat.le_of_ble_eq_true rfl), (Nat.le_of_ble_eq_true rfl)⟩) (zPVw hE hP hD [56, 57, 60, 59, 58, 61, 63] rfl rfl 56 rfl rfl) rfl rfl hl.1 rfl (lv_room (Nat.le_of_ble_eq_true rfl)) dL_law_241 ⟨(Nat.le_of_ble_eq_true rfl), (Nat.le_of_ble_eq_true rfl)⟩) hP hD hS hA [56, 57, 60, 59, 58, 61, 63] [0, 1, 2, 3, 4, 5, 6, 7, 8, 9, 10, 11, 12, 13, 14, 15, 16, 17, 18, 19, 20, 21, 22, 23, 24, 25, 26, 27, 28, 29, 30, 31, 32, 33, 34, 35, 36, 37, 38, 39, 40, 41, 42, 43, 44, 45, 46, 47, 48, 49, 50, 51, 52, 53, 54, 55, 62, 64, 65] [0, 1, 2, 3, 4, 5, 6, 7, 8, 9, 10, 11, 12, 13, 14, 15, 16, 17, 18, 19, 20, 21, 22, 23, 24, 25, 26, 27, 28, 29, 30, 31, 32, 33, 34, 35, 36, 37, 38, 39, 40, 41, 42, 43, 44, 45, 46, 47, 48, 49, 50, 51, 52, 53, 54, 55, 59, 60, 63, 62, 61, 64, 56, 65, 57, 58] rfl rfl rfl rfl (by decide) rfl rfl rfl (fun H locs hP hD hS => ?_)
    refine lv_icmp_eq (tgt := 1007) hx hb dL_law_244 (by decide) (fun _ => ?_) (fun h => absurd rfl h)
    exact cont _ _ _ _ _ _ _ _ hI2 H locs hP hD hS ls hl
  · refine lv_aload_n hx hb dL_law_236 rfl (lv_at hl 1 rfl) ?_
    refine zWi (wr := zpick (wXM G a am v r t vm rm tm) [5, 6, 7, 8, 9, 10, 11, 25, 26, 27, 28, 29, 30, 31, 32, 33, 34, 35, 36, 37, 38, 39, 40, 41, 42, 46, 47, 48, 49, 50, 51, 53, 54, 55, 56, 57, 58, 59, 60, 61, 62, 63, 64, 65]) (ws2 := wXM G (swO a) am (swI (upd (upd (upd (upd (upd (upd (upd (upd (upd (upd (upd (upd (upd (upd v 0 w0) 1 w1) 2 w2) 3 w3) 4 w4) 10 w5) 11 w6) 12 w7) 14 w8) 15 w15) 18 w17) 20 w19) 34 w20) 35 w21)) (swA (updA (updA (updA (updA (updA (updA (updA (updA (updA r 1 w9) 7 w10) 8 w11) 9 w12) 10 w13) 11 w14) 12 w16) 13 w18) 24 w22)) t vm rm tm) (va_runV (As := []) (rest := []) hC (c_X8_sky l G KV _ (a 0) (a 3) (a 1) (a 12) (a 17) (a 2) (a 4) (a 13) (a 14) (a 15) (a 16) (a 18) (a 19) (a 20) (a 21) (a 22) (a 23) (a 24) (a 44) (a 45) (a 52) (a 43) (a 5) (a 27) (a 35) (a 55) (a 26) (a 25) (a 47) (a 48) (a 49) (a 50) (a 51) (a 46) (a 53) (a 54) t (v 0) (v 1) (v 2) (v 3) (v 4) (v 10) (v 11) (v 12) (v 13) (v 14) (r 0) (r 1) (r 7) (r 8) (r 9) (r 10) (r 11) (v 15) (v 16) (r 12) (v 17) (v 18) (r 13) (v 19) (v 20) (v 33) (v 34) (v 35) (r 24) R0 w0 w1 w2 w3 w4 w5 w6 w7 w8 w9 w10 w11 w12 w13 w14 w15 w16 w17 w18 w19 w20 w21 w22 (a 5) (a 12) h1) (cwV 0 hts gL_law_X8_sky rfl rfl rfl hd_X8_sky ⟨(Nat.le_of_ble_eq_true rfl), (Nat.le_of_ble_eq_true rfl)⟩) (zPVwo hE hZ hS hA hP hD [0, 3, 1, 12, 17, 2, 4, 13, 14, 15, 16, 18, 19, 20, 21, 22, 23, 24, 44, 45, 52, 43] rfl rfl 0 rfl rfl) rfl rfl hl.1 rfl (lv_room (Nat.le_of_ble_eq_true rfl)) dL_law_237 ⟨(Nat.le_of_ble_eq_true rfl), (Nat.le_of_ble_eq_true rfl)⟩) hP hD hS hA [0, 3, 1, 12, 17, 2, 4, 13, 14, 15, 16, 18, 19, 20, 21, 22, 23, 24, 44, 45, 52, 43] [5, 6, 7, 8, 9, 10, 11, 25, 26, 27, 28, 29, 30, 31, 32, 33, 34, 35, 36, 37, 38, 39, 40, 41, 42, 46, 47, 48, 49, 50, 51, 53, 54, 55, 56, 57, 58, 59, 60, 61, 62, 63, 64, 65] [44, 46, 49, 45, 50, 47, 51, 52, 53, 54, 48, 55, 0, 1, 2, 3, 4, 5, 6, 56, 57, 58, 59, 60, 61, 7, 8, 9, 10, 11, 12, 13, 14, 15, 16, 17, 18, 19, 20, 21, 22, 23, 24, 65, 62, 63, 25, 26, 27, 28, 29, 30, 64, 31, 32, 33, 34, 35, 36, 37, 38, 39, 40, 41, 42, 43] rfl rfl rfl rfl (by decide) rfl rfl rfl (fun H locs hP hD hS => ?_)
    refine lv_aload_n hx hb dL_law_240 rfl (lv_at hl 2 rfl) ?_
    refine zWi (wr := zpick (wXM G (swO a) am (swI (upd (upd (upd (upd (upd (upd (upd (upd (upd (upd (upd (upd (upd (upd v 0 w0) 1 w1) 2 w2) 3 w3) 4 w4) 10 w5) 11 w6) 12 w7) 14 w8) 15 w15) 18 w17) 20 w19) 34 w20) 35 w21)) (swA (updA (updA (updA (updA (updA (updA (updA (updA (updA r 1 w9) 7 w10) 8 w11) 9 w12) 10 w13) 11 w14) 12 w16) 13 w18) 24 w22)) t vm rm tm) [0, 1, 2, 3, 4, 5, 6, 7, 8, 9, 10, 11, 12, 13, 14, 15, 16, 17, 18, 19, 20, 21, 22, 23, 24, 25, 26, 27, 28, 29, 30, 31, 32, 33, 34, 35, 36, 37, 38, 39, 40, 41, 42, 43, 44, 45, 46, 47, 48, 49, 50, 51, 52, 53, 54, 55, 62, 64, 65]) (ws2 := wXM G (swO a) am (swI (upd (upd (upd (upd (upd (upd (upd (upd (upd (upd (upd (upd (upd (upd v 0 w0) 1 w1) 2 w2) 3 w3) 4 w4) 10 w5) 11 w6) 12 w7) 14 w8) 15 w15) 18 w17) 20 w19) 34 w20) 35 w21)) (swA (updA (updA (updA (updA (updA (updA (updA (updA (updA r 1 w9) 7 w10) 8 w11) 9 w12) 10 w13) 11 w14) 12 w16) 13 w18) 24 w22)) t (upd (upd (upd (upd (upd (upd (upd (upd (upd (upd (upd (upd (upd (upd (upd (upd vm 0 z0) 1 z1) 2 z2) 3 z3) 4 z4) 5 z5) 6 z6) 7 z7) 8 z8) 9 z9) 10 z10) 11 z11) 12 z12) 13 z13) 14 z14) 15 z15) (updA (updA (updA (updA (updA rm 3 z16) 2 z17) 1 z18) 4 z19) 6 z20) tm) (va_runV (As := []) (rest := [.int R0]) hC (c_X9_sky l G _ (am 0) (am 1) (am 4) (am 3) (am 2) (am 5) (am 7) (am 6) (am 8) (am 9) (vm 0) tm (vm 1) (vm 2) (vm 3) (vm 4) (vm 5) (vm 6) (vm 7) (vm 8) (vm 9) (vm 10) (vm 11) (vm 12) (vm 13) (vm 14) (vm 15) (rm 0) (rm 3) (rm 2) (rm 1) (rm 4) (rm 6) R0 z0 z1 z2 z3 z4 z5 z6 z7 z8 z9 z10 z11 z12 z13 z14 z15 z16 z17 z18 z19 z20 h2) (cwV 0 hts gL_law_X9_sky rfl rfl rfl hd_X9_sky ⟨(Nat.le_of_ble_eq_true rfl), (Nat.le_of_ble_eq_true rfl)⟩) (zPVw hE hP hD [56, 57, 60, 59, 58, 61, 63] rfl rfl 56 rfl rfl) rfl rfl hl.1 rfl (lv_room (Nat.le_of_ble_eq_true rfl)) dL_law_241 ⟨(Nat.le_of_ble_eq_true rfl), (Nat.le_of_ble_eq_true rfl)⟩) hP hD hS hA [56, 57, 60, 59, 58, 61, 63] [0, 1, 2, 3, 4, 5, 6, 7, 8, 9, 10, 11, 12, 13, 14, 15, 16, 17, 18, 19, 20, 21, 22, 23, 24, 25, 26, 27, 28, 29, 30, 31, 32, 33, 34, 35, 36, 37, 38, 39, 40, 41, 42, 43, 44, 45, 46, 47, 48, 49, 50, 51, 52, 53, 54, 55, 62, 64, 65] [0, 1, 2, 3, 4, 5, 6, 7, 8, 9, 10, 11, 12, 13, 14, 15, 16, 17, 18, 19, 20, 21, 22, 23, 24, 25, 26, 27, 28, 29, 30, 31, 32, 33, 34, 35, 36, 37, 38, 39, 40, 41, 42, 43, 44, 45, 46, 47, 48, 49, 50, 51, 52, 53, 54, 55, 59, 60, 63, 62, 61, 64, 56, 65, 57, 58] rfl rfl rfl rfl (by decide) rfl rfl rfl (fun H locs hP hD hS => ?_)
    refine lv_icmp_eq (tgt := 1007) hx hb dL_law_244 (by decide) (fun _ => ?_) (fun h => absurd rfl h)
    exact cont _ _ _ _ _ _ _ _ hI2 H locs hP hD hS ls hl
set_option maxHeartbeats 4000000 in
set_option maxRecDepth 100000 in
theorem lc_star {p : Program} {l : Launch} {e : Env} {s : State} {m : MethodId} {below : List Frame} {meth : Method} {c : Code} {G : zG} {KV : zKV} {b L : Nat} {xs : Nat → Int32} (C0 : lw_At p s m meth c b L xs) (hE : zE G s) (hZ : zS KV (zA s) s s.heap) {x3 : Int32} (hin : ∀ j : Nat, j < 7 → vp_in (x3 + nI j) L) (cont : lAt p l e s m below meth c G b x3 1007) : lAt p l e s m below meth c G b x3 249 := by
  intro a am v r t vm rm tm hI H locs hP hD hS ls hl
  obtain ⟨hx, hb, hr, hml, hown, hts0, hX, hbl, hlocks, hgv⟩ := C0
  have hts : ∀ w ∈ wsL_law, w.before #[Value.ref b] s = true := fun w h => hts0 w (wsL_law_in w h)
  have hbA : ¬ zA s b := Nat.not_le.mpr hbl
  have hA : ∀ q : Nat, s.heap.size ≤ q → zA s q := fun _ h => h
  have hC : CallFix p m c cL_law 4 s #[Value.ref b] wsL_law RL := ⟨hx, hb, hml, hown, hts⟩
  obtain ⟨p1, hp1⟩ : ∃ y : Int32, xs (x3 + (1 : Int32)).toNatClampNeg = y := ⟨_, rfl⟩
  obtain ⟨p2, hp2⟩ : ∃ y : Int32, xs (x3 + (2 : Int32)).toNatClampNeg = y := ⟨_, rfl⟩
  obtain ⟨R0, z0, h1, h2, hI2⟩ := pm_star v r t vm rm tm hI (p1) (p2)
  refine lv_aload_n hx hb dL_law_249 rfl (lv_at hl 1 rfl) ?_
  refine lv_aload_n hx hb dL_law_250 rfl (lv_at hl 0 rfl) ?_
  refine lv_iload_n hx hb dL_law_251 rfl (lv_at hl 3 rfl) ?_
  refine lv_iconst (v := (1 : Int32)) hx hb dL_law_252 (by decide) ?_
  refine lv_iadd hx hb dL_law_253 ?_
  refine z_sld (v := p1) hx hb hX hbl hbA hS (hin 1 (by decide)) hp1 dL_law_254 ?_
  refine lv_aload_n hx hb dL_law_255 rfl (lv_at hl 0 rfl) ?_
  refine lv_iload_n hx hb dL_law_256 rfl (lv_at hl 3 rfl) ?_
  refine lv_iconst (v := (2 : Int32)) hx hb dL_law_257 (by decide) ?_
  refine lv_iadd hx hb dL_law_258 ?_
  refine z_sld (v := p2) hx hb hX hbl hbA hS (hin 2 (by decide)) hp2 dL_law_259 ?_
  refine zRi (va_runV (As := [.int p1, .int p2]) (rest := []) hC (c_X8_star l G (a 0) (a 5) (a 7) (a 6) (a 1) (a 3) (a 12) (a 19) (a 27) (a 35) (a 43) (a 44) (a 52) (a 55) (a 8) (a 9) (a 10) t (v 5) (v 6) (v 7) (r 3) (r 2) (p1) (p2) R0 h1) (cwV 2 hts gL_law_X8_star rfl rfl rfl hd_X8_star ⟨(Nat.le_of_ble_eq_true rfl), (Nat.le_of_ble_eq_true rfl)⟩) (zPV hE hP [0, 5, 7, 6] rfl 0 rfl rfl) rfl rfl hl.1 rfl (lv_room (Nat.le_of_ble_eq_true rfl)) dL_law_260 ⟨(Nat.le_of_ble_eq_true rfl), (Nat.le_of_ble_eq_true rfl)⟩) ?_
  refine lv_aload_n hx hb dL_law_263 rfl (lv_at hl 2 rfl) ?_
  refine lv_aload_n hx hb dL_law_264 rfl (lv_at hl 0 rfl) ?_
  refine lv_iload_n hx hb dL_law_265 rfl (lv_at hl 3 rfl) ?_
  refine lv_iconst (v := (1 : Int32)) hx hb dL_law_266 (by decide) ?_
  refine lv_iadd hx hb dL_law_267 ?_
  refine z_sld (v := p1) hx hb hX hbl hbA hS (hin 1 (by decide)) hp1 dL_law_268 ?_
  refine lv_aload_n hx hb dL_law_269 rfl (lv_at hl 0 rfl) ?_
  refine lv_iload_n hx hb dL_law_270 rfl (lv_at hl 3 rfl) ?_
  refine lv_iconst (v := (2 : Int32)) hx hb dL_law_271 (by decide) ?_
  refine lv_iadd hx hb dL_law_272 ?_
  refine z_sld (v := p2) hx hb hX hbl hbA hS (hin 2 (by decide)) hp2 dL_law_273 ?_
  refine zWi (wr := zpick (wXM G a am v r t vm rm tm) [0, 1, 2, 3, 4, 5, 6, 7, 8, 9, 10, 11, 12, 13, 14, 15, 16, 17, 18, 19, 20, 21, 22, 23, 24, 25, 26, 27, 28, 29, 30, 31, 32, 33, 34, 35, 36, 37, 38, 39, 40, 41, 42, 43, 44, 45, 46, 47, 48, 49, 50, 51, 52, 53, 54, 55, 57, 59, 60, 61, 62, 63, 64, 65]) (ws2 := wXM G a am v r t (upd vm 0 z0) rm tm) (va_runV (As := [.int p1, .int p2]) (rest := [.int R0]) hC (c_X9_star l G _ (am 0) (am 2) (am 1) (am 3) (am 4) (am 5) (am 6) (am 7) (am 8) (am 9) (vm 0) tm (vm 1) (vm 2) (vm 3) (vm 4) (vm 5) (vm 6) (vm 7) (vm 8) (vm 9) (vm 10) (vm 11) (vm 12) (vm 13) (vm 14) (vm 15) (rm 1) (p1) (p2) R0 z0 h2) (cwV 2 hts gL_law_X9_star rfl rfl rfl hd_X9_star ⟨(Nat.le_of_ble_eq_true rfl), (Nat.le_of_ble_eq_true rfl)⟩) (zPVw hE hP hD [56, 58] rfl rfl 56 rfl rfl) rfl rfl hl.1 rfl (lv_room (Nat.le_of_ble_eq_true rfl)) dL_law_274 ⟨(Nat.le_of_ble_eq_true rfl), (Nat.le_of_ble_eq_true rfl)⟩) hP hD hS hA [56, 58] [0, 1, 2, 3, 4, 5, 6, 7, 8, 9, 10, 11, 12, 13, 14, 15, 16, 17, 18, 19, 20, 21, 22, 23, 24, 25, 26, 27, 28, 29, 30, 31, 32, 33, 34, 35, 36, 37, 38, 39, 40, 41, 42, 43, 44, 45, 46, 47, 48, 49, 50, 51, 52, 53, 54, 55, 57, 59, 60, 61, 62, 63, 64, 65] [0, 1, 2, 3, 4, 5, 6, 7, 8, 9, 10, 11, 12, 13, 14, 15, 16, 17, 18, 19, 20, 21, 22, 23, 24, 25, 26, 27, 28, 29, 30, 31, 32, 33, 34, 35, 36, 37, 38, 39, 40, 41, 42, 43, 44, 45, 46, 47, 48, 49, 50, 51, 52, 53, 54, 55, 64, 56, 65, 57, 58, 59, 60, 61, 62, 63] rfl rfl rfl rfl (by decide) rfl rfl rfl (fun H locs hP hD hS => ?_)
  refine lv_icmp_eq (tgt := 1007) hx hb dL_law_277 (by decide) (fun _ => ?_) (fun h => absurd rfl h)
  exact cont _ _ _ _ _ _ _ _ hI2 _ _ hP hD hS ls hl
set_option maxHeartbeats 4000000 in
set_option maxRecDepth 100000 in
theorem lc_lease {p : Program} {l : Launch} {e : Env} {s : State} {m : MethodId} {below : List Frame} {meth : Method} {c : Code} {G : zG} {KV : zKV} {b L : Nat} {xs : Nat → Int32} (C0 : lw_At p s m meth c b L xs) (hE : zE G s) (hZ : zS KV (zA s) s s.heap) {x3 : Int32} (hin : ∀ j : Nat, j < 7 → vp_in (x3 + nI j) L) (cont : lAt p l e s m below meth c G b x3 1007) : lAt p l e s m below meth c G b x3 282 := by
  intro a am v r t vm rm tm hI H locs hP hD hS ls hl
  obtain ⟨hx, hb, hr, hml, hown, hts0, hX, hbl, hlocks, hgv⟩ := C0
  have hts : ∀ w ∈ wsL_law, w.before #[Value.ref b] s = true := fun w h => hts0 w (wsL_law_in w h)
  have hbA : ¬ zA s b := Nat.not_le.mpr hbl
  have hA : ∀ q : Nat, s.heap.size ≤ q → zA s q := fun _ h => h
  have hC : CallFix p m c cL_law 4 s #[Value.ref b] wsL_law RL := ⟨hx, hb, hml, hown, hts⟩
  obtain ⟨p1, hp1⟩ : ∃ y : Int32, xs (x3 + (1 : Int32)).toNatClampNeg = y := ⟨_, rfl⟩
  obtain ⟨p2, hp2⟩ : ∃ y : Int32, xs (x3 + (2 : Int32)).toNatClampNeg = y := ⟨_, rfl⟩
  obtain ⟨R0, z0, h1, h2, hI2⟩ := pm_lease v r t vm rm tm hI (p1) (p2)
  refine lv_aload_n hx hb dL_law_282 rfl (lv_at hl 1 rfl) ?_
  refine lv_aload_n hx hb dL_law_283 rfl (lv_at hl 0 rfl) ?_
  refine lv_iload_n hx hb dL_law_284 rfl (lv_at hl 3 rfl) ?_
  refine lv_iconst (v := (1 : Int32)) hx hb dL_law_285 (by decide) ?_
  refine lv_iadd hx hb dL_law_286 ?_
  refine z_sld (v := p1) hx hb hX hbl hbA hS (hin 1 (by decide)) hp1 dL_law_287 ?_
  refine lv_aload_n hx hb dL_law_288 rfl (lv_at hl 0 rfl) ?_
  refine lv_iload_n hx hb dL_law_289 rfl (lv_at hl 3 rfl) ?_
  refine lv_iconst (v := (2 : Int32)) hx hb dL_law_290 (by decide) ?_
  refine lv_iadd hx hb dL_law_291 ?_
  refine z_sld (v := p2) hx hb hX hbl hbA hS (hin 2 (by decide)) hp2 dL_law_292 ?_
  refine zRi (va_runV (As := [.int p1, .int p2]) (rest := []) hC (c_X8_lease l G (a 0) (a 19) (a 21) (a 22) (a 1) (a 3) (a 5) (a 12) (a 27) (a 35) (a 43) (a 44) (a 52) (a 55) (a 20) (a 23) t (v 15) (v 16) (v 17) (v 18) (r 13) (p1) (p2) R0 h1) (cwV 2 hts gL_law_X8_lease rfl rfl rfl hd_X8_lease ⟨(Nat.le_of_ble_eq_true rfl), (Nat.le_of_ble_eq_true rfl)⟩) (zPV hE hP [0, 19, 21, 22] rfl 0 rfl rfl) rfl rfl hl.1 rfl (lv_room (Nat.le_of_ble_eq_true rfl)) dL_law_293 ⟨(Nat.le_of_ble_eq_true rfl), (Nat.le_of_ble_eq_true rfl)⟩) ?_
  refine lv_aload_n hx hb dL_law_296 rfl (lv_at hl 2 rfl) ?_
  refine lv_aload_n hx hb dL_law_297 rfl (lv_at hl 0 rfl) ?_
  refine lv_iload_n hx hb dL_law_298 rfl (lv_at hl 3 rfl) ?_
  refine lv_iconst (v := (1 : Int32)) hx hb dL_law_299 (by decide) ?_
  refine lv_iadd hx hb dL_law_300 ?_
  refine z_sld (v := p1) hx hb hX hbl hbA hS (hin 1 (by decide)) hp1 dL_law_301 ?_
  refine lv_aload_n hx hb dL_law_302 rfl (lv_at hl 0 rfl) ?_
  refine lv_iload_n hx hb dL_law_303 rfl (lv_at hl 3 rfl) ?_
  refine lv_iconst (v := (2 : Int32)) hx hb dL_law_304 (by decide) ?_
  refine lv_iadd hx hb dL_law_305 ?_
  refine z_sld (v := p2) hx hb hX hbl hbA hS (hin 2 (by decide)) hp2 dL_law_306 ?_
  refine zWi (wr := zpick (wXM G a am v r t vm rm tm) [0, 1, 2, 3, 4, 5, 6, 7, 8, 9, 10, 11, 12, 13, 14, 15, 16, 17, 18, 19, 20, 21, 22, 23, 24, 25, 26, 27, 28, 29, 30, 31, 32, 33, 34, 35, 36, 37, 38, 39, 40, 41, 42, 43, 44, 45, 46, 47, 48, 49, 50, 51, 52, 53, 54, 55, 57, 58, 59, 60, 62, 63, 64, 65]) (ws2 := wXM G a am v r t (upd vm 0 z0) rm tm) (va_runV (As := [.int p1, .int p2]) (rest := [.int R0]) hC (c_X9_lease l G _ (am 0) (am 5) (am 1) (am 2) (am 3) (am 4) (am 6) (am 7) (am 8) (am 9) (vm 0) tm (vm 1) (vm 2) (vm 3) (vm 4) (vm 5) (vm 6) (vm 7) (vm 8) (vm 9) (vm 10) (vm 11) (vm 12) (vm 13) (vm 14) (vm 15) (rm 4) (p1) (p2) R0 z0 h2) (cwV 2 hts gL_law_X9_lease rfl rfl rfl hd_X9_lease ⟨(Nat.le_of_ble_eq_true rfl), (Nat.le_of_ble_eq_true rfl)⟩) (zPVw hE hP hD [56, 61] rfl rfl 56 rfl rfl) rfl rfl hl.1 rfl (lv_room (Nat.le_of_ble_eq_true rfl)) dL_law_307 ⟨(Nat.le_of_ble_eq_true rfl), (Nat.le_of_ble_eq_true rfl)⟩) hP hD hS hA [56, 61] [0, 1, 2, 3, 4, 5, 6, 7, 8, 9, 10, 11, 12, 13, 14, 15, 16, 17, 18, 19, 20, 21, 22, 23, 24, 25, 26, 27, 28, 29, 30, 31, 32, 33, 34, 35, 36, 37, 38, 39, 40, 41, 42, 43, 44, 45, 46, 47, 48, 49, 50, 51, 52, 53, 54, 55, 57, 58, 59, 60, 62, 63, 64, 65] [0, 1, 2, 3, 4, 5, 6, 7, 8, 9, 10, 11, 12, 13, 14, 15, 16, 17, 18, 19, 20, 21, 22, 23, 24, 25, 26, 27, 28, 29, 30, 31, 32, 33, 34, 35, 36, 37, 38, 39, 40, 41, 42, 43, 44, 45, 46, 47, 48, 49, 50, 51, 52, 53, 54, 55, 64, 56, 57, 58, 59, 65, 60, 61, 62, 63] rfl rfl rfl rfl (by decide) rfl rfl rfl (fun H locs hP hD hS => ?_)
  refine lv_icmp_eq (tgt := 1007) hx hb dL_law_310 (by decide) (fun _ => ?_) (fun h => absurd rfl h)
  exact cont _ _ _ _ _ _ _ _ hI2 _ _ hP hD hS ls hl
set_option maxHeartbeats 4000000 in
set_option maxRecDepth 100000 in
theorem lc_whose {p : Program} {l : Launch} {e : Env} {s : State} {m : MethodId} {below : List Frame} {meth : Method} {c : Code} {G : zG} {KV : zKV} {b L : Nat} {xs : Nat → Int32} (C0 : lw_At p s m meth c b L xs) (hE : zE G s) (hZ : zS KV (zA s) s s.heap) {x3 : Int32} (hin : ∀ j : Nat, j < 7 → vp_in (x3 + nI j) L) (cont : lAt p l e s m below meth c G b x3 1007) : lAt p l e s m below meth c G b x3 315 := by
  intro a am v r t vm rm tm hI H locs hP hD hS ls hl
  obtain ⟨hx, hb, hr, hml, hown, hts0, hX, hbl, hlocks, hgv⟩ := C0
  have hts : ∀ w ∈ wsL_law, w.before #[Value.ref b] s = true := fun w h => hts0 w (wsL_law_in w h)
  have hbA : ¬ zA s b := Nat.not_le.mpr hbl
  have hA : ∀ q : Nat, s.heap.size ≤ q → zA s q := fun _ h => h
  have hC : CallFix p m c cL_law 4 s #[Value.ref b] wsL_law RL := ⟨hx, hb, hml, hown, hts⟩
  obtain ⟨p1, hp1⟩ : ∃ y : Int32, xs (x3 + (1 : Int32)).toNatClampNeg = y := ⟨_, rfl⟩
  obtain ⟨p2, hp2⟩ : ∃ y : Int32, xs (x3 + (2 : Int32)).toNatClampNeg = y := ⟨_, rfl⟩
  obtain ⟨R0, z0, h1, h2, hI2⟩ := pm_whose v r t vm rm tm hI (p1) (p2)
  refine lv_aload_n hx hb dL_law_315 rfl (lv_at hl 1 rfl) ?_
  refine lv_aload_n hx hb dL_law_316 rfl (lv_at hl 0 rfl) ?_
  refine lv_iload_n hx hb dL_law_317 rfl (lv_at hl 3 rfl) ?_
  refine lv_iconst (v := (1 : Int32)) hx hb dL_law_318 (by decide) ?_
  refine lv_iadd hx hb dL_law_319 ?_
  refine z_sld (v := p1) hx hb hX hbl hbA hS (hin 1 (by decide)) hp1 dL_law_320 ?_
  refine lv_aload_n hx hb dL_law_321 rfl (lv_at hl 0 rfl) ?_
  refine lv_iload_n hx hb dL_law_322 rfl (lv_at hl 3 rfl) ?_
  refine lv_iconst (v := (2 : Int32)) hx hb dL_law_323 (by decide) ?_
  refine lv_iadd hx hb dL_law_324 ?_
  refine z_sld (v := p2) hx hb hX hbl hbA hS (hin 2 (by decide)) hp2 dL_law_325 ?_
  refine zRi (va_runV (As := [.int p1, .int p2]) (rest := []) hC (c_X8_whose l G (a 0) (a 5) (a 19) (a 21) (a 22) (a 1) (a 3) (a 12) (a 27) (a 35) (a 43) (a 44) (a 52) (a 55) (a 6) (a 7) (a 8) (a 9) (a 10) (a 20) (a 23) t (v 5) (v 6) (v 7) (v 15) (v 16) (v 17) (v 18) (r 13) (p1) (p2) R0 h1) (cwV 2 hts gL_law_X8_whose rfl rfl rfl hd_X8_whose ⟨(Nat.le_of_ble_eq_true rfl), (Nat.le_of_ble_eq_true rfl)⟩) (zPV hE hP [0, 5, 19, 21, 22] rfl 0 rfl rfl) rfl rfl hl.1 rfl (lv_room (Nat.le_of_ble_eq_true rfl)) dL_law_326 ⟨(Nat.le_of_ble_eq_true rfl), (Nat.le_of_ble_eq_true rfl)⟩) ?_
  refine lv_aload_n hx hb dL_law_329 rfl (lv_at hl 2 rfl) ?_
  refine lv_aload_n hx hb dL_law_330 rfl (lv_at hl 0 rfl) ?_
  refine lv_iload_n hx hb dL_law_331 rfl (lv_at hl 3 rfl) ?_
  refine lv_iconst (v := (1 : Int32)) hx hb dL_law_332 (by decide) ?_
  refine lv_iadd hx hb dL_law_333 ?_
  refine z_sld (v := p1) hx hb hX hbl hbA hS (hin 1 (by decide)) hp1 dL_law_334 ?_
  refine lv_aload_n hx hb dL_law_335 rfl (lv_at hl 0 rfl) ?_
  refine lv_iload_n hx hb dL_law_336 rfl (lv_at hl 3 rfl) ?_
  refine lv_iconst (v := (2 : Int32)) hx hb dL_law_337 (by decide) ?_
  refine lv_iadd hx hb dL_law_338 ?_
  refine z_sld (v := p2) hx hb hX hbl hbA hS (hin 2 (by decide)) hp2 dL_law_339 ?_
  refine zWi (wr := zpick (wXM G a am v r t vm rm tm) [0, 1, 2, 3, 4, 5, 6, 7, 8, 9, 10, 11, 12, 13, 14, 15, 16, 17, 18, 19, 20, 21, 22, 23, 24, 25, 26, 27, 28, 29, 30, 31, 32, 33, 34, 35, 36, 37, 38, 39, 40, 41, 42, 43, 44, 45, 46, 47, 48, 49, 50, 51, 52, 53, 54, 55, 57, 58, 59, 60, 62, 63, 64, 65]) (ws2 := wXM G a am v r t (upd vm 0 z0) rm tm) (va_runV (As := [.int p1, .int p2]) (rest := [.int R0]) hC (c_X9_whose l G _ (am 0) (am 5) (am 1) (am 2) (am 3) (am 4) (am 6) (am 7) (am 8) (am 9) (vm 0) tm (vm 1) (vm 2) (vm 3) (vm 4) (vm 5) (vm 6) (vm 7) (vm 8) (vm 9) (vm 10) (vm 11) (vm 12) (vm 13) (vm 14) (vm 15) (rm 4) (p1) (p2) R0 z0 h2) (cwV 2 hts gL_law_X9_whose rfl rfl rfl hd_X9_whose ⟨(Nat.le_of_ble_eq_true rfl), (Nat.le_of_ble_eq_true rfl)⟩) (zPVw hE hP hD [56, 61] rfl rfl 56 rfl rfl) rfl rfl hl.1 rfl (lv_room (Nat.le_of_ble_eq_true rfl)) dL_law_340 ⟨(Nat.le_of_ble_eq_true rfl), (Nat.le_of_ble_eq_true rfl)⟩) hP hD hS hA [56, 61] [0, 1, 2, 3, 4, 5, 6, 7, 8, 9, 10, 11, 12, 13, 14, 15, 16, 17, 18, 19, 20, 21, 22, 23, 24, 25, 26, 27, 28, 29, 30, 31, 32, 33, 34, 35, 36, 37, 38, 39, 40, 41, 42, 43, 44, 45, 46, 47, 48, 49, 50, 51, 52, 53, 54, 55, 57, 58, 59, 60, 62, 63, 64, 65] [0, 1, 2, 3, 4, 5, 6, 7, 8, 9, 10, 11, 12, 13, 14, 15, 16, 17, 18, 19, 20, 21, 22, 23, 24, 25, 26, 27, 28, 29, 30, 31, 32, 33, 34, 35, 36, 37, 38, 39, 40, 41, 42, 43, 44, 45, 46, 47, 48, 49, 50, 51, 52, 53, 54, 55, 64, 56, 57, 58, 59, 65, 60, 61, 62, 63] rfl rfl rfl rfl (by decide) rfl rfl rfl (fun H locs hP hD hS => ?_)
  refine lv_icmp_eq (tgt := 1007) hx hb dL_law_343 (by decide) (fun _ => ?_) (fun h => absurd rfl h)
  exact cont _ _ _ _ _ _ _ _ hI2 _ _ hP hD hS ls hl
set_option maxHeartbeats 4000000 in
set_option maxRecDepth 100000 in
theorem lc_claims {p : Program} {l : Launch} {e : Env} {s : State} {m : MethodId} {below : List Frame} {meth : Method} {c : Code} {G : zG} {KV : zKV} {b L : Nat} {xs : Nat → Int32} (C0 : lw_At p s m meth c b L xs) (hE : zE G s) (hZ : zS KV (zA s) s s.heap) {x3 : Int32} (hin : ∀ j : Nat, j < 7 → vp_in (x3 + nI j) L) (cont : lAt p l e s m below meth c G b x3 1007) : lAt p l e s m below meth c G b x3 348 := by
  intro a am v r t vm rm tm hI H locs hP hD hS ls hl
  obtain ⟨hx, hb, hr, hml, hown, hts0, hX, hbl, hlocks, hgv⟩ := C0
  have hts : ∀ w ∈ wsL_law, w.before #[Value.ref b] s = true := fun w h => hts0 w (wsL_law_in w h)
  have hbA : ¬ zA s b := Nat.not_le.mpr hbl
  have hA : ∀ q : Nat, s.heap.size ≤ q → zA s q := fun _ h => h
  have hC : CallFix p m c cL_law 4 s #[Value.ref b] wsL_law RL := ⟨hx, hb, hml, hown, hts⟩
  obtain ⟨p1, hp1⟩ : ∃ y : Int32, xs (x3 + (1 : Int32)).toNatClampNeg = y := ⟨_, rfl⟩
  obtain ⟨p2, hp2⟩ : ∃ y : Int32, xs (x3 + (2 : Int32)).toNatClampNeg = y := ⟨_, rfl⟩
  obtain ⟨R0, z0, h1, h2, hI2⟩ := pm_claims v r t vm rm tm hI (p1) (p2)
  refine lv_aload_n hx hb dL_law_348 rfl (lv_at hl 1 rfl) ?_
  refine lv_aload_n hx hb dL_law_349 rfl (lv_at hl 0 rfl) ?_
  refine lv_iload_n hx hb dL_law_350 rfl (lv_at hl 3 rfl) ?_
  refine lv_iconst (v := (1 : Int32)) hx hb dL_law_351 (by decide) ?_
  refine lv_iadd hx hb dL_law_352 ?_
  refine z_sld (v := p1) hx hb hX hbl hbA hS (hin 1 (by decide)) hp1 dL_law_353 ?_
  refine lv_aload_n hx hb dL_law_354 rfl (lv_at hl 0 rfl) ?_
  refine lv_iload_n hx hb dL_law_355 rfl (lv_at hl 3 rfl) ?_
  refine lv_iconst (v := (2 : Int32)) hx hb dL_law_356 (by decide) ?_
  refine lv_iadd hx hb dL_law_357 ?_
  refine z_sld (v := p2) hx hb hX hbl hbA hS (hin 2 (by decide)) hp2 dL_law_358 ?_
  refine zRi (va_runV (As := [.int p1, .int p2]) (rest := []) hC (c_X8_claims l G (a 0) (a 5) (a 19) (a 21) (a 22) (a 1) (a 3) (a 12) (a 27) (a 35) (a 43) (a 44) (a 52) (a 55) (a 6) (a 7) (a 8) (a 9) (a 10) (a 20) (a 23) t (v 5) (v 6) (v 7) (v 15) (v 16) (v 17) (v 18) (r 13) (p1) (p2) R0 h1) (cwV 2 hts gL_law_X8_claims rfl rfl rfl hd_X8_claims ⟨(Nat.le_of_ble_eq_true rfl), (Nat.le_of_ble_eq_true rfl)⟩) (zPV hE hP [0, 5, 19, 21, 22] rfl 0 rfl rfl) rfl rfl hl.1 rfl (lv_room (Nat.le_of_ble_eq_true rfl)) dL_law_359 ⟨(Nat.le_of_ble_eq_true rfl), (Nat.le_of_ble_eq_true rfl)⟩) ?_
  refine lv_aload_n hx hb dL_law_362 rfl (lv_at hl 2 rfl) ?_
  refine lv_aload_n hx hb dL_law_363 rfl (lv_at hl 0 rfl) ?_
  refine lv_iload_n hx hb dL_law_364 rfl (lv_at hl 3 rfl) ?_
  refine lv_iconst (v := (1 : Int32)) hx hb dL_law_365 (by decide) ?_
  refine lv_iadd hx hb dL_law_366 ?_
  refine z_sld (v := p1) hx hb hX hbl hbA hS (hin 1 (by decide)) hp1 dL_law_367 ?_
  refine lv_aload_n hx hb dL_law_368 rfl (lv_at hl 0 rfl) ?_
  refine lv_iload_n hx hb dL_law_369 rfl (lv_at hl 3 rfl) ?_
  refine lv_iconst (v := (2 : Int32)) hx hb dL_law_370 (by decide) ?_
  refine lv_iadd hx hb dL_law_371 ?_
  refine z_sld (v := p2) hx hb hX hbl hbA hS (hin 2 (by decide)) hp2 dL_law_372 ?_
  refine zWi (wr := zpick (wXM G a am v r t vm rm tm) [0, 1, 2, 3, 4, 5, 6, 7, 8, 9, 10, 11, 12, 13, 14, 15, 16, 17, 18, 19, 20, 21, 22, 23, 24, 25, 26, 27, 28, 29, 30, 31, 32, 33, 34, 35, 36, 37, 38, 39, 40, 41, 42, 43, 44, 45, 46, 47, 48, 49, 50, 51, 52, 53, 54, 55, 57, 58, 59, 60, 62, 63, 64, 65]) (ws2 := wXM G a am v r t (upd vm 0 z0) rm tm) (va_runV (As := [.int p1, .int p2]) (rest := [.int R0]) hC (c_X9_claims l G _ (am 0) (am 5) (am 1) (am 2) (am 3) (am 4) (am 6) (am 7) (am 8) (am 9) (vm 0) tm (vm 1) (vm 2) (vm 3) (vm 4) (vm 5) (vm 6) (vm 7) (vm 8) (vm 9) (vm 10) (vm 11) (vm 12) (vm 13) (vm 14) (vm 15) (rm 4) (p1) (p2) R0 z0 h2) (cwV 2 hts gL_law_X9_claims rfl rfl rfl hd_X9_claims ⟨(Nat.le_of_ble_eq_true rfl), (Nat.le_of_ble_eq_true rfl)⟩) (zPVw hE hP hD [56, 61] rfl rfl 56 rfl rfl) rfl rfl hl.1 rfl (lv_room (Nat.le_of_ble_eq_true rfl)) dL_law_373 ⟨(Nat.le_of_ble_eq_true rfl), (Nat.le_of_ble_eq_true rfl)⟩) hP hD hS hA [56, 61] [0, 1, 2, 3, 4, 5, 6, 7, 8, 9, 10, 11, 12, 13, 14, 15, 16, 17, 18, 19, 20, 21, 22, 23, 24, 25, 26, 27, 28, 29, 30, 31, 32, 33, 34, 35, 36, 37, 38, 39, 40, 41, 42, 43, 44, 45, 46, 47, 48, 49, 50, 51, 52, 53, 54, 55, 57, 58, 59, 60, 62, 63, 64, 65] [0, 1, 2, 3, 4, 5, 6, 7, 8, 9, 10, 11, 12, 13, 14, 15, 16, 17, 18, 19, 20, 21, 22, 23, 24, 25, 26, 27, 28, 29, 30, 31, 32, 33, 34, 35, 36, 37, 38, 39, 40, 41, 42, 43, 44, 45, 46, 47, 48, 49, 50, 51, 52, 53, 54, 55, 64, 56, 57, 58, 59, 65, 60, 61, 62, 63] rfl rfl rfl rfl (by decide) rfl rfl rfl (fun H locs hP hD hS => ?_)
  refine lv_icmp_eq (tgt := 1007) hx hb dL_law_376 (by decide) (fun _ => ?_) (fun h => absurd rfl h)
  exact cont _ _ _ _ _ _ _ _ hI2 _ _ hP hD hS ls hl
