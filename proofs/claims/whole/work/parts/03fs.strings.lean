/-! the String constants of SkyLeases$Text: "sky", "star", "tenant", "lease" -/
def zL : List Nat := [3, 4, 6, 5]
def zBy : List (List Int32) := [[115, 107, 121], [115, 116, 97, 114], [116, 101, 110, 97, 110, 116], [108, 101, 97, 115, 101]]
abbrev zKV : Type := (Nat → Nat) × (Nat → Nat)
def zS (KV : zKV) (A : Nat → Prop) (U : State) (H : Heap) : Prop :=
  vk_S 4 zL zBy KV.1 KV.2 A U H ∧ va_Z "java/lang/String" "COMPACT_STRINGS" "Z" (.int 1) A U H ∧ va_Zq "jdk/internal/util/Preconditions" "SIOOBE_FORMATTER" "Ljava/util/function/BiFunction;" A U H ∧ vk_R RX7 54 "sky" (KV.1 0) U ∧ vk_R RX7 60 "star" (KV.1 1) U ∧ vk_R RX7 62 "tenant" (KV.1 2) U ∧ vk_R RX7 64 "lease" (KV.1 3) U
theorem zS.warm {KV : zKV} {A : Nat → Prop} {s U : State} {H : Heap} (hW : s.WarmedH U.vm) (h : zS KV A s H) : zS KV A U H := ⟨h.1.moved hW.alike, h.2.1.moved hW.alike, h.2.2.1.moved hW.alike, vk_R.warm hW h.2.2.2.1, vk_R.warm hW h.2.2.2.2.1, vk_R.warm hW h.2.2.2.2.2.1, vk_R.warm hW h.2.2.2.2.2.2⟩
theorem zS.kept {KV : zKV} {A : Nat → Prop} {U : State} {H H1 : Heap} (h : zS KV A U H) (hq : ∀ a : Nat, a < H.size → ¬ A a → H1[a]? = H[a]?) : zS KV A U H1 := ⟨h.1.kept hq, h.2.1.kept hq, h.2.2.1.kept hq, h.2.2.2⟩
theorem zS.narrow {KV : zKV} {A B : Nat → Prop} {U : State} {H : Heap} (h : zS KV A U H) (hAB : ∀ q, B q → A q) : zS KV B U H := ⟨h.1.narrow hAB, h.2.1.narrow hAB, h.2.2.1.narrow hAB, h.2.2.2⟩
theorem zS.call {KV : zKV} {A : Nat → Prop} {U : State} {g : JFrame} {mk : MethodId} {a : Array Value} (h : zS KV A U U.heap) : zS KV A (U.calling g mk a) (U.calling g mk a).heap :=
  ⟨vk_S.moved (u := U) (U := U.calling g mk a) (Vm.Alike.refl U.vm) h.1, va_Z.moved (u := U) (U := U.calling g mk a) (Vm.Alike.refl U.vm) h.2.1, va_Zq.moved (u := U) (U := U.calling g mk a) (Vm.Alike.refl U.vm) h.2.2.1, vk_R.same (u := U) rfl h.2.2.2.1, vk_R.same (u := U) rfl h.2.2.2.2.1, vk_R.same (u := U) rfl h.2.2.2.2.2.1, vk_R.same (u := U) rfl h.2.2.2.2.2.2⟩
def zRs (G : zG) (KV : zKV) (ws : va_W) (U : State) : Prop := zR G ws U ∧ zS KV (fun _ => False) U U.heap
def zBs (G : zG) (KV : zKV) (ws : va_W) (sz : Nat) (U : State) : Prop := zB G ws sz U ∧ zS KV (va_A ws sz) U U.heap
theorem zPVk {G : zG} {KV : zKV} {A : Nat → Prop} {s : State} {H : Heap} {locs : List Loc} {i : Nat} {As : List Value} (hE : zE G s) (hZ : zS KV A s s.heap) (hS : va_S A s.heap H locs) (hi : i < 4) : PreV s H RJ0 (KV.1 i) (va_Pc (.ref (KV.1 i) :: As) (zRs G KV [])) As :=
  ⟨fun _ _ _ _ q => ⟨q.1, ⟨q.2.1.1, q.2.1.2.call⟩, q.2.2.call⟩, vk_recv hZ.1 hi hS, fun U hU hW => ⟨rfl, ⟨fun k q h => by simp at h, hE.warm hW⟩, by rw [hU]; exact ((hZ.kept hS.2.1).narrow (fun _ h => h.elim)).warm hW⟩⟩
theorem zPSk {G : zG} {KV : zKV} {A : Nat → Prop} {s : State} {H : Heap} {locs : List Loc} {As : List Value} (hE : zE G s) (hZ : zS KV A s s.heap) (hS : va_S A s.heap H locs) : PreS s H (va_Pc As (zRs G KV [])) As :=
  ⟨fun _ _ _ _ q => ⟨q.1, ⟨q.2.1.1, q.2.1.2.call⟩, q.2.2.call⟩, fun U hU hW => ⟨rfl, ⟨fun k q h => by simp at h, hE.warm hW⟩, by rw [hU]; exact ((hZ.kept hS.2.1).narrow (fun _ h => h.elim)).warm hW⟩⟩
theorem zPVo {G : zG} {KV : zKV} {A : Nat → Prop} {s : State} {H : Heap} {locs : List Loc} {ws wc : va_W} {b ci : Nat} {q : vw_C} {fs : List Value} {As : List Value} (hE : zE G s) (hZ : zS KV A s s.heap) (hS : va_S A s.heap H locs) (hP : va_P G.1 vwCl ws H) (is : List Nat) (hs : is.map (fun i => ws[i]?) = wc.map some) (q0 : Nat) (hc : vwCl[ci]? = some q) (he : ws[q0]? = some (b, .inr (ci, fs))) : PreV s H q.1 b (va_Pc (.ref b :: As) (zRs G KV wc)) As :=
  ⟨fun _ _ _ _ q => ⟨q.1, ⟨q.2.1.1, q.2.1.2.call⟩, q.2.2.call⟩, va_recv hE.1 hP hc he, fun _ hU hW => ⟨rfl, ⟨by rw [hU]; exact hP.sub is (zfm hs), hE.warm hW⟩, by rw [hU]; exact ((hZ.kept hS.2.1).narrow (fun _ h => h.elim)).warm hW⟩⟩
theorem zPVwo {G : zG} {KV : zKV} {A : Nat → Prop} {s : State} {H : Heap} {locs : List Loc} {ws wc : va_W} {b ci : Nat} {q : vw_C} {fs : List Value} {As : List Value} (hE : zE G s) (hZ : zS KV A s s.heap) (hS : va_S A s.heap H locs) (hA : ∀ q, s.heap.size ≤ q → A q) (hP : va_P G.1 vwCl ws H) (hD : va_D A ws) (is : List Nat) (hn : va_nd is = true) (hs : is.map (fun i => ws[i]?) = wc.map some) (q0 : Nat) (hc : vwCl[ci]? = some q) (he : ws[q0]? = some (b, .inr (ci, fs))) : PreV s H q.1 b (va_Pc (.ref b :: As) (zBs G KV wc H.size)) As :=
  ⟨fun _ _ _ _ q => ⟨q.1, ⟨q.2.1.1, q.2.1.2.1, q.2.1.2.2.1, q.2.1.2.2.2.call⟩, q.2.2.call⟩, va_recv hE.1 hP hc he, fun _ hU hW => ⟨rfl, ⟨by rw [hU], by rw [hU]; exact hP.sub is (zfm hs), (hD.sub is hn hs).weaken (fun _ _ _ _ => trivial), hE.warm hW⟩, by rw [hU]; exact ((hZ.kept hS.2.1).narrow (va_free hD hS hA is hs)).warm hW⟩⟩
def zch (i : Nat) (k : Int32) : Int32 := zi2c ((zBy.getD i []).getD k.toNatClampNeg 0 &&& 255)
theorem hd_J0_length_8abf5 : yJ0_length_8abf5.cls = RJ0 ∧ yJ0_length_8abf5.cls ≠ "java/lang/invoke/MethodHandle" ∧ yJ0_length_8abf5.cls ≠ "java/lang/invoke/VarHandle" ∧ (parseMethodDescriptor yJ0_length_8abf5.desc).map (fun d => d.parameters.length) = some 0 := by decide +kernel
theorem hd_J0_coder_7d493 : yJ0_coder_7d493.cls = RJ0 ∧ yJ0_coder_7d493.cls ≠ "java/lang/invoke/MethodHandle" ∧ yJ0_coder_7d493.cls ≠ "java/lang/invoke/VarHandle" ∧ (parseMethodDescriptor yJ0_coder_7d493.desc).map (fun d => d.parameters.length) = some 0 := by decide +kernel
theorem hd_J0_charAt_5068e : yJ0_charAt_5068e.cls = RJ0 ∧ yJ0_charAt_5068e.cls ≠ "java/lang/invoke/MethodHandle" ∧ yJ0_charAt_5068e.cls ≠ "java/lang/invoke/VarHandle" ∧ (parseMethodDescriptor yJ0_charAt_5068e.desc).map (fun d => d.parameters.length) = some 1 := by decide +kernel
theorem hd_J0_isLatin1_aae02 : yJ0_isLatin1_aae02.cls = RJ0 ∧ yJ0_isLatin1_aae02.cls ≠ "java/lang/invoke/MethodHandle" ∧ yJ0_isLatin1_aae02.cls ≠ "java/lang/invoke/VarHandle" ∧ (parseMethodDescriptor yJ0_isLatin1_aae02.desc).map (fun d => d.parameters.length) = some 0 := by decide +kernel
theorem hd_J1_charAt_3b067 : yJ1_charAt_3b067.cls = RJ1 ∧ yJ1_charAt_3b067.cls ≠ "java/lang/invoke/MethodHandle" ∧ yJ1_charAt_3b067.cls ≠ "java/lang/invoke/VarHandle" ∧ (parseMethodDescriptor yJ1_charAt_3b067.desc).map (fun d => d.parameters.length) = some 2 := by decide +kernel
theorem hd_J0_checkIndex_df160 : yJ0_checkIndex_df160.cls = RJ0 ∧ yJ0_checkIndex_df160.cls ≠ "java/lang/invoke/MethodHandle" ∧ yJ0_checkIndex_df160.cls ≠ "java/lang/invoke/VarHandle" ∧ (parseMethodDescriptor yJ0_checkIndex_df160.desc).map (fun d => d.parameters.length) = some 2 := by decide +kernel
theorem hd_J3_checkIndex_8e157 : yJ3_checkIndex_8e157.cls = RJ3 ∧ yJ3_checkIndex_8e157.cls ≠ "java/lang/invoke/MethodHandle" ∧ yJ3_checkIndex_8e157.cls ≠ "java/lang/invoke/VarHandle" ∧ (parseMethodDescriptor yJ3_checkIndex_8e157.desc).map (fun d => d.parameters.length) = some 3 := by decide +kernel
set_option maxHeartbeats 4000000 in
set_option maxRecDepth 100000 in
theorem c_coder (l : Launch) (G : zG) (KV : zKV) (i : Nat) (hi : i < 4) : Met l yJ0_coder_7d493 wsJ0_coder_7d493 { frames := 0, cells := 0, slots := 0, locals := 0 } (va_Pc [.ref (KV.1 i)] (zRs G KV [])) (zSv (some (.int 0))) 0 0 (fun _ => False) := by
  refine Met.ofW (cc := cJ0_coder_7d493) (maxL := 1) (ret := (some .byte)) (by decide) rfl ?_
  intro p e s m args below meth c s₁ B hml hv
  obtain ⟨hargs, ⟨hP, hE⟩, hZ⟩ := hv
  have hx := B.exec
  have hb := B.bytes
  have hr := B.returns
  have hts := atoms_spec (ws := wsJ0_coder_7d493) B.pre
  have hown : s.vm.findClass RJ0 = some m.cls := findClass_of_methodNamed B.named
  have hlocks := B.notSynchronized
  have hC : CallFix p m c cJ0_coder_7d493 1 s args wsJ0_coder_7d493 RJ0 := ⟨hx, hb, hml, hown, hts⟩
  have hS : va_S (fun _ => False) s.heap s.heap [] := va_S.rf
  have hl := lv_entry ([.ref (KV.1 i)]) (n := 1) (Nat.le_of_ble_eq_true rfl)
  have hent : entryFrame m args 1 = F0 m 0 ((lg_sl ([.ref (KV.1 i)]) ++ List.replicate (1 - (lg_sl ([.ref (KV.1 i)])).length) Slot.unset).toArray) [] := by rw [hargs]; exact lg_entry_eq m [.ref (KV.1 i)] 1
  refine W.eq hent ?_
  clear hent
  generalize (lg_sl ([.ref (KV.1 i)]) ++ List.replicate (1 - (lg_sl ([.ref (KV.1 i)])).length) Slot.unset).toArray = ls at hl ⊢
  have hl : lv_has ls 1 [(0, .ref (KV.1 i))] := hl
  generalize hQ : MQ below _ args s 0 0 _ = QQ
  refine va_gets hx hb hZ.2.1 hS hown (hts (.fieldLink RJ0 38 "java/lang/String" "COMPACT_STRINGS" "Z") (by decide +kernel)) (fun _ h => h) dJ0_coder_7d493_0 ?_
  refine lv_if_eq (tgt := 13) hx hb dJ0_coder_7d493_3 (by decide) (fun h => absurd h (by decide)) (fun _ => ?_)
  refine lv_aload_n hx hb dJ0_coder_7d493_6 rfl (lv_at hl 0 rfl) ?_
  refine vk_getf hx hb (hZ.1.1 i hi).2.1 hS hown (hts (.fieldLink RJ0 15 "java/lang/String" "coder" "B") (by decide +kernel)) (fun _ h => h) dJ0_coder_7d493_7 ?_
  refine lv_goto (tgt := 14) hx hb dJ0_coder_7d493_10 (by decide) ?_
  rw [← hQ]
  exact W.zret (v := 0) hx hb hr rfl (fun t ht hW => ⟨rfl, ht⟩) (fun _ h => by cases h) dJ0_coder_7d493_14
set_option maxHeartbeats 4000000 in
set_option maxRecDepth 100000 in
theorem c_latin (l : Launch) (G : zG) (KV : zKV) (i : Nat) (hi : i < 4) : Met l yJ0_isLatin1_aae02 wsJ0_isLatin1_aae02 { frames := 0, cells := 0, slots := 0, locals := 0 } (va_Pc [.ref (KV.1 i)] (zRs G KV [])) (zSv (some (.int 1))) 0 0 (fun _ => False) := by
  refine Met.ofW (cc := cJ0_isLatin1_aae02) (maxL := 1) (ret := (some .boolean)) (by decide) rfl ?_
  intro p e s m args below meth c s₁ B hml hv
  obtain ⟨hargs, ⟨hP, hE⟩, hZ⟩ := hv
  have hx := B.exec
  have hb := B.bytes
  have hr := B.returns
  have hts := atoms_spec (ws := wsJ0_isLatin1_aae02) B.pre
  have hown : s.vm.findClass RJ0 = some m.cls := findClass_of_methodNamed B.named
  have hlocks := B.notSynchronized
  have hC : CallFix p m c cJ0_isLatin1_aae02 1 s args wsJ0_isLatin1_aae02 RJ0 := ⟨hx, hb, hml, hown, hts⟩
  have hS : va_S (fun _ => False) s.heap s.heap [] := va_S.rf
  have hl := lv_entry ([.ref (KV.1 i)]) (n := 1) (Nat.le_of_ble_eq_true rfl)
  have hent : entryFrame m args 1 = F0 m 0 ((lg_sl ([.ref (KV.1 i)]) ++ List.replicate (1 - (lg_sl ([.ref (KV.1 i)])).length) Slot.unset).toArray) [] := by rw [hargs]; exact lg_entry_eq m [.ref (KV.1 i)] 1
  refine W.eq hent ?_
  clear hent
  generalize (lg_sl ([.ref (KV.1 i)]) ++ List.replicate (1 - (lg_sl ([.ref (KV.1 i)])).length) Slot.unset).toArray = ls at hl ⊢
  have hl : lv_has ls 1 [(0, .ref (KV.1 i))] := hl
  generalize hQ : MQ below _ args s 0 0 _ = QQ
  refine va_gets hx hb hZ.2.1 hS hown (hts (.fieldLink RJ0 38 "java/lang/String" "COMPACT_STRINGS" "Z") (by decide +kernel)) (fun _ h => h) dJ0_isLatin1_aae02_0 ?_
  refine lv_if_eq (tgt := 17) hx hb dJ0_isLatin1_aae02_3 (by decide) (fun h => absurd h (by decide)) (fun _ => ?_)
  refine lv_aload_n hx hb dJ0_isLatin1_aae02_6 rfl (lv_at hl 0 rfl) ?_
  refine vk_getf hx hb (hZ.1.1 i hi).2.1 hS hown (hts (.fieldLink RJ0 15 "java/lang/String" "coder" "B") (by decide +kernel)) (fun _ h => h) dJ0_isLatin1_aae02_7 ?_
  refine lv_if_ne (tgt := 17) hx hb dJ0_isLatin1_aae02_10 (by decide) (fun h => absurd rfl h) (fun _ => ?_)
  refine lv_iconst (v := 1) hx hb dJ0_isLatin1_aae02_13 (by decide) ?_
  refine lv_goto (tgt := 18) hx hb dJ0_isLatin1_aae02_14 (by decide) ?_
  rw [← hQ]
  exact W.zret (v := 1) hx hb hr rfl (fun t ht hW => ⟨rfl, ht⟩) (fun _ h => by cases h) dJ0_isLatin1_aae02_18
set_option maxHeartbeats 4000000 in
set_option maxRecDepth 100000 in
theorem c_len (l : Launch) (G : zG) (KV : zKV) (i : Nat) (hi : i < 4) (r : Int32) (hr0 : Int32.ofNat (zL.getD i 0) >>> ((0 : Int32) &&& 31) = r) : Met l yJ0_length_8abf5 wsJ0_length_8abf5 { frames := 1, cells := 0, slots := 0, locals := 20 } (va_Pc [.ref (KV.1 i)] (zRs G KV [])) (zSv (some (.int r))) 0 0 (fun _ => False) := by
  refine Met.ofW (cc := cJ0_length_8abf5) (maxL := 1) (ret := (some .int)) (by decide) rfl ?_
  intro p e s m args below meth c s₁ B hml hv
  obtain ⟨hargs, ⟨hP, hE⟩, hZ⟩ := hv
  have hx := B.exec
  have hb := B.bytes
  have hr := B.returns
  have hts := atoms_spec (ws := wsJ0_length_8abf5) B.pre
  have hown : s.vm.findClass RJ0 = some m.cls := findClass_of_methodNamed B.named
  have hlocks := B.notSynchronized
  have hC : CallFix p m c cJ0_length_8abf5 1 s args wsJ0_length_8abf5 RJ0 := ⟨hx, hb, hml, hown, hts⟩
  have hS : va_S (fun _ => False) s.heap s.heap [] := va_S.rf
  have hl := lv_entry ([.ref (KV.1 i)]) (n := 1) (Nat.le_of_ble_eq_true rfl)
  have hent : entryFrame m args 1 = F0 m 0 ((lg_sl ([.ref (KV.1 i)]) ++ List.replicate (1 - (lg_sl ([.ref (KV.1 i)])).length) Slot.unset).toArray) [] := by rw [hargs]; exact lg_entry_eq m [.ref (KV.1 i)] 1
  refine W.eq hent ?_
  clear hent
  generalize (lg_sl ([.ref (KV.1 i)]) ++ List.replicate (1 - (lg_sl ([.ref (KV.1 i)])).length) Slot.unset).toArray = ls at hl ⊢
  have hl : lv_has ls 1 [(0, .ref (KV.1 i))] := hl
  generalize hQ : MQ below _ args s 0 0 _ = QQ
  refine lv_aload_n hx hb dJ0_length_8abf5_0 rfl (lv_at hl 0 rfl) ?_
  refine vk_getf hx hb (hZ.1.1 i hi).2.2.1 hS hown (hts (.fieldLink RJ0 9 "java/lang/String" "value" "[B") (by decide +kernel)) (fun _ h => h) dJ0_length_8abf5_1 ?_
  refine va_tlen hx hb (hZ.1.1 i hi).2.2.2 hS rfl dJ0_length_8abf5_4 ?_
  refine lv_aload_n hx hb dJ0_length_8abf5_5 rfl (lv_at hl 0 rfl) ?_
  refine zRi (va_runV (As := []) (rest := [.int (Int32.ofNat (zL.getD i 0))]) hC (c_coder l G KV i hi) (cwV 0 hts gJ0_length_8abf5_J0_coder_7d493 rfl rfl rfl hd_J0_coder_7d493 ⟨(Nat.le_of_ble_eq_true rfl), (Nat.le_of_ble_eq_true rfl)⟩) (zPVk hE hZ hS hi) rfl rfl hl.1 rfl (lv_room (Nat.le_of_ble_eq_true rfl)) dJ0_length_8abf5_6 ⟨Nat.zero_le _, Nat.zero_le _⟩) ?_
  refine lv_ishr hx hb dJ0_length_8abf5_9 ?_
  rw [← hQ]
  subst hr0
  exact W.iret hx hb hr (fun t ht hW => ⟨rfl, ht⟩) (fun _ h => by cases h) dJ0_length_8abf5_10
set_option maxHeartbeats 4000000 in
set_option maxRecDepth 100000 in
theorem c_ck3n (l : Launch) (G : zG) (KV : zKV) (i n : Int32) (h0 : ¬ i < 0) (hn : i < n) : Met l yJ3_checkIndex_8e157 wsJ3_checkIndex_8e157 { frames := 0, cells := 0, slots := 0, locals := 0 } (va_Pc [.int i, .int n, .null] (zRs G KV [])) (zSv (some (.int i))) 0 0 (fun _ => False) := by
  refine Met.ofW (cc := cJ3_checkIndex_8e157) (maxL := 3) (ret := (some .int)) (by decide) rfl ?_
  intro p e s m args below meth c s₁ B hml hv
  obtain ⟨hargs, ⟨hP, hE⟩, hZ⟩ := hv
  have hx := B.exec
  have hb := B.bytes
  have hr := B.returns
  have hts := atoms_spec (ws := wsJ3_checkIndex_8e157) B.pre
  have hown : s.vm.findClass RJ3 = some m.cls := findClass_of_methodNamed B.named
  have hlocks := B.notSynchronized
  have hC : CallFix p m c cJ3_checkIndex_8e157 3 s args wsJ3_checkIndex_8e157 RJ3 := ⟨hx, hb, hml, hown, hts⟩
  have hS : va_S (fun _ => False) s.heap s.heap [] := va_S.rf
  have hl := lv_entry ([.int i, .int n, .null]) (n := 3) (Nat.le_of_ble_eq_true rfl)
  have hent : entryFrame m args 3 = F0 m 0 ((lg_sl ([.int i, .int n, .null]) ++ List.replicate (3 - (lg_sl ([.int i, .int n, .null])).length) Slot.unset).toArray) [] := by rw [hargs]; exact lg_entry_eq m [.int i, .int n, .null] 3
  refine W.eq hent ?_
  clear hent
  generalize (lg_sl ([.int i, .int n, .null]) ++ List.replicate (3 - (lg_sl ([.int i, .int n, .null])).length) Slot.unset).toArray = ls at hl ⊢
  have hl : lv_has ls 3 [(0, .int i), (1, .int n), (2, .null)] := hl
  generalize hQ : MQ below _ args s 0 0 _ = QQ
  refine lv_iload_n hx hb dJ3_checkIndex_8e157_0 rfl (lv_at hl 0 rfl) ?_
  refine lv_if_lt (tgt := 9) hx hb dJ3_checkIndex_8e157_1 (by decide) (fun h => absurd h h0) (fun _ => ?_)
  refine lv_iload_n hx hb dJ3_checkIndex_8e157_4 rfl (lv_at hl 0 rfl) ?_
  refine lv_iload_n hx hb dJ3_checkIndex_8e157_5 rfl (lv_at hl 1 rfl) ?_
  refine lv_icmp_lt (tgt := 16) hx hb dJ3_checkIndex_8e157_6 (by decide) (fun _ => ?_) (fun h => absurd hn h)
  refine lv_iload_n hx hb dJ3_checkIndex_8e157_16 rfl (lv_at hl 0 rfl) ?_
  rw [← hQ]
  exact W.iret hx hb hr (fun t ht hW => ⟨rfl, ht⟩) (fun _ h => by cases h) dJ3_checkIndex_8e157_17
set_option maxHeartbeats 4000000 in
set_option maxRecDepth 100000 in
theorem c_ck3r (l : Launch) (G : zG) (KV : zKV) (t : Nat) (i n : Int32) (h0 : ¬ i < 0) (hn : i < n) : Met l yJ3_checkIndex_8e157 wsJ3_checkIndex_8e157 { frames := 0, cells := 0, slots := 0, locals := 0 } (va_Pc [.int i, .int n, .ref t] (zRs G KV [])) (zSv (some (.int i))) 0 0 (fun _ => False) := by
  refine Met.ofW (cc := cJ3_checkIndex_8e157) (maxL := 3) (ret := (some .int)) (by decide) rfl ?_
  intro p e s m args below meth c s₁ B hml hv
  obtain ⟨hargs, ⟨hP, hE⟩, hZ⟩ := hv
  have hx := B.exec
  have hb := B.bytes
  have hr := B.returns
  have hts := atoms_spec (ws := wsJ3_checkIndex_8e157) B.pre
  have hown : s.vm.findClass RJ3 = some m.cls := findClass_of_methodNamed B.named
  have hlocks := B.notSynchronized
  have hC : CallFix p m c cJ3_checkIndex_8e157 3 s args wsJ3_checkIndex_8e157 RJ3 := ⟨hx, hb, hml, hown, hts⟩
  have hS : va_S (fun _ => False) s.heap s.heap [] := va_S.rf
  have hl := lv_entry ([.int i, .int n, .ref t]) (n := 3) (Nat.le_of_ble_eq_true rfl)
  have hent : entryFrame m args 3 = F0 m 0 ((lg_sl ([.int i, .int n, .ref t]) ++ List.replicate (3 - (lg_sl ([.int i, .int n, .ref t])).length) Slot.unset).toArray) [] := by rw [hargs]; exact lg_entry_eq m [.int i, .int n, .ref t] 3
  refine W.eq hent ?_
  clear hent
  generalize (lg_sl ([.int i, .int n, .ref t]) ++ List.replicate (3 - (lg_sl ([.int i, .int n, .ref t])).length) Slot.unset).toArray = ls at hl ⊢
  have hl : lv_has ls 3 [(0, .int i), (1, .int n), (2, .ref t)] := hl
  generalize hQ : MQ below _ args s 0 0 _ = QQ
  refine lv_iload_n hx hb dJ3_checkIndex_8e157_0 rfl (lv_at hl 0 rfl) ?_
  refine lv_if_lt (tgt := 9) hx hb dJ3_checkIndex_8e157_1 (by decide) (fun h => absurd h h0) (fun _ => ?_)
  refine lv_iload_n hx hb dJ3_checkIndex_8e157_4 rfl (lv_at hl 0 rfl) ?_
  refine lv_iload_n hx hb dJ3_checkIndex_8e157_5 rfl (lv_at hl 1 rfl) ?_
  refine lv_icmp_lt (tgt := 16) hx hb dJ3_checkIndex_8e157_6 (by decide) (fun _ => ?_) (fun h => absurd hn h)
  refine lv_iload_n hx hb dJ3_checkIndex_8e157_16 rfl (lv_at hl 0 rfl) ?_
  rw [← hQ]
  exact W.iret hx hb hr (fun t ht hW => ⟨rfl, ht⟩) (fun _ h => by cases h) dJ3_checkIndex_8e157_17
set_option maxHeartbeats 4000000 in
set_option maxRecDepth 100000 in
theorem c_chk (l : Launch) (G : zG) (KV : zKV) (i n : Int32) (h0 : ¬ i < 0) (hn : i < n) : Met l yJ0_checkIndex_df160 wsJ0_checkIndex_df160 { frames := 1, cells := 0, slots := 0, locals := 22 } (va_Pc [.int i, .int n] (zRs G KV [])) (zSv none) 0 0 (fun _ => False) := by
  refine Met.ofW (cc := cJ0_checkIndex_df160) (maxL := 2) (ret := none) (by decide) rfl ?_
  intro p e s m args below meth c s₁ B hml hv
  obtain ⟨hargs, ⟨hP, hE⟩, hZ⟩ := hv
  have hx := B.exec
  have hb := B.bytes
  have hr := B.returns
  have hts := atoms_spec (ws := wsJ0_checkIndex_df160) B.pre
  have hown : s.vm.findClass RJ0 = some m.cls := findClass_of_methodNamed B.named
  have hlocks := B.notSynchronized
  have hC : CallFix p m c cJ0_checkIndex_df160 2 s args wsJ0_checkIndex_df160 RJ0 := ⟨hx, hb, hml, hown, hts⟩
  have hS : va_S (fun _ => False) s.heap s.heap [] := va_S.rf
  have hl := lv_entry ([.int i, .int n]) (n := 2) (Nat.le_of_ble_eq_true rfl)
  have hent : entryFrame m args 2 = F0 m 0 ((lg_sl ([.int i, .int n]) ++ List.replicate (2 - (lg_sl ([.int i, .int n])).length) Slot.unset).toArray) [] := by rw [hargs]; exact lg_entry_eq m [.int i, .int n] 2
  refine W.eq hent ?_
  clear hent
  generalize (lg_sl ([.int i, .int n]) ++ List.replicate (2 - (lg_sl ([.int i, .int n])).length) Slot.unset).toArray = ls at hl ⊢
  have hl : lv_has ls 2 [(0, .int i), (1, .int n)] := hl
  generalize hQ : MQ below _ args s 0 0 _ = QQ
  refine lv_iload_n hx hb dJ0_checkIndex_df160_0 rfl (lv_at hl 0 rfl) ?_
  refine lv_iload_n hx hb dJ0_checkIndex_df160_1 rfl (lv_at hl 1 rfl) ?_
  rcases hZ.2.2.1 with hq | ⟨t, hq⟩
  · refine va_gets hx hb hq hS hown (hts (.fieldLink RJ0 1053 "jdk/internal/util/Preconditions" "SIOOBE_FORMATTER" "Ljava/util/function/BiFunction;") (by decide +kernel)) (fun _ h => h) dJ0_checkIndex_df160_2 ?_
    refine zRi (va_runS (As := [.int i, .int n, .null]) (rest := []) hC (c_ck3n l G KV i n h0 hn) (va_cwS 3 hts gJ0_checkIndex_df160_J3_checkIndex_8e157 rfl rfl rfl hd_J3_checkIndex_8e157.2 ⟨(Nat.le_of_ble_eq_true rfl), (Nat.le_of_ble_eq_true rfl)⟩) (zPSk hE hZ hS) rfl rfl hl.1 rfl (lv_room (Nat.le_of_ble_eq_true rfl)) dJ0_checkIndex_df160_5 ⟨Nat.zero_le _, Nat.zero_le _⟩) ?_
    refine lv_pop hx hb dJ0_checkIndex_df160_8 rfl ?_
    rw [← hQ]
    exact W.vret hx hb hr (fun t ht hW => ⟨rfl, ht⟩) (fun _ h => by cases h) dJ0_checkIndex_df160_9
  · refine va_gets hx hb hq hS hown (hts (.fieldLink RJ0 1053 "jdk/internal/util/Preconditions" "SIOOBE_FORMATTER" "Ljava/util/function/BiFunction;") (by decide +kernel)) (fun _ h => h) dJ0_checkIndex_df160_2 ?_
    refine zRi (va_runS (As := [.int i, .int n, .ref t]) (rest := []) hC (c_ck3r l G KV t i n h0 hn) (va_cwS 3 hts gJ0_checkIndex_df160_J3_checkIndex_8e157 rfl rfl rfl hd_J3_checkIndex_8e157.2 ⟨(Nat.le_of_ble_eq_true rfl), (Nat.le_of_ble_eq_true rfl)⟩) (zPSk hE hZ hS) rfl rfl hl.1 rfl (lv_room (Nat.le_of_ble_eq_true rfl)) dJ0_checkIndex_df160_5 ⟨Nat.zero_le _, Nat.zero_le _⟩) ?_
    refine lv_pop hx hb dJ0_checkIndex_df160_8 rfl ?_
    rw [← hQ]
    exact W.vret hx hb hr (fun t ht hW => ⟨rfl, ht⟩) (fun _ h => by cases h) dJ0_checkIndex_df160_9
theorem zin_lt {k : Int32} {n : Nat} (hn : n < 2 ^ 31) (h : vp_in k n) : ¬ k < 0 ∧ k < Int32.ofNat n := by
  obtain ⟨j, hj, rfl⟩ := vp_in_of h hn
  exact ⟨nI_pos (by omega), nI_lt hj hn⟩
set_option maxHeartbeats 4000000 in
set_option maxRecDepth 100000 in
theorem c_lchar (l : Launch) (G : zG) (KV : zKV) (i : Nat) (hi : i < 4) (k : Int32) (hk : vp_in k (zL.getD i 0)) : Met l yJ1_charAt_3b067 wsJ1_charAt_3b067 { frames := 2, cells := 0, slots := 0, locals := 43 } (va_Pc [.ref (KV.2 i), .int k] (zRs G KV [])) (zSv (some (.int (zch i k)))) 0 0 (fun _ => False) := by
  refine Met.ofW (cc := cJ1_charAt_3b067) (maxL := 2) (ret := (some .char)) (by decide) rfl ?_
  intro p e s m args below meth c s₁ B hml hv
  obtain ⟨hargs, ⟨hP, hE⟩, hZ⟩ := hv
  have hx := B.exec
  have hb := B.bytes
  have hr := B.returns
  have hts := atoms_spec (ws := wsJ1_charAt_3b067) B.pre
  have hown : s.vm.findClass RJ1 = some m.cls := findClass_of_methodNamed B.named
  have hlocks := B.notSynchronized
  have hC : CallFix p m c cJ1_charAt_3b067 2 s args wsJ1_charAt_3b067 RJ1 := ⟨hx, hb, hml, hown, hts⟩
  have hS : va_S (fun _ => False) s.heap s.heap [] := va_S.rf
  have hl := lv_entry ([.ref (KV.2 i), .int k]) (n := 2) (Nat.le_of_ble_eq_true rfl)
  have hent : entryFrame m args 2 = F0 m 0 ((lg_sl ([.ref (KV.2 i), .int k]) ++ List.replicate (2 - (lg_sl ([.ref (KV.2 i), .int k])).length) Slot.unset).toArray) [] := by rw [hargs]; exact lg_entry_eq m [.ref (KV.2 i), .int k] 2
  refine W.eq hent ?_
  clear hent
  generalize (lg_sl ([.ref (KV.2 i), .int k]) ++ List.replicate (2 - (lg_sl ([.ref (KV.2 i), .int k])).length) Slot.unset).toArray = ls at hl ⊢
  have hl : lv_has ls 2 [(0, .ref (KV.2 i)), (1, .int k)] := hl
  generalize hQ : MQ below _ args s 0 0 _ = QQ
  have hL : zL.getD i 0 < 2 ^ 31 := by rcases (show i = 0 ∨ i = 1 ∨ i = 2 ∨ i = 3 by omega) with rfl | rfl | rfl | rfl <;> decide
  refine lv_iload_n hx hb dJ1_charAt_3b067_0 rfl (lv_at hl 1 rfl) ?_
  refine lv_aload_n hx hb dJ1_charAt_3b067_1 rfl (lv_at hl 0 rfl) ?_
  refine va_tlen hx hb (hZ.1.1 i hi).2.2.2 hS rfl dJ1_charAt_3b067_2 ?_
  refine zRv (v0 := none) (va_runS (As := [.int k, .int (Int32.ofNat (zL.getD i 0))]) (rest := []) hC (c_chk l G KV k (Int32.ofNat (zL.getD i 0)) (zin_lt hL hk).1 (zin_lt hL hk).2) (va_cwS 2 hts gJ1_charAt_3b067_J0_checkIndex_df160 rfl rfl rfl hd_J0_checkIndex_df160.2 ⟨(Nat.le_of_ble_eq_true rfl), (Nat.le_of_ble_eq_true rfl)⟩) (zPSk hE hZ hS) rfl rfl hl.1 rfl (lv_room (Nat.le_of_ble_eq_true rfl)) dJ1_charAt_3b067_3 ⟨Nat.zero_le _, Nat.zero_le _⟩) ?_
  refine lv_aload_n hx hb dJ1_charAt_3b067_6 rfl (lv_at hl 0 rfl) ?_
  refine lv_iload_n hx hb dJ1_charAt_3b067_7 rfl (lv_at hl 1 rfl) ?_
  refine va_tb hx hb (hZ.1.1 i hi).2.2.2 hS hk rfl dJ1_charAt_3b067_8 ?_
  refine lv_sipush (v := 255) hx hb dJ1_charAt_3b067_9 (by decide) ?_
  refine lv_iand hx hb dJ1_charAt_3b067_12 ?_
  refine lv_i2c (v := zch i k) hx hb dJ1_charAt_3b067_13 rfl ?_
  rw [← hQ]
  exact W.zret (v := zch i k) hx hb hr (pk_nc _) (fun t ht hW => ⟨rfl, ht⟩) (fun _ h => by cases h) dJ1_charAt_3b067_14
set_option maxHeartbeats 4000000 in
set_option maxRecDepth 100000 in
theorem c_chr (l : Launch) (G : zG) (KV : zKV) (i : Nat) (hi : i < 4) (k : Int32) (hk : vp_in k (zL.getD i 0)) : Met l yJ0_charAt_5068e wsJ0_charAt_5068e { frames := 3, cells := 0, slots := 0, locals := 64 } (va_Pc [.ref (KV.1 i), .int k] (zRs G KV [])) (zSv (some (.int (zch i k)))) 0 0 (fun _ => False) := by
  refine Met.ofW (cc := cJ0_charAt_5068e) (maxL := 2) (ret := (some .char)) (by decide) rfl ?_
  intro p e s m args below meth c s₁ B hml hv
  obtain ⟨hargs, ⟨hP, hE⟩, hZ⟩ := hv
  have hx := B.exec
  have hb := B.bytes
  have hr := B.returns
  have hts := atoms_spec (ws := wsJ0_charAt_5068e) B.pre
  have hown : s.vm.findClass RJ0 = some m.cls := findClass_of_methodNamed B.named
  have hlocks := B.notSynchronized
  have hC : CallFix p m c cJ0_charAt_5068e 2 s args wsJ0_charAt_5068e RJ0 := ⟨hx, hb, hml, hown, hts⟩
  have hS : va_S (fun _ => False) s.heap s.heap [] := va_S.rf
  have hl := lv_entry ([.ref (KV.1 i), .int k]) (n := 2) (Nat.le_of_ble_eq_true rfl)
  have hent : entryFrame m args 2 = F0 m 0 ((lg_sl ([.ref (KV.1 i), .int k]) ++ List.replicate (2 - (lg_sl ([.ref (KV.1 i), .int k])).length) Slot.unset).toArray) [] := by rw [hargs]; exact lg_entry_eq m [.ref (KV.1 i), .int k] 2
  refine W.eq hent ?_
  clear hent
  generalize (lg_sl ([.ref (KV.1 i), .int k]) ++ List.replicate (2 - (lg_sl ([.ref (KV.1 i), .int k])).length) Slot.unset).toArray = ls at hl ⊢
  have hl : lv_has ls 2 [(0, .ref (KV.1 i)), (1, .int k)] := hl
  generalize hQ : MQ below _ args s 0 0 _ = QQ
  refine lv_aload_n hx hb dJ0_charAt_5068e_0 rfl (lv_at hl 0 rfl) ?_
  refine zRi (va_runV (As := []) (rest := []) hC (c_latin l G KV i hi) (cwV 0 hts gJ0_charAt_5068e_J0_isLatin1_aae02 rfl rfl rfl hd_J0_isLatin1_aae02 ⟨(Nat.le_of_ble_eq_true rfl), (Nat.le_of_ble_eq_true rfl)⟩) (zPVk hE hZ hS hi) rfl rfl hl.1 rfl (lv_room (Nat.le_of_ble_eq_true rfl)) dJ0_charAt_5068e_1 ⟨Nat.zero_le _, Nat.zero_le _⟩) ?_
  refine lv_if_eq (tgt := 16) hx hb dJ0_charAt_5068e_4 (by decide) (fun h => absurd h (by decide)) (fun _ => ?_)
  refine lv_aload_n hx hb dJ0_charAt_5068e_7 rfl (lv_at hl 0 rfl) ?_
  refine vk_getf hx hb (hZ.1.1 i hi).2.2.1 hS hown (hts (.fieldLink RJ0 9 "java/lang/String" "value" "[B") (by decide +kernel)) (fun _ h => h) dJ0_charAt_5068e_8 ?_
  refine lv_iload_n hx hb dJ0_charAt_5068e_11 rfl (lv_at hl 1 rfl) ?_
  refine zRi (va_runS (As := [.ref (KV.2 i), .int k]) (rest := []) hC (c_lchar l G KV i hi k hk) (va_cwS 2 hts gJ0_charAt_5068e_J1_charAt_3b067 rfl rfl rfl hd_J1_charAt_3b067.2 ⟨(Nat.le_of_ble_eq_true rfl), (Nat.le_of_ble_eq_true rfl)⟩) (zPSk hE hZ hS) rfl rfl hl.1 rfl (lv_room (Nat.le_of_ble_eq_true rfl)) dJ0_charAt_5068e_12 ⟨Nat.zero_le _, Nat.zero_le _⟩) ?_
  rw [← hQ]
  exact W.zret (v := zch i k) hx hb hr (pk_nc _) (fun t ht hW => ⟨rfl, ht⟩) (fun _ h => by cases h) dJ0_charAt_5068e_15
