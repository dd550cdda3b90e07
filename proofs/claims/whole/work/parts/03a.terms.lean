def f_X8_isWithin   (g0 : Int32) (g1 : Int32) (g2 : Int32) : Option (Int32) := if g0 < g1 then (some ((0 : Int32))) else (if g2 < g0 then (some ((0 : Int32))) else (some ((1 : Int32))))
abbrev rm_X8_isWithin : Room := { frames := 0, cells := 0, slots := 0, locals := 0 }
set_option maxHeartbeats 4000000 in
set_option maxRecDepth 100000 in
theorem c_X8_isWithin (l : Launch) (G : zG) (g0 : Int32) (g1 : Int32) (g2 : Int32) (R0 : Int32) (hf : f_X8_isWithin g0 g1 g2 = some R0) : Met l yX8_isWithin wsX8_isWithin rm_X8_isWithin (va_Pc [.int g0, .int g1, .int g2] (zR G [])) (zSv (some (.int R0))) 0 0 (fun _ => False) := by
  refine Met.ofW (cc := cX8_isWithin) (maxL := 3) (ret := (some .boolean)) (by decide) rfl ?_
  intro p e s m args below meth c s₁ B hml hv
  obtain ⟨hargs, hP, hE⟩ := hv
  have hx := B.exec
  have hb := B.bytes
  have hr := B.returns
  have hts := atoms_spec (ws := wsX8_isWithin) B.pre
  have hown : s.vm.findClass RX8 = some m.cls := findClass_of_methodNamed B.named
  have hlocks := B.notSynchronized
  have hK := hE.1
  have hC : CallFix p m c cX8_isWithin 3 s args wsX8_isWithin RX8 := ⟨hx, hb, hml, hown, hts⟩
  have hl := lv_entry ([.int g0, .int g1, .int g2]) (n := 3) (Nat.le_of_ble_eq_true rfl)
  have hent : entryFrame m args 3 = F0 m 0 ((lg_sl ([.int g0, .int g1, .int g2]) ++ List.replicate (3 - (lg_sl ([.int g0, .int g1, .int g2])).length) Slot.unset).toArray) [] := by rw [hargs]; exact lg_entry_eq m [.int g0, .int g1, .int g2] 3
  refine W.eq hent ?_
  clear hent
  generalize (lg_sl ([.int g0, .int g1, .int g2]) ++ List.replicate (3 - (lg_sl ([.int g0, .int g1, .int g2])).length) Slot.unset).toArray = ls at hl ⊢
  have hl : lv_has ls 3 [(0, .int g0), (1, .int g1), (2, .int g2)] := hl
  generalize hQ : MQ below _ args s 0 0 _ = QQ
  change W p l e rm_X8_isWithin s m args below meth c s.heap [] 0 0 QQ _
  unfold f_X8_isWithin at hf
  refine lv_iload_n hx hb dX8_isWithin_0 rfl (lv_at hl 0 rfl) ?_
  refine lv_iload_n hx hb dX8_isWithin_1 rfl (lv_at hl 1 rfl) ?_
  refine lv_icmp_lt (tgt := 14) hx hb dX8_isWithin_2 (by decide) (fun hc3 => ?_) (fun hc3 => ?_)
  · have hf := if_t hf hc3
    refine lv_iconst (v := (0 : Int32)) hx hb dX8_isWithin_14 (by decide) ?_
    have hr0 := so1 hf
    subst hr0
    rw [← hQ]
    exact W.zret (v := (0 : Int32)) hx hb hr rfl (fun t ht hW => ⟨rfl, ht⟩) (fun _ h => by cases h) dX8_isWithin_15
  · have hf := if_f hf hc3
    refine lv_iload_n hx hb dX8_isWithin_5 rfl (lv_at hl 0 rfl) ?_
    refine lv_iload_n hx hb dX8_isWithin_6 rfl (lv_at hl 2 rfl) ?_
    refine lv_icmp_gt (tgt := 14) hx hb dX8_isWithin_7 (by decide) (fun hc4 => ?_) (fun hc4 => ?_)
    · have hf := if_t hf hc4
      refine lv_iconst (v := (0 : Int32)) hx hb dX8_isWithin_14 (by decide) ?_
      have hr0 := so1 hf
      subst hr0
      rw [← hQ]
      exact W.zret (v := (0 : Int32)) hx hb hr rfl (fun t ht hW => ⟨rfl, ht⟩) (fun _ h => by cases h) dX8_isWithin_15
    · have hf := if_f hf hc4
      refine lv_iconst (v := (1 : Int32)) hx hb dX8_isWithin_10 (by decide) ?_
      refine lv_goto (tgt := 15) hx hb dX8_isWithin_11 (by decide) ?_
      have hr0 := so1 hf
      subst hr0
      rw [← hQ]
      exact W.zret (v := (1 : Int32)) hx hb hr rfl (fun t ht hW => ⟨rfl, ht⟩) (fun _ h => by cases h) dX8_isWithin_15
theorem hd_X8_isWithin : yX8_isWithin.cls = RX8 ∧ yX8_isWithin.cls ≠ "java/lang/invoke/MethodHandle" ∧ yX8_isWithin.cls ≠ "java/lang/invoke/VarHandle" ∧ (parseMethodDescriptor yX8_isWithin.desc).map (fun d => d.parameters.length) = some 3 := by decide +kernel
def f_X8_areNights   (g0 : Int32) (g1 : Int32) : Option (Int32) := bd1 (f_X8_isWithin (g0) ((0 : Int32)) ((99 : Int32))) fun r5 => if r5 = (0 : Int32) then (some ((0 : Int32))) else (bd1 (f_X8_isWithin (g1) (g0) ((99 : Int32))) fun r7 => if r7 = (0 : Int32) then (some ((0 : Int32))) else (some ((1 : Int32))))
abbrev rm_X8_areNights : Room := { frames := 1, cells := 0, slots := 0, locals := 22 }
set_option maxHeartbeats 4000000 in
set_option maxRecDepth 100000 in
theorem c_X8_areNights (l : Launch) (G : zG) (g0 : Int32) (g1 : Int32) (R0 : Int32) (hf : f_X8_areNights g0 g1 = some R0) : Met l yX8_areNights wsX8_areNights rm_X8_areNights (va_Pc [.int g0, .int g1] (zR G [])) (zSv (some (.int R0))) 0 0 (fun _ => False) := by
  refine Met.ofW (cc := cX8_areNights) (maxL := 2) (ret := (some .boolean)) (by decide) rfl ?_
  intro p e s m args below meth c s₁ B hml hv
  obtain ⟨hargs, hP, hE⟩ := hv
  have hx := B.exec
  have hb := B.bytes
  have hr := B.returns
  have hts := atoms_spec (ws := wsX8_areNights) B.pre
  have hown : s.vm.findClass RX8 = some m.cls := findClass_of_methodNamed B.named
  have hlocks := B.notSynchronized
  have hK := hE.1
  have hC : CallFix p m c cX8_areNights 2 s args wsX8_areNights RX8 := ⟨hx, hb, hml, hown, hts⟩
  have hl := lv_entry ([.int g0, .int g1]) (n := 2) (Nat.le_of_ble_eq_true rfl)
  have hent : entryFrame m args 2 = F0 m 0 ((lg_sl ([.int g0, .int g1]) ++ List.replicate (2 - (lg_sl ([.int g0, .int g1])).length) Slot.unset).toArray) [] := by rw [hargs]; exact lg_entry_eq m [.int g0, .int g1] 2
  refine W.eq hent ?_
  clear hent
  generalize (lg_sl ([.int g0, .int g1]) ++ List.replicate (2 - (lg_sl ([.int g0, .int g1])).length) Slot.unset).toArray = ls at hl ⊢
  have hl : lv_has ls 2 [(0, .int g0), (1, .int g1)] := hl
  generalize hQ : MQ below _ args s 0 0 _ = QQ
  change W p l e rm_X8_areNights s m args below meth c s.heap [] 0 0 QQ _
  unfold f_X8_areNights at hf
  refine lv_iload_n hx hb dX8_areNights_0 rfl (lv_at hl 0 rfl) ?_
  refine lv_iconst (v := (0 : Int32)) hx hb dX8_areNights_1 (by decide) ?_
  refine lv_bipush (v := (99 : Int32)) hx hb dX8_areNights_2 (by decide) ?_
  obtain ⟨r5, hu, hf⟩ := bd1_some hf
  refine zRi (va_runS (As := [.int g0, .int (0 : Int32), .int (99 : Int32)]) (rest := []) hC (c_X8_isWithin l G (g0) ((0 : Int32)) ((99 : Int32)) r5 hu) (va_cwS 3 hts gX8_areNights_X8_isWithin rfl rfl rfl hd_X8_isWithin.2 ⟨(Nat.le_of_ble_eq_true rfl), (Nat.le_of_ble_eq_true rfl)⟩) (zPS hE hP [] rfl) rfl rfl hl.1 rfl (lv_room (Nat.le_of_ble_eq_true rfl)) dX8_areNights_4 ⟨Nat.zero_le _, Nat.zero_le _⟩) ?_
  refine lv_if_eq (tgt := 24) hx hb dX8_areNights_7 (by decide) (fun hc6 => ?_) (fun hc6 => ?_)
  · have hf := if_t hf hc6
    refine lv_iconst (v := (0 : Int32)) hx hb dX8_areNights_24 (by decide) ?_
    have hr0 := so1 hf
    subst hr0
    rw [← hQ]
    exact W.zret (v := (0 : Int32)) hx hb hr rfl (fun t ht hW => ⟨rfl, ht⟩) (fun _ h => by cases h) dX8_areNights_25
  · have hf := if_f hf hc6
    refine lv_iload_n hx hb dX8_areNights_10 rfl (lv_at hl 1 rfl) ?_
    refine lv_iload_n hx hb dX8_areNights_11 rfl (lv_at hl 0 rfl) ?_
    refine lv_bipush (v := (99 : Int32)) hx hb dX8_areNights_12 (by decide) ?_
    obtain ⟨r7, hu, hf⟩ := bd1_some hf
    refine zRi (va_runS (As := [.int g1, .int g0, .int (99 : Int32)]) (rest := []) hC (c_X8_isWithin l G (g1) (g0) ((99 : Int32)) r7 hu) (va_cwS 3 hts gX8_areNights_X8_isWithin rfl rfl rfl hd_X8_isWithin.2 ⟨(Nat.le_of_ble_eq_true rfl), (Nat.le_of_ble_eq_true rfl)⟩) (zPS hE hP [] rfl) rfl rfl hl.1 rfl (lv_room (Nat.le_of_ble_eq_true rfl)) dX8_areNights_14 ⟨Nat.zero_le _, Nat.zero_le _⟩) ?_
    refine lv_if_eq (tgt := 24) hx hb dX8_areNights_17 (by decide) (fun hc8 => ?_) (fun hc8 => ?_)
    · have hf := if_t hf hc8
      refine lv_iconst (v := (0 : Int32)) hx hb dX8_areNights_24 (by decide) ?_
      have hr0 := so1 hf
      subst hr0
      rw [← hQ]
      exact W.zret (v := (0 : Int32)) hx hb hr rfl (fun t ht hW => ⟨rfl, ht⟩) (fun _ h => by cases h) dX8_areNights_25
    · have hf := if_f hf hc8
      refine lv_iconst (v := (1 : Int32)) hx hb dX8_areNights_20 (by decide) ?_
      refine lv_goto (tgt := 25) hx hb dX8_areNights_21 (by decide) ?_
      have hr0 := so1 hf
      subst hr0
      rw [← hQ]
      exact W.zret (v := (1 : Int32)) hx hb hr rfl (fun t ht hW => ⟨rfl, ht⟩) (fun _ h => by cases h) dX8_areNights_25
def f_X8_greatestCommon_b7    : Nat → Int32 → Int32 → Int32 → Option (Int32)
  | 0, _, _, _ => none
  | n7 + 1, x2, x3, x4 => if (64 : Int32) ≤ x4 then (some (x2)) else (if x3 = (0 : Int32) then (some (x2)) else (gd (nzB x3) (f_X8_greatestCommon_b7 n7 (x3) ((x2 - x2 / x3 * x3)) ((x4 + (1 : Int32))))))
def f_X8_greatestCommon   (g0 : Int32) (g1 : Int32) : Option (Int32) := f_X8_greatestCommon_b7 zF (g0) (g1) ((0 : Int32))
abbrev rm_X8_greatestCommon : Room := { frames := 0, cells := 0, slots := 0, locals := 0 }
set_option maxHeartbeats 4000000 in
set_option maxRecDepth 100000 in
theorem c_X8_greatestCommon (l : Launch) (G : zG) (g0 : Int32) (g1 : Int32) (R0 : Int32) (hf : f_X8_greatestCommon g0 g1 = some R0) : Met l yX8_greatestCommon wsX8_greatestCommon rm_X8_greatestCommon (va_Pc [.int g0, .int g1] (zR G [])) (zSv (some (.int R0))) 0 0 (fun _ => False) := by
  refine Met.ofW (cc := cX8_greatestCommon) (maxL := 6) (ret := (some .int)) (by decide) rfl ?_
  intro p e s m args below meth c s₁ B hml hv
  obtain ⟨hargs, hP, hE⟩ := hv
  have hx := B.exec
  have hb := B.bytes
  have hr := B.returns
  have hts := atoms_spec (ws := wsX8_greatestCommon) B.pre
  have hown : s.vm.findClass RX8 = some m.cls := findClass_of_methodNamed B.named
  have hlocks := B.notSynchronized
  have hK := hE.1
  have hC : CallFix p m c cX8_greatestCommon 6 s args wsX8_greatestCommon RX8 := ⟨hx, hb, hml, hown, hts⟩
  have hl := lv_entry ([.int g0, .int g1]) (n := 6) (Nat.le_of_ble_eq_true rfl)
  have hent : entryFrame m args 6 = F0 m 0 ((lg_sl ([.int g0, .int g1]) ++ List.replicate (6 - (lg_sl ([.int g0, .int g1])).length) Slot.unset).toArray) [] := by rw [hargs]; exact lg_entry_eq m [.int g0, .int g1] 6
  refine W.eq hent ?_
  clear hent
  generalize (lg_sl ([.int g0, .int g1]) ++ List.replicate (6 - (lg_sl ([.int g0, .int g1])).length) Slot.unset).toArray = ls at hl ⊢
  have hl : lv_has ls 6 [(0, .int g0), (1, .int g1)] := hl
  generalize hQ : MQ below _ args s 0 0 _ = QQ
  change W p l e rm_X8_greatestCommon s m args below meth c s.heap [] 0 0 QQ _
  have j7 : ∀ (nn : Nat), ∀ (x2 : Int32), ∀ (x3 : Int32), ∀ (x4 : Int32), ∀ (ls : Array Slot), lv_has ls 6 [(2, .int x2), (3, .int x3), (4, .int x4)] → f_X8_greatestCommon_b7 nn x2 x3 x4 = some R0 → W p l e rm_X8_greatestCommon s m args below meth c s.heap [] 0 0 QQ (F0 m 7 ls []) := by
    intro nn
    induction nn with
    | zero =>
      intro x2 x3 x4 ls hl hf
      rw [f_X8_greatestCommon_b7] at hf
      cases hf
    | succ n7 ih =>
      intro x2 x3 x4 ls hl hf
      rw [f_X8_greatestCommon_b7] at hf
      refine lv_iload hx hb dX8_greatestCommon_7 (lv_at hl 2 rfl) ?_
      refine lv_bipush (v := (64 : Int32)) hx hb dX8_greatestCommon_9 (by decide) ?_
      refine lv_icmp_ge (tgt := 34) hx hb dX8_greatestCommon_11 (by decide) (fun hc4 => ?_) (fun hc4 => ?_)
      · have hf := if_t hf hc4
        refine lv_iload_n hx hb dX8_greatestCommon_34 rfl (lv_at hl 0 rfl) ?_
        have hr0 := so1 hf
        subst hr0
        rw [← hQ]
        exact W.iret (v := x2) hx hb hr (fun t ht hW => ⟨rfl, ht⟩) (fun _ h => by cases h) dX8_greatestCommon_35
      · have hf := if_f hf hc4
        refine lv_iload_n hx hb dX8_greatestCommon_14 rfl (lv_at hl 1 rfl) ?_
        refine lv_if_eq (tgt := 34) hx hb dX8_greatestCommon_15 (by decide) (fun hc5 => ?_) (fun hc5 => ?_)
        · have hf := if_t hf hc5
          refine lv_iload_n hx hb dX8_greatestCommon_34 rfl (lv_at hl 0 rfl) ?_
          have hr0 := so1 hf
          subst hr0
          rw [← hQ]
          exact W.iret (v := x2) hx hb hr (fun t ht hW => ⟨rfl, ht⟩) (fun _ h => by cases h) dX8_greatestCommon_35
        · have hf := if_f hf hc5
          refine lv_iload_n hx hb dX8_greatestCommon_18 rfl (lv_at hl 0 rfl) ?_
          refine lv_iload_n hx hb dX8_greatestCommon_19 rfl (lv_at hl 1 rfl) ?_
          obtain ⟨hg6, hf⟩ := gd_some hf
          refine lv_irem hx hb dX8_greatestCommon_20 (nzB_ne hg6) ?_
          refine lv_istore (lv' := [(5, .int (x2 - x2 / x3 * x3)), (2, .int x2), (3, .int x3), (4, .int x4)]) hx hb dX8_greatestCommon_21 hl (by decide) rfl (fun ls hl => ?_)
          refine lv_iload_n hx hb dX8_greatestCommon_23 rfl (lv_at hl 2 rfl) ?_
          refine lv_istore_n (lv' := [(2, .int x3), (5, .int (x2 - x2 / x3 * x3)), (3, .int x3), (4, .int x4)]) hx hb dX8_greatestCommon_24 rfl hl (by decide) rfl (fun ls hl => ?_)
          refine lv_iload hx hb dX8_greatestCommon_25 (lv_at hl 1 rfl) ?_
          refine lv_istore_n (lv' := [(3, .int (x2 - x2 / x3 * x3)), (2, .int x3), (5, .int (x2 - x2 / x3 * x3)), (4, .int x4)]) hx hb dX8_greatestCommon_27 rfl hl (by decide) rfl (fun ls hl => ?_)
          refine lv_iinc (v := (x4 + (1 : Int32))) (lv' := [(4, .int (x4 + (1 : Int32))), (3, .int (x2 - x2 / x3 * x3)), (2, .int x3), (5, .int (x2 - x2 / x3 * x3))]) hx hb dX8_greatestCommon_28 hl (k := 3) rfl rfl (by decide) rfl (fun ls hl => ?_)
          refine lv_goto (tgt := 7) hx hb dX8_greatestCommon_31 (by decide) ?_
          exact ih (x3) ((x2 - x2 / x3 * x3)) ((x4 + (1 : Int32))) ls (lv_sub hl [2, 1, 0] rfl) hf
  unfold f_X8_greatestCommon at hf
  refine lv_iload_n hx hb dX8_greatestCommon_0 rfl (lv_at hl 0 rfl) ?_
  refine lv_istore_n (lv' := [(2, .int g0), (0, .int g0), (1, .int g1)]) hx hb dX8_greatestCommon_1 rfl hl (by decide) rfl (fun ls hl => ?_)
  refine lv_iload_n hx hb dX8_greatestCommon_2 rfl (lv_at hl 2 rfl) ?_
  refine lv_istore_n (lv' := [(3, .int g1), (2, .int g0), (0, .int g0), (1, .int g1)]) hx hb dX8_greatestCommon_3 rfl hl (by decide) rfl (fun ls hl => ?_)
  refine lv_iconst (v := (0 : Int32)) hx hb dX8_greatestCommon_4 (by decide) ?_
  refine lv_istore (lv' := [(4, .int (0 : Int32)), (3, .int g1), (2, .int g0), (0, .int g0), (1, .int g1)]) hx hb dX8_greatestCommon_5 hl (by decide) rfl (fun ls hl => ?_)
  exact j7 zF (g0) (g1) ((0 : Int32)) ls (lv_sub hl [2, 1, 0] rfl) hf
def f_X6_isFull  (v_most : Int32) (v_size : Int32)  : Option (Int32) := if v_size < v_most then (some ((0 : Int32))) else (some ((1 : Int32)))
abbrev rm_X6_isFull : Room := { frames := 0, cells := 0, slots := 0, locals := 0 }
set_option maxHeartbeats 4000000 in
set_option maxRecDepth 100000 in
theorem c_X6_isFull (l : Launch) (G : zG) (a_this : Nat) (a_this_parts : Nat) (v_most : Int32) (v_size : Int32) (R0 : Int32) (hf : f_X6_isFull v_most v_size = some R0) : Met l yX6_isFull wsX6_isFull rm_X6_isFull (va_Pc [.ref a_this] (zR G [(a_this, .inr (6, [.int v_most, .ref a_this_parts, .int v_size]))])) (zSv (some (.int R0))) 0 0 (fun _ => False) := by
  refine Met.ofW (cc := cX6_isFull) (maxL := 1) (ret := (some .boolean)) (by decide) rfl ?_
  intro p e s m args below meth c s₁ B hml hv
  obtain ⟨hargs, hP, hE⟩ := hv
  have hx := B.exec
  have hb := B.bytes
  have hr := B.returns
  have hts := atoms_spec (ws := wsX6_isFull) B.pre
  have hown : s.vm.findClass RX6 = some m.cls := findClass_of_methodNamed B.named
  have hlocks := B.notSynchronized
  have hK := hE.1
  have hC : CallFix p m c cX6_isFull 1 s args wsX6_isFull RX6 := ⟨hx, hb, hml, hown, hts⟩
  have inX6 : ∀ w ∈ wsX60, w ∈ wsX6_isFull := by decide +kernel
  have lk15 := hts (.fieldLink RX6 15 "SkyLeases$Terms" "size" "I") (by decide +kernel)
  have lk25 := hts (.fieldLink RX6 25 "SkyLeases$Terms" "most" "I") (by decide +kernel)
  have hl := lv_entry ([.ref a_this]) (n := 1) (Nat.le_of_ble_eq_true rfl)
  have hent : entryFrame m args 1 = F0 m 0 ((lg_sl ([.ref a_this]) ++ List.replicate (1 - (lg_sl ([.ref a_this])).length) Slot.unset).toArray) [] := by rw [hargs]; exact lg_entry_eq m [.ref a_this] 1
  refine W.eq hent ?_
  clear hent
  generalize (lg_sl ([.ref a_this]) ++ List.replicate (1 - (lg_sl ([.ref a_this])).length) Slot.unset).toArray = ls at hl ⊢
  have hl : lv_has ls 1 [(0, .ref a_this)] := hl
  generalize hQ : MQ below _ args s 0 0 _ = QQ
  change W p l e rm_X6_isFull s m args below meth c s.heap [] 0 0 QQ _
  unfold f_X6_isFull at hf
  refine lv_aload_n hx hb dX6_isFull_0 rfl (lv_at hl 0 rfl) ?_
  refine va_get (D := G.1) (ci := 6) (v := .int v_size) (C := RX6) (T := TX6) (N := 3) hx hb hts inX6 hown hK hP 0 rfl rfl 2 (by decide) lk15 (fun _ h9 => h9) rfl dX6_isFull_1 ?_
  refine lv_aload_n hx hb dX6_isFull_4 rfl (lv_at hl 0 rfl) ?_
  refine va_get (D := G.1) (ci := 6) (v := .int v_most) (C := RX6) (T := TX6) (N := 3) hx hb hts inX6 hown hK hP 0 rfl rfl 0 (by decide) lk25 (fun _ h9 => h9) rfl dX6_isFull_5 ?_
  refine lv_icmp_lt (tgt := 15) hx hb dX6_isFull_8 (by decide) (fun hc2 => ?_) (fun hc2 => ?_)
  · have hf := if_t hf hc2
    refine lv_iconst (v := (0 : Int32)) hx hb dX6_isFull_15 (by decide) ?_
    have hr0 := so1 hf
    subst hr0
    rw [← hQ]
    exact W.zret (v := (0 : Int32)) hx hb hr rfl (fun t ht hW => ⟨rfl, ht⟩) (fun _ h => by cases h) dX6_isFull_16
  · have hf := if_f hf hc2
    refine lv_iconst (v := (1 : Int32)) hx hb dX6_isFull_11 (by decide) ?_
    refine lv_goto (tgt := 16) hx hb dX6_isFull_12 (by decide) ?_
    have hr0 := so1 hf
    subst hr0
    rw [← hQ]
    exact W.zret (v := (1 : Int32)) hx hb hr rfl (fun t ht hW => ⟨rfl, ht⟩) (fun _ h => by cases h) dX6_isFull_16
def f_X6_has  (v_size : Int32) (g1 : Int32) : Option (Int32) := if g1 < (0 : Int32) then (some ((0 : Int32))) else (if v_size ≤ g1 then (some ((0 : Int32))) else (some ((1 : Int32))))
abbrev rm_X6_has : Room := { frames := 0, cells := 0, slots := 0, locals := 0 }
set_option maxHeartbeats 4000000 in
set_option maxRecDepth 100000 in
theorem c_X6_has (l : Launch) (G : zG) (a_this : Nat) (a_this_parts : Nat) (v_most : Int32) (v_size : Int32) (g1 : Int32) (R0 : Int32) (hf : f_X6_has v_size g1 = some R0) : Met l yX6_has wsX6_has rm_X6_has (va_Pc [.ref a_this, .int g1] (zR G [(a_this, .inr (6, [.int v_most, .ref a_this_parts, .int v_size]))])) (zSv (some (.int R0))) 0 0 (fun _ => False) := by
  refine Met.ofW (cc := cX6_has) (maxL := 2) (ret := (some .boolean)) (by decide) rfl ?_
  intro p e s m args below meth c s₁ B hml hv
  obtain ⟨hargs, hP, hE⟩ := hv
  have hx := B.exec
  have hb := B.bytes
  have hr := B.returns
  have hts := atoms_spec (ws := wsX6_has) B.pre
  have hown : s.vm.findClass RX6 = some m.cls := findClass_of_methodNamed B.named
  have hlocks := B.notSynchronized
  have hK := hE.1
  have hC : CallFix p m c cX6_has 2 s args wsX6_has RX6 := ⟨hx, hb, hml, hown, hts⟩
  have inX6 : ∀ w ∈ wsX60, w ∈ wsX6_has := by decide +kernel
  have lk15 := hts (.fieldLink RX6 15 "SkyLeases$Terms" "size" "I") (by decide +kernel)
  have hl := lv_entry ([.ref a_this, .int g1]) (n := 2) (Nat.le_of_ble_eq_true rfl)
  have hent : entryFrame m args 2 = F0 m 0 ((lg_sl ([.ref a_this, .int g1]) ++ List.replicate (2 - (lg_sl ([.ref a_this, .int g1])).length) Slot.unset).toArray) [] := by rw [hargs]; exact lg_entry_eq m [.ref a_this, .int g1] 2
  refine W.eq hent ?_
  clear hent
  generalize (lg_sl ([.ref a_this, .int g1]) ++ List.replicate (2 - (lg_sl ([.ref a_this, .int g1])).length) Slot.unset).toArray = ls at hl ⊢
  have hl : lv_has ls 2 [(0, .ref a_this), (1, .int g1)] := hl
  generalize hQ : MQ below _ args s 0 0 _ = QQ
  change W p l e rm_X6_has s m args below meth c s.heap [] 0 0 QQ _
  unfold f_X6_has at hf
  refine lv_iload_n hx hb dX6_has_0 rfl (lv_at hl 1 rfl) ?_
  refine lv_if_lt (tgt := 16) hx hb dX6_has_1 (by decide) (fun hc3 => ?_) (fun hc3 => ?_)
  · have hf := if_t hf hc3
    refine lv_iconst (v := (0 : Int32)) hx hb dX6_has_16 (by decide) ?_
    have hr0 := so1 hf
    subst hr0
    rw [← hQ]
    exact W.zret (v := (0 : Int32)) hx hb hr rfl (fun t ht hW => ⟨rfl, ht⟩) (fun _ h => by cases h) dX6_has_17
  · have hf := if_f hf hc3
    refine lv_iload_n hx hb dX6_has_4 rfl (lv_at hl 1 rfl) ?_
    refine lv_aload_n hx hb dX6_has_5 rfl (lv_at hl 0 rfl) ?_
    refine va_get (D := G.1) (ci := 6) (v := .int v_size) (C := RX6) (T := TX6) (N := 3) hx hb hts inX6 hown hK hP 0 rfl rfl 2 (by decide) lk15 (fun _ h9 => h9) rfl dX6_has_6 ?_
    refine lv_icmp_ge (tgt := 16) hx hb dX6_has_9 (by decide) (fun hc4 => ?_) (fun hc4 => ?_)
    · have hf := if_t hf hc4
      refine lv_iconst (v := (0 : Int32)) hx hb dX6_has_16 (by decide) ?_
      have hr0 := so1 hf
      subst hr0
      rw [← hQ]
      exact W.zret (v := (0 : Int32)) hx hb hr rfl (fun t ht hW => ⟨rfl, ht⟩) (fun _ h => by cases h) dX6_has_17
    · have hf := if_f hf hc4
      refine lv_iconst (v := (1 : Int32)) hx hb dX6_has_12 (by decide) ?_
      refine lv_goto (tgt := 17) hx hb dX6_has_13 (by decide) ?_
      have hr0 := so1 hf
      subst hr0
      rw [← hQ]
      exact W.zret (v := (1 : Int32)) hx hb hr rfl (fun t ht hW => ⟨rfl, ht⟩) (fun _ h => by cases h) dX6_has_17
theorem hd_X6_has : yX6_has.cls = RX6 ∧ yX6_has.cls ≠ "java/lang/invoke/MethodHandle" ∧ yX6_has.cls ≠ "java/lang/invoke/VarHandle" ∧ (parseMethodDescriptor yX6_has.desc).map (fun d => d.parameters.length) = some 1 := by decide +kernel
def f_X6_part  (v_size : Int32) (v_parts : (Nat → Int32)) (g1 : Int32) (g2 : Int32) : Option (Int32) := bd1 (f_X6_has (v_size) (g1)) fun r6 => if r6 = (0 : Int32) then (some ((0 : Int32))) else (bd1 (f_X8_isWithin (g2) ((0 : Int32)) ((4 : Int32))) fun r8 => if r8 = (0 : Int32) then (some ((0 : Int32))) else (gd (inB ((g1 * (5 : Int32)) + g2) 50) (some ((v_parts (((g1 * (5 : Int32)) + g2)).toNatClampNeg)))))
abbrev rm_X6_part : Room := { frames := 1, cells := 0, slots := 0, locals := 22 }
set_option maxHeartbeats 4000000 in
set_option maxRecDepth 100000 in
theorem c_X6_part (l : Launch) (G : zG) (a_this : Nat) (a_this_parts : Nat) (v_most : Int32) (v_size : Int32) (v_parts : (Nat → Int32)) (g1 : Int32) (g2 : Int32) (R0 : Int32) (hf : f_X6_part v_size v_parts g1 g2 = some R0) : Met l yX6_part wsX6_part rm_X6_part (va_Pc [.ref a_this, .int g1, .int g2] (zR G [(a_this, .inr (6, [.int v_most, .ref a_this_parts, .int v_size])), (a_this_parts, .inl (G.2.1, 50, .inl v_parts))])) (zSv (some (.int R0))) 0 0 (fun _ => False) := by
  refine Met.ofW (cc := cX6_part) (maxL := 3) (ret := (some .int)) (by decide) rfl ?_
  intro p e s m args below meth c s₁ B hml hv
  obtain ⟨hargs, hP, hE⟩ := hv
  have hx := B.exec
  have hb := B.bytes
  have hr := B.returns
  have hts := atoms_spec (ws := wsX6_part) B.pre
  have hown : s.vm.findClass RX6 = some m.cls := findClass_of_methodNamed B.named
  have hlocks := B.notSynchronized
  have hK := hE.1
  have hC : CallFix p m c cX6_part 3 s args wsX6_part RX6 := ⟨hx, hb, hml, hown, hts⟩
  have inX6 : ∀ w ∈ wsX60, w ∈ wsX6_part := by decide +kernel
  have lk11 := hts (.fieldLink RX6 11 "SkyLeases$Terms" "parts" "[I") (by decide +kernel)
  have hl := lv_entry ([.ref a_this, .int g1, .int g2]) (n := 3) (Nat.le_of_ble_eq_true rfl)
  have hent : entryFrame m args 3 = F0 m 0 ((lg_sl ([.ref a_this, .int g1, .int g2]) ++ List.replicate (3 - (lg_sl ([.ref a_this, .int g1, .int g2])).length) Slot.unset).toArray) [] := by rw [hargs]; exact lg_entry_eq m [.ref a_this, .int g1, .int g2] 3
  refine W.eq hent ?_
  clear hent
  generalize (lg_sl ([.ref a_this, .int g1, .int g2]) ++ List.replicate (3 - (lg_sl ([.ref a_this, .int g1, .int g2])).length) Slot.unset).toArray = ls at hl ⊢
  have hl : lv_has ls 3 [(0, .ref a_this), (1, .int g1), (2, .int g2)] := hl
  generalize hQ : MQ below _ args s 0 0 _ = QQ
  change W p l e rm_X6_part s m args below meth c s.heap [] 0 0 QQ _
  unfold f_X6_part at hf
  refine lv_aload_n hx hb dX6_part_0 rfl (lv_at hl 0 rfl) ?_
  refine lv_iload_n hx hb dX6_part_1 rfl (lv_at hl 1 rfl) ?_
  obtain ⟨r6, hu, hf⟩ := bd1_some hf
  refine zRi (va_runV (As := [.int g1]) (rest := []) hC (c_X6_has l G a_this a_this_parts (v_most) (v_size) (g1) r6 hu) (cwV 1 hts gX6_part_X6_has rfl rfl rfl hd_X6_has ⟨(Nat.le_of_ble_eq_true rfl), (Nat.le_of_ble_eq_true rfl)⟩) (zPV hE hP [0] rfl 0 rfl rfl) rfl rfl hl.1 rfl (lv_room (Nat.le_of_ble_eq_true rfl)) dX6_part_2 ⟨Nat.zero_le _, Nat.zero_le _⟩) ?_
  refine lv_if_eq (tgt := 30) hx hb dX6_part_5 (by decide) (fun hc7 => ?_) (fun hc7 => ?_)
  · have hf := if_t hf hc7
    refine lv_iconst (v := (0 : Int32)) hx hb dX6_part_30 (by decide) ?_
    have hr0 := so1 hf
    subst hr0
    rw [← hQ]
    exact W.iret (v := (0 : Int32)) hx hb hr (fun t ht hW => ⟨rfl, ht⟩) (fun _ h => by cases h) dX6_part_31
  · have hf := if_f hf hc7
    refine lv_iload_n hx hb dX6_part_8 rfl (lv_at hl 2 rfl) ?_
    refine lv_iconst (v := (0 : Int32)) hx hb dX6_part_9 (by decide) ?_
    refine lv_iconst (v := (4 : Int32)) hx hb dX6_part_10 (by decide) ?_
    obtain ⟨r8, hu, hf⟩ := bd1_some hf
    refine zRi (va_runSN (As := [.int g2, .int (0 : Int32), .int (4 : Int32)]) (rest := []) hC (c_X8_isWithin l G (g2) ((0 : Int32)) ((4 : Int32)) r8 hu) ⟨va_cnB 3 hts gX6_part_X8_isWithin_n32 rfl rfl rfl (hE.2 (RX6, 32, yX8_isWithin, RX8) (List.mem_of_getElem? (i := 8) rfl)) (hts (.initialized RX8) (by decide +kernel)) hd_X8_isWithin.2 ⟨(Nat.le_of_ble_eq_true rfl), (Nat.le_of_ble_eq_true rfl)⟩, hts (.static yX8_isWithin) (by decide +kernel), trivial⟩ (zPS hE hP [] rfl) rfl rfl hl.1 rfl (lv_room (Nat.le_of_ble_eq_true rfl)) dX6_part_11 ⟨Nat.zero_le _, Nat.zero_le _⟩) ?_
    refine lv_if_eq (tgt := 30) hx hb dX6_part_14 (by decide) (fun hc9 => ?_) (fun hc9 => ?_)
    · have hf := if_t hf hc9
      refine lv_iconst (v := (0 : Int32)) hx hb dX6_part_30 (by decide) ?_
      have hr0 := so1 hf
      subst hr0
      rw [← hQ]
      exact W.iret (v := (0 : Int32)) hx hb hr (fun t ht hW => ⟨rfl, ht⟩) (fun _ h => by cases h) dX6_part_31
    · have hf := if_f hf hc9
      refine lv_aload_n hx hb dX6_part_17 rfl (lv_at hl 0 rfl) ?_
      refine va_get (D := G.1) (ci := 6) (v := .ref a_this_parts) (C := RX6) (T := TX6) (N := 3) hx hb hts inX6 hown hK hP 0 rfl rfl 1 (by decide) lk11 (fun _ h9 => h9) rfl dX6_part_18 ?_
      refine lv_iload_n hx hb dX6_part_21 rfl (lv_at hl 1 rfl) ?_
      refine lv_iconst (v := (5 : Int32)) hx hb dX6_part_22 (by decide) ?_
      refine lv_imul hx hb dX6_part_23 ?_
      refine lv_iload_n hx hb dX6_part_24 rfl (lv_at hl 2 rfl) ?_
      refine lv_iadd hx hb dX6_part_25 ?_
      obtain ⟨hg10, hf⟩ := gd_some hf
      refine va_iald hx hb hK hP 1 0 rfl rfl (inB_in hg10) dX6_part_26 ?_
      refine lv_goto (tgt := 31) hx hb dX6_part_27 (by decide) ?_
      have hr0 := so1 hf
      subst hr0
      rw [← hQ]
      exact W.iret (v := (v_parts (((g1 * (5 : Int32)) + g2)).toNatClampNeg)) hx hb hr (fun t ht hW => ⟨rfl, ht⟩) (fun _ h => by cases h) dX6_part_31
theorem hd_X6_isFull : yX6_isFull.cls = RX6 ∧ yX6_isFull.cls ≠ "java/lang/invoke/MethodHandle" ∧ yX6_isFull.cls ≠ "java/lang/invoke/VarHandle" ∧ (parseMethodDescriptor yX6_isFull.desc).map (fun d => d.parameters.length) = some 0 := by decide +kernel
def f_X6_add  (v_most : Int32) (v_size : Int32) (v_parts : (Nat → Int32)) (g1 : Int32) (g2 : Int32) (g3 : Int32) (g4 : Int32) (g5 : Int32) : Option (Int32 × (Nat → Int32)) := bd1 (f_X6_isFull (v_most) (v_size)) fun r13 => if r13 = (0 : Int32) then (gd (inB ((v_size * (5 : Int32)) + (0 : Int32)) 50) (nm (upd v_parts (((v_size * (5 : Int32)) + (0 : Int32))).toNatClampNeg g1) fun y16 => gd (inB ((v_size * (5 : Int32)) + (1 : Int32)) 50) (nm (upd y16 (((v_size * (5 : Int32)) + (1 : Int32))).toNatClampNeg g2) fun y18 => gd (inB ((v_size * (5 : Int32)) + (2 : Int32)) 50) (nm (upd y18 (((v_size * (5 : Int32)) + (2 : Int32))).toNatClampNeg g3) fun y20 => gd (inB ((v_size * (5 : Int32)) + (3 : Int32)) 50) (nm (upd y20 (((v_size * (5 : Int32)) + (3 : Int32))).toNatClampNeg g4) fun y22 => gd (inB ((v_size * (5 : Int32)) + (4 : Int32)) 50) (nm (upd y22 (((v_size * (5 : Int32)) + (4 : Int32))).toNatClampNeg g5) fun y24 => some ((v_size + (1 : Int32)), y24))))))) else (some (v_size, v_parts))
abbrev rm_X6_add : Room := { frames := 1, cells := 0, slots := 0, locals := 20 }
set_option maxHeartbeats 4000000 in
set_option maxRecDepth 100000 in
theorem c_X6_add (l : Launch) (G : zG) (sz : Nat) (a_this : Nat) (a_this_parts : Nat) (v_most : Int32) (v_size : Int32) (v_parts : (Nat → Int32)) (g1 : Int32) (g2 : Int32) (g3 : Int32) (g4 : Int32) (g5 : Int32) (R1 : Int32) (R2 : (Nat → Int32)) (hf : f_X6_add v_most v_size v_parts g1 g2 g3 g4 g5 = some (R1, R2)) : Met l yX6_add wsX6_add rm_X6_add (va_Pc [.ref a_this, .int g1, .int g2, .int g3, .int g4, .int g5] (zB G [(a_this, .inr (6, [.int v_most, .ref a_this_parts, .int v_size])), (a_this_parts, .inl (G.2.1, 50, .inl v_parts))] sz)) (zQ G none [(a_this, .inr (6, [.int v_most, .ref a_this_parts, .int R1])), (a_this_parts, .inl (G.2.1, 50, .inl R2))] (va_A [(a_this, .inr (6, [.int v_most, .ref a_this_parts, .int v_size])), (a_this_parts, .inl (G.2.1, 50, .inl v_parts))] sz)) 0 0 (va_A [(a_this, .inr (6, [.int v_most, .ref a_this_parts, .int v_size])), (a_this_parts, .inl (G.2.1, 50, .inl v_parts))] sz) := by
  refine Met.ofW (cc := cX6_add) (maxL := 7) (ret := none) (by decide) rfl ?_
  intro p e s m args below meth c s₁ B hml hv
  obtain ⟨hargs, hsz, hP, hD0, hE⟩ := hv
  have hx := B.exec
  have hb := B.bytes
  have hr := B.returns
  have hts := atoms_spec (ws := wsX6_add) B.pre
  have hown : s.vm.findClass RX6 = some m.cls := findClass_of_methodNamed B.named
  have hlocks := B.notSynchronized
  have hK := hE.1
  have hC : CallFix p m c cX6_add 7 s args wsX6_add RX6 := ⟨hx, hb, hml, hown, hts⟩
  have inX6 : ∀ w ∈ wsX60, w ∈ wsX6_add := by decide +kernel
  have lk11 := hts (.fieldLink RX6 11 "SkyLeases$Terms" "parts" "[I") (by decide +kernel)
  have lk15 := hts (.fieldLink RX6 15 "SkyLeases$Terms" "size" "I") (by decide +kernel)
  subst hsz
  have hD := hD0.self (sz := s.heap.size)
  generalize hAe : va_A [(a_this, .inr (6, [.int v_most, .ref a_this_parts, .int v_size])), (a_this_parts, .inl (G.2.1, 50, .inl v_parts))] s.heap.size = A at hD ⊢
  have hA : ∀ q : Nat, s.heap.size ≤ q → A q := fun q h => by rw [← hAe]; exact Or.inr h
  have hS : va_S A s.heap s.heap [] := va_S.rf
  have hP : va_P G.1 vwCl [(a_this, .inr (6, [.int v_most, .ref a_this_parts, .int v_size])), (a_this_parts, .inl (G.2.1, 50, .inl v_parts))] s.heap := hP
  have hl := lv_entry ([.ref a_this, .int g1, .int g2, .int g3, .int g4, .int g5]) (n := 7) (Nat.le_of_ble_eq_true rfl)
  have hent : entryFrame m args 7 = F0 m 0 ((lg_sl ([.ref a_this, .int g1, .int g2, .int g3, .int g4, .int g5]) ++ List.replicate (7 - (lg_sl ([.ref a_this, .int g1, .int g2, .int g3, .int g4, .int g5])).length) Slot.unset).toArray) [] := by rw [hargs]; exact lg_entry_eq m [.ref a_this, .int g1, .int g2, .int g3, .int g4, .int g5] 7
  refine W.eq hent ?_
  clear hent
  generalize (lg_sl ([.ref a_this, .int g1, .int g2, .int g3, .int g4, .int g5]) ++ List.replicate (7 - (lg_sl ([.ref a_this, .int g1, .int g2, .int g3, .int g4, .int g5])).length) Slot.unset).toArray = ls at hl ⊢
  have hl : lv_has ls 7 [(0, .ref a_this), (1, .int g1), (2, .int g2), (3, .int g3), (4, .int g4), (5, .int g5)] := hl
  generalize hQ : MQ below _ args s 0 0 _ = QQ
  change W p l e rm_X6_add s m args below meth c s.heap [] 0 0 QQ _
  have hSH := hS
  unfold f_X6_add at hf
  refine lv_aload_n hx hb dX6_add_0 rfl (lv_at hl 0 rfl) ?_
  obtain ⟨r13, hu, hf⟩ := bd1_some hf
  refine zRi (va_runV (As := []) (rest := []) hC (c_X6_isFull l G a_this a_this_parts (v_most) (v_size) r13 hu) (cwV 0 hts gX6_add_X6_isFull rfl rfl rfl hd_X6_isFull ⟨(Nat.le_of_ble_eq_true rfl), (Nat.le_of_ble_eq_true rfl)⟩) (zPV hE hP [0] rfl 0 rfl rfl) rfl rfl hl.1 rfl (lv_room (Nat.le_of_ble_eq_true rfl)) dX6_add_1 ⟨Nat.zero_le _, Nat.zero_le _⟩) ?_
  refine lv_if_eq (tgt := 8) hx hb dX6_add_4 (by decide) (fun hc14 => ?_) (fun hc14 => ?_)
  · have hf := if_t hf hc14
    refine lv_aload_n hx hb dX6_add_8 rfl (lv_at hl 0 rfl) ?_
    refine va_get (D := G.1) (ci := 6) (v := .int v_size) (C := RX6) (T := TX6) (N := 3) hx hb hts inX6 hown hK hP 0 rfl rfl 2 (by decide) lk15 (fun _ h9 => h9) rfl dX6_add_9 ?_
    refine lv_iconst (v := (5 : Int32)) hx hb dX6_add_12 (by decide) ?_
    refine lv_imul hx hb dX6_add_13 ?_
    refine lv_istore (lv' := [(6, .int (v_size * (5 : Int32))), (0, .ref a_this), (1, .int g1), (2, .int g2), (3, .int g3), (4, .int g4), (5, .int g5)]) hx hb dX6_add_14 hl (by decide) rfl (fun ls hl => ?_)
    refine lv_aload_n hx hb dX6_add_16 rfl (lv_at hl 1 rfl) ?_
    refine va_get (D := G.1) (ci := 6) (v := .ref a_this_parts) (C := RX6) (T := TX6) (N := 3) hx hb hts inX6 hown hK hP 0 rfl rfl 1 (by decide) lk11 (fun _ h9 => h9) rfl dX6_add_17 ?_
    refine lv_iload hx hb dX6_add_20 (lv_at hl 0 rfl) ?_
    refine lv_iconst (v := (0 : Int32)) hx hb dX6_add_22 (by decide) ?_
    refine lv_iadd hx hb dX6_add_23 ?_
    refine lv_iload_n hx hb dX6_add_24 rfl (lv_at hl 2 rfl) ?_
    obtain ⟨hg15, hf⟩ := gd_some hf
    refine z_iast hx hb hK hP hD hS 1 0 rfl rfl (inB_in hg15) dX6_add_25 (fun gg => [(a_this, .inr (6, [.int v_most, .ref a_this_parts, .int v_size])), (a_this_parts, .inl (G.2.1, 50, .inl gg))]) (fun gg => rfl) (fun y16 H locs ey16 hP hD hS => ?_)
    have hf := nm_to hf ey16
    have hP : va_P G.1 vwCl [(a_this, .inr (6, [.int v_most, .ref a_this_parts, .int v_size])), (a_this_parts, .inl (G.2.1, 50, .inl y16))] H := hP
    have hD : va_D A [(a_this, .inr (6, [.int v_most, .ref a_this_parts, .int v_size])), (a_this_parts, .inl (G.2.1, 50, .inl y16))] := hD
    refine lv_aload_n hx hb dX6_add_26 rfl (lv_at hl 1 rfl) ?_
    refine va_get (D := G.1) (ci := 6) (v := .ref a_this_parts) (C := RX6) (T := TX6) (N := 3) hx hb hts inX6 hown hK hP 0 rfl rfl 1 (by decide) lk11 (fun _ h9 => h9) rfl dX6_add_27 ?_
    refine lv_iload hx hb dX6_add_30 (lv_at hl 0 rfl) ?_
    refine lv_iconst (v := (1 : Int32)) hx hb dX6_add_32 (by decide) ?_
    refine lv_iadd hx hb dX6_add_33 ?_
    refine lv_iload_n hx hb dX6_add_34 rfl (lv_at hl 3 rfl) ?_
    obtain ⟨hg17, hf⟩ := gd_some hf
    refine z_iast hx hb hK hP hD hS 1 0 rfl rfl (inB_in hg17) dX6_add_35 (fun gg => [(a_this, .inr (6, [.int v_most, .ref a_this_parts, .int v_size])), (a_this_parts, .inl (G.2.1, 50, .inl gg))]) (fun gg => rfl) (fun y18 H locs ey18 hP hD hS => ?_)
    have hf := nm_to hf ey18
    have hP : va_P G.1 vwCl [(a_this, .inr (6, [.int v_most, .ref a_this_parts, .int v_size])), (a_this_parts, .inl (G.2.1, 50, .inl y18))] H := hP
    have hD : va_D A [(a_this, .inr (6, [.int v_most, .ref a_this_parts, .int v_size])), (a_this_parts, .inl (G.2.1, 50, .inl y18))] := hD
    refine lv_aload_n hx hb dX6_add_36 rfl (lv_at hl 1 rfl) ?_
    refine va_get (D := G.1) (ci := 6) (v := .ref a_this_parts) (C := RX6) (T := TX6) (N := 3) hx hb hts inX6 hown hK hP 0 rfl rfl 1 (by decide) lk11 (fun _ h9 => h9) rfl dX6_add_37 ?_
    refine lv_iload hx hb dX6_add_40 (lv_at hl 0 rfl) ?_
    refine lv_iconst (v := (2 : Int32)) hx hb dX6_add_42 (by decide) ?_
    refine lv_iadd hx hb dX6_add_43 ?_
    refine lv_iload_n hx hb dX6_add_44 rfl (lv_at hl 4 rfl) ?_
    obtain ⟨hg19, hf⟩ := gd_some hf
    refine z_iast hx hb hK hP hD hS 1 0 rfl rfl (inB_in hg19) dX6_add_45 (fun gg => [(a_this, .inr (6, [.int v_most, .ref a_this_parts, .int v_size])), (a_this_parts, .inl (G.2.1, 50, .inl gg))]) (fun gg => rfl) (fun y20 H locs ey20 hP hD hS => ?_)
    have hf := nm_to hf ey20
    have hP : va_P G.1 vwCl [(a_this, .inr (6, [.int v_most, .ref a_this_parts, .int v_size])), (a_this_parts, .inl (G.2.1, 50, .inl y20))] H := hP
    have hD : va_D A [(a_this, .inr (6, [.int v_most, .ref a_this_parts, .int v_size])), (a_this_parts, .inl (G.2.1, 50, .inl y20))] := hD
    refine lv_aload_n hx hb dX6_add_46 rfl (lv_at hl 1 rfl) ?_
    refine va_get (D := G.1) (ci := 6) (v := .ref a_this_parts) (C := RX6) (T := TX6) (N := 3) hx hb hts inX6 hown hK hP 0 rfl rfl 1 (by decide) lk11 (fun _ h9 => h9) rfl dX6_add_47 ?_
    refine lv_iload hx hb dX6_add_50 (lv_at hl 0 rfl) ?_
    refine lv_iconst (v := (3 : Int32)) hx hb dX6_add_52 (by decide) ?_
    refine lv_iadd hx hb dX6_add_53 ?_
    refine lv_iload hx hb dX6_add_54 (lv_at hl 5 rfl) ?_
    obtain ⟨hg21, hf⟩ := gd_some hf
    refine z_iast hx hb hK hP hD hS 1 0 rfl rfl (inB_in hg21) dX6_add_56 (fun gg => [(a_this, .inr (6, [.int v_most, .ref a_this_parts, .int v_size])), (a_this_parts, .inl (G.2.1, 50, .inl gg))]) (fun gg => rfl) (fun y22 H locs ey22 hP hD hS => ?_)
    have hf := nm_to hf ey22
    have hP : va_P G.1 vwCl [(a_this, .inr (6, [.int v_most, .ref a_this_parts, .int v_size])), (a_this_parts, .inl (G.2.1, 50, .inl y22))] H := hP
    have hD : va_D A [(a_this, .inr (6, [.int v_most, .ref a_this_parts, .int v_size])), (a_this_parts, .inl (G.2.1, 50, .inl y22))] := hD
    refine lv_aload_n hx hb dX6_add_57 rfl (lv_at hl 1 rfl) ?_
    refine va_get (D := G.1) (ci := 6) (v := .ref a_this_parts) (C := RX6) (T := TX6) (N := 3) hx hb hts inX6 hown hK hP 0 rfl rfl 1 (by decide) lk11 (fun _ h9 => h9) rfl dX6_add_58 ?_
    refine lv_iload hx hb dX6_add_61 (lv_at hl 0 rfl) ?_
    refine lv_iconst (v := (4 : Int32)) hx hb dX6_add_63 (by decide) ?_
    refine lv_iadd hx hb dX6_add_64 ?_
    refine lv_iload hx hb dX6_add_65 (lv_at hl 6 rfl) ?_
    obtain ⟨hg23, hf⟩ := gd_some hf
    refine z_iast hx hb hK hP hD hS 1 0 rfl rfl (inB_in hg23) dX6_add_67 (fun gg => [(a_this, .inr (6, [.int v_most, .ref a_this_parts, .int v_size])), (a_this_parts, .inl (G.2.1, 50, .inl gg))]) (fun gg => rfl) (fun y24 H locs ey24 hP hD hS => ?_)
    have hf := nm_to hf ey24
    have hP : va_P G.1 vwCl [(a_this, .inr (6, [.int v_most, .ref a_this_parts, .int v_size])), (a_this_parts, .inl (G.2.1, 50, .inl y24))] H := hP
    have hD : va_D A [(a_this, .inr (6, [.int v_most, .ref a_this_parts, .int v_size])), (a_this_parts, .inl (G.2.1, 50, .inl y24))] := hD
    refine lv_aload_n hx hb dX6_add_68 rfl (lv_at hl 1 rfl) ?_
    refine lv_dup hx hb dX6_add_69 rfl ?_
    refine va_get (D := G.1) (ci := 6) (v := .int v_size) (C := RX6) (T := TX6) (N := 3) hx hb hts inX6 hown hK hP 0 rfl rfl 2 (by decide) lk15 (fun _ h9 => h9) rfl dX6_add_70 ?_
    refine lv_iconst (v := (1 : Int32)) hx hb dX6_add_73 (by decide) ?_
    refine lv_iadd hx hb dX6_add_74 ?_
    refine va_put (D := G.1) (ci := 6) (v := .int (v_size + (1 : Int32))) (ty := .int) (C := RX6) (T := TX6) (N := 3) hx hb hts inX6 tyX6 tyX6_ok nmX6 hown hK hP hD hS 0 rfl rfl 2 (by decide) lk15 (fun _ h9 => h9) rfl (by decide +kernel) rfl rfl (Nat.le_of_ble_eq_true rfl) dX6_add_75 (fun H locs hP hD hS => ?_)
    have hP : va_P G.1 vwCl [(a_this, .inr (6, [.int v_most, .ref a_this_parts, .int (v_size + (1 : Int32))])), (a_this_parts, .inl (G.2.1, 50, .inl y24))] H := hP
    have hD : va_D A [(a_this, .inr (6, [.int v_most, .ref a_this_parts, .int (v_size + (1 : Int32))])), (a_this_parts, .inl (G.2.1, 50, .inl y24))] := hD
    obtain ⟨hr0, hr1⟩ := so2 hf
    subst hr0
    subst hr1
    rw [← hQ]
    exact W.vret hx hb hr (fun t ht hW => ⟨⟨rfl, by rw [ht]; exact hP⟩, hS.F ht⟩) hS.2.2 dX6_add_78
  · have hf := if_f hf hc14
    obtain ⟨hr0, hr1⟩ := so2 hf
    subst hr0
    subst hr1
    rw [← hQ]
    exact W.vret hx hb hr (fun t ht hW => ⟨⟨rfl, by rw [ht]; exact hP⟩, hS.F ht⟩) hS.2.2 dX6_add_7
def f_X6_insertFrom  (v_most : Int32) (v_size : Int32) (v_p1_size : Int32) (v_parts : (Nat → Int32)) (v_p1_parts : (Nat → Int32)) (g2 : Int32) (g3 : Int32) : Option (Int32 × (Nat → Int32)) := bd1 (f_X6_isFull (v_most) (v_size)) fun r11 => if r11 = (0 : Int32) then (bd1 (f_X6_has (v_p1_size) (g2)) fun r13 => if r13 = (0 : Int32) then (some (v_size, v_parts)) else (bd1 (f_X8_isWithin (g3) ((0 : Int32)) (v_size)) fun r15 => if r15 = (0 : Int32) then (some (v_size, v_parts)) else (gd (cpB (g3 * (5 : Int32)) ((g3 * (5 : Int32)) + (5 : Int32)) ((v_size - g3) * (5 : Int32)) 50 50) (nm (va_cpy v_parts v_parts ((g3 * (5 : Int32))).toNatClampNeg (((g3 * (5 : Int32)) + (5 : Int32))).toNatClampNeg (((v_size - g3) * (5 : Int32))).toNatClampNeg) fun y18 => gd (cpB (g2 * (5 : Int32)) (g3 * (5 : Int32)) (5 : Int32) 50 50) (nm (va_cpy v_p1_parts y18 ((g2 * (5 : Int32))).toNatClampNeg ((g3 * (5 : Int32))).toNatClampNeg ((5 : Int32)).toNatClampNeg) fun y20 => some ((v_size + (1 : Int32)), y20)))))) else (some (v_size, v_parts))
abbrev rm_X6_insertFrom : Room := { frames := 1, cells := 0, slots := 0, locals := 32 }
set_option maxHeartbeats 4000000 in
set_option maxRecDepth 100000 in
theorem c_X6_insertFrom (l : Launch) (G : zG) (sz : Nat) (a_this : Nat) (a_p1 : Nat) (a_this_parts : Nat) (a_p1_parts : Nat) (v_most : Int32) (v_size : Int32) (v_p1_most : Int32) (v_p1_size : Int32) (v_parts : (Nat → Int32)) (v_p1_parts : (Nat → Int32)) (g2 : Int32) (g3 : Int32) (R1 : Int32) (R2 : (Nat → Int32)) (hf : f_X6_insertFrom v_most v_size v_p1_size v_parts v_p1_parts g2 g3 = some (R1, R2)) : Met l yX6_insertFrom wsX6_insertFrom rm_X6_insertFrom (va_Pc [.ref a_this, .ref a_p1, .int g2, .int g3] (zB G [(a_this, .inr (6, [.int v_most, .ref a_this_parts, .int v_size])), (a_p1, .inr (6, [.int v_p1_most, .ref a_p1_parts, .int v_p1_size])), (a_this_parts, .inl (G.2.1, 50, .inl v_parts)), (a_p1_parts, .inl (G.2.1, 50, .inl v_p1_parts))] sz)) (zQ G none [(a_this, .inr (6, [.int v_most, .ref a_this_parts, .int R1])), (a_p1, .inr (6, [.int v_p1_most, .ref a_p1_parts, .int v_p1_size])), (a_this_parts, .inl (G.2.1, 50, .inl R2)), (a_p1_parts, .inl (G.2.1, 50, .inl v_p1_parts))] (va_A [(a_this, .inr (6, [.int v_most, .ref a_this_parts, .int v_size])), (a_p1, .inr (6, [.int v_p1_most, .ref a_p1_parts, .int v_p1_size])), (a_this_parts, .inl (G.2.1, 50, .inl v_parts)), (a_p1_parts, .inl (G.2.1, 50, .inl v_p1_parts))] sz)) 0 0 (va_A [(a_this, .inr (6, [.int v_most, .ref a_this_parts, .int v_size])), (a_p1, .inr (6, [.int v_p1_most, .ref a_p1_parts, .int v_p1_size])), (a_this_parts, .inl (G.2.1, 50, .inl v_parts)), (a_p1_parts, .inl (G.2.1, 50, .inl v_p1_parts))] sz) := by
  refine Met.ofW (cc := cX6_insertFrom) (maxL := 5) (ret := none) (by decide) rfl ?_
  intro p e s m args below meth c s₁ B hml hv
  obtain ⟨hargs, hsz, hP, hD0, hE⟩ := hv
  have hx := B.exec
  have hb := B.bytes
  have hr := B.returns
  have hts := atoms_spec (ws := wsX6_insertFrom) B.pre
  have hown : s.vm.findClass RX6 = some m.cls := findClass_of_methodNamed B.named
  have hlocks := B.notSynchronized
  have hK := hE.1
  have hC : CallFix p m c cX6_insertFrom 5 s args wsX6_insertFrom RX6 := ⟨hx, hb, hml, hown, hts⟩
  have inX6 : ∀ w ∈ wsX60, w ∈ wsX6_insertFrom := by decide +kernel
  have lk11 := hts (.fieldLink RX6 11 "SkyLeases$Terms" "parts" "[I") (by decide +kernel)
  have lk15 := hts (.fieldLink RX6 15 "SkyLeases$Terms" "size" "I") (by decide +kernel)
  subst hsz
  have hD := hD0.self (sz := s.heap.size)
  generalize hAe : va_A [(a_this, .inr (6, [.int v_most, .ref a_this_parts, .int v_size])), (a_p1, .inr (6, [.int v_p1_most, .ref a_p1_parts, .int v_p1_size])), (a_this_parts, .inl (G.2.1, 50, .inl v_parts)), (a_p1_parts, .inl (G.2.1, 50, .inl v_p1_parts))] s.heap.size = A at hD ⊢
  have hA : ∀ q : Nat, s.heap.size ≤ q → A q := fun q h => by rw [← hAe]; exact Or.inr h
  have hS : va_S A s.heap s.heap [] := va_S.rf
  have hP : va_P G.1 vwCl [(a_this, .inr (6, [.int v_most, .ref a_this_parts, .int v_size])), (a_p1, .inr (6, [.int v_p1_most, .ref a_p1_parts, .int v_p1_size])), (a_this_parts, .inl (G.2.1, 50, .inl v_parts)), (a_p1_parts, .inl (G.2.1, 50, .inl v_p1_parts))] s.heap := hP
  have hl := lv_entry ([.ref a_this, .ref a_p1, .int g2, .int g3]) (n := 5) (Nat.le_of_ble_eq_true rfl)
  have hent : entryFrame m args 5 = F0 m 0 ((lg_sl ([.ref a_this, .ref a_p1, .int g2, .int g3]) ++ List.replicate (5 - (lg_sl ([.ref a_this, .ref a_p1, .int g2, .int g3])).length) Slot.unset).toArray) [] := by rw [hargs]; exact lg_entry_eq m [.ref a_this, .ref a_p1, .int g2, .int g3] 5
  refine W.eq hent ?_
  clear hent
  generalize (lg_sl ([.ref a_this, .ref a_p1, .int g2, .int g3]) ++ List.replicate (5 - (lg_sl ([.ref a_this, .ref a_p1, .int g2, .int g3])).length) Slot.unset).toArray = ls at hl ⊢
  have hl : lv_has ls 5 [(0, .ref a_this), (1, .ref a_p1), (2, .int g2), (3, .int g3)] := hl
  generalize hQ : MQ below _ args s 0 0 _ = QQ
  change W p l e rm_X6_insertFrom s m args below meth c s.heap [] 0 0 QQ _
  have hSH := hS
  unfold f_X6_insertFrom at hf
  refine lv_aload_n hx hb dX6_insertFrom_0 rfl (lv_at hl 0 rfl) ?_
  obtain ⟨r11, hu, hf⟩ := bd1_some hf
  refine zRi (va_runV (As := []) (rest := []) hC (c_X6_isFull l G a_this a_this_parts (v_most) (v_size) r11 hu) (cwV 0 hts gX6_insertFrom_X6_isFull rfl rfl rfl hd_X6_isFull ⟨(Nat.le_of_ble_eq_true rfl), (Nat.le_of_ble_eq_true rfl)⟩) (zPV hE hP [0] rfl 0 rfl rfl) rfl rfl hl.1 rfl (lv_room (Nat.le_of_ble_eq_true rfl)) dX6_insertFrom_1 ⟨Nat.zero_le _, Nat.zero_le _⟩) ?_
  refine lv_if_ne (tgt := 27) hx hb dX6_insertFrom_4 (by decide) (fun hc12 => ?_) (fun hc12 => ?_)
  · have hf := if_f hf hc12
    obtain ⟨hr0, hr1⟩ := so2 hf
    subst hr0
    subst hr1
    rw [← hQ]
    exact W.vret hx hb hr (fun t ht hW => ⟨⟨rfl, by rw [ht]; exact hP⟩, hS.F ht⟩) hS.2.2 dX6_insertFrom_27
  · have hf := if_t hf hc12
    refine lv_aload_n hx hb dX6_insertFrom_7 rfl (lv_at hl 1 rfl) ?_
    refine lv_iload_n hx hb dX6_insertFrom_8 rfl (lv_at hl 2 rfl) ?_
    obtain ⟨r13, hu, hf⟩ := bd1_some hf
    refine zRi (va_runV (As := [.int g2]) (rest := []) hC (c_X6_has l G a_p1 a_p1_parts (v_p1_most) (v_p1_size) (g2) r13 hu) (cwV 1 hts gX6_insertFrom_X6_has rfl rfl rfl hd_X6_has ⟨(Nat.le_of_ble_eq_true rfl), (Nat.le_of_ble_eq_true rfl)⟩) (zPV hE hP [1] rfl 1 rfl rfl) rfl rfl hl.1 rfl (lv_room (Nat.le_of_ble_eq_true rfl)) dX6_insertFrom_9 ⟨Nat.zero_le _, Nat.zero_le _⟩) ?_
    refine lv_if_eq (tgt := 27) hx hb dX6_insertFrom_12 (by decide) (fun hc14 => ?_) (fun hc14 => ?_)
    · have hf := if_t hf hc14
      obtain ⟨hr0, hr1⟩ := so2 hf
      subst hr0
      subst hr1
      rw [← hQ]
      exact W.vret hx hb hr (fun t ht hW => ⟨⟨rfl, by rw [ht]; exact hP⟩, hS.F ht⟩) hS.2.2 dX6_insertFrom_27
    · have hf := if_f hf hc14
      refine lv_iload_n hx hb dX6_insertFrom_15 rfl (lv_at hl 3 rfl) ?_
      refine lv_iconst (v := (0 : Int32)) hx hb dX6_insertFrom_16 (by decide) ?_
      refine lv_aload_n hx hb dX6_insertFrom_17 rfl (lv_at hl 0 rfl) ?_
      refine va_get (D := G.1) (ci := 6) (v := .int v_size) (C := RX6) (T := TX6) (N := 3) hx hb hts inX6 hown hK hP 0 rfl rfl 2 (by decide) lk15 (fun _ h9 => h9) rfl dX6_insertFrom_18 ?_
      obtain ⟨r15, hu, hf⟩ := bd1_some hf
      refine zRi (va_runSN (As := [.int g3, .int (0 : Int32), .int v_size]) (rest := []) hC (c_X8_isWithin l G (g3) ((0 : Int32)) (v_size) r15 hu) ⟨va_cnB 3 hts gX6_insertFrom_X8_isWithin_n32 rfl rfl rfl (hE.2 (RX6, 32, yX8_isWithin, RX8) (List.mem_of_getElem? (i := 8) rfl)) (hts (.initialized RX8) (by decide +kernel)) hd_X8_isWithin.2 ⟨(Nat.le_of_ble_eq_true rfl), (Nat.le_of_ble_eq_true rfl)⟩, hts (.static yX8_isWithin) (by decide +kernel), trivial⟩ (zPS hE hP [] rfl) rfl rfl hl.1 rfl (lv_room (Nat.le_of_ble_eq_true rfl)) dX6_insertFrom_21 ⟨Nat.zero_le _, Nat.zero_le _⟩) ?_
      refine lv_if_ne (tgt := 28) hx hb dX6_insertFrom_24 (by decide) (fun hc16 => ?_) (fun hc16 => ?_)
      · have hf := if_f hf hc16
        refine lv_iload_n hx hb dX6_insertFrom_28 rfl (lv_at hl 3 rfl) ?_
        refine lv_iconst (v := (5 : Int32)) hx hb dX6_insertFrom_29 (by decide) ?_
        refine lv_imul hx hb dX6_insertFrom_30 ?_
        refine lv_istore (lv' := [(4, .int (g3 * (5 : Int32))), (0, .ref a_this), (1, .ref a_p1), (2, .int g2), (3, .int g3)]) hx hb dX6_insertFrom_31 hl (by decide) rfl (fun ls hl => ?_)
        refine lv_aload_n hx hb dX6_insertFrom_33 rfl (lv_at hl 1 rfl) ?_
        refine va_get (D := G.1) (ci := 6) (v := .ref a_this_parts) (C := RX6) (T := TX6) (N := 3) hx hb hts inX6 hown hK hP 0 rfl rfl 1 (by decide) lk11 (fun _ h9 => h9) rfl dX6_insertFrom_34 ?_
        refine lv_iload hx hb dX6_insertFrom_37 (lv_at hl 0 rfl) ?_
        refine lv_aload_n hx hb dX6_insertFrom_39 rfl (lv_at hl 1 rfl) ?_
        refine va_get (D := G.1) (ci := 6) (v := .ref a_this_parts) (C := RX6) (T := TX6) (N := 3) hx hb hts inX6 hown hK hP 0 rfl rfl 1 (by decide) lk11 (fun _ h9 => h9) rfl dX6_insertFrom_40 ?_
        refine lv_iload hx hb dX6_insertFrom_43 (lv_at hl 0 rfl) ?_
        refine lv_iconst (v := (5 : Int32)) hx hb dX6_insertFrom_45 (by decide) ?_
        refine lv_iadd hx hb dX6_insertFrom_46 ?_
        refine lv_aload_n hx hb dX6_insertFrom_47 rfl (lv_at hl 1 rfl) ?_
        refine va_get (D := G.1) (ci := 6) (v := .int v_size) (C := RX6) (T := TX6) (N := 3) hx hb hts inX6 hown hK hP 0 rfl rfl 2 (by decide) lk15 (fun _ h9 => h9) rfl dX6_insertFrom_48 ?_
        refine lv_iload_n hx hb dX6_insertFrom_51 rfl (lv_at hl 4 rfl) ?_
        refine lv_isub hx hb dX6_insertFrom_52 ?_
        refine lv_iconst (v := (5 : Int32)) hx hb dX6_insertFrom_53 (by decide) ?_
        refine lv_imul hx hb dX6_insertFrom_54 ?_
        obtain ⟨hg17, hf⟩ := gd_some hf
        refine z_copyi hx hb (by rw [hml]; exact hl.1.symm) hown (hts (.methodLink RX6 40 arraycopyName) (by decide +kernel)) (hts (.native arraycopyName) (by decide +kernel)) (hts (.static arraycopyName) (by decide +kernel)) (hts (.initialized "java/lang/System") (by decide +kernel)) hK hP hD hS 2 2 rfl rfl hg17 (Nat.le_of_ble_eq_true rfl) (Nat.le_of_ble_eq_true rfl) dX6_insertFrom_55 (fun gg => [(a_this, .inr (6, [.int v_most, .ref a_this_parts, .int v_size])), (a_p1, .inr (6, [.int v_p1_most, .ref a_p1_parts, .int v_p1_size])), (a_this_parts, .inl (G.2.1, 50, .inl gg)), (a_p1_parts, .inl (G.2.1, 50, .inl v_p1_parts))]) (fun gg => rfl) (fun y18 H locs ey18 hP hD hS => ?_)
        have hf := nm_to hf ey18
        have hP : va_P G.1 vwCl [(a_this, .inr (6, [.int v_most, .ref a_this_parts, .int v_size])), (a_p1, .inr (6, [.int v_p1_most, .ref a_p1_parts, .int v_p1_size])), (a_this_parts, .inl (G.2.1, 50, .inl y18)), (a_p1_parts, .inl (G.2.1, 50, .inl v_p1_parts))] H := hP
        have hD : va_D A [(a_this, .inr (6, [.int v_most, .ref a_this_parts, .int v_size])), (a_p1, .inr (6, [.int v_p1_most, .ref a_p1_parts, .int v_p1_size])), (a_this_parts, .inl (G.2.1, 50, .inl y18)), (a_p1_parts, .inl (G.2.1, 50, .inl v_p1_parts))] := hD
        refine lv_aload_n hx hb dX6_insertFrom_58 rfl (lv_at hl 2 rfl) ?_
        refine va_get (D := G.1) (ci := 6) (v := .ref a_p1_parts) (C := RX6) (T := TX6) (N := 3) hx hb hts inX6 hown hK hP 1 rfl rfl 1 (by decide) lk11 (fun _ h9 => h9) rfl dX6_insertFrom_59 ?_
        refine lv_iload_n hx hb dX6_insertFrom_62 rfl (lv_at hl 3 rfl) ?_
        refine lv_iconst (v := (5 : Int32)) hx hb dX6_insertFrom_63 (by decide) ?_
        refine lv_imul hx hb dX6_insertFrom_64 ?_
        refine lv_aload_n hx hb dX6_insertFrom_65 rfl (lv_at hl 1 rfl) ?_
        refine va_get (D := G.1) (ci := 6) (v := .ref a_this_parts) (C := RX6) (T := TX6) (N := 3) hx hb hts inX6 hown hK hP 0 rfl rfl 1 (by decide) lk11 (fun _ h9 => h9) rfl dX6_insertFrom_66 ?_
        refine lv_iload hx hb dX6_insertFrom_69 (lv_at hl 0 rfl) ?_
        refine lv_iconst (v := (5 : Int32)) hx hb dX6_insertFrom_71 (by decide) ?_
        obtain ⟨hg19, hf⟩ := gd_some hf
        refine z_copyi hx hb (by rw [hml]; exact hl.1.symm) hown (hts (.methodLink RX6 40 arraycopyName) (by decide +kernel)) (hts (.native arraycopyName) (by decide +kernel)) (hts (.static arraycopyName) (by decide +kernel)) (hts (.initialized "java/lang/System") (by decide +kernel)) hK hP hD hS 3 2 rfl rfl hg19 (Nat.le_of_ble_eq_true rfl) (Nat.le_of_ble_eq_true rfl) dX6_insertFrom_72 (fun gg => [(a_this, .inr (6, [.int v_most, .ref a_this_parts, .int v_size])), (a_p1, .inr (6, [.int v_p1_most, .ref a_p1_parts, .int v_p1_size])), (a_this_parts, .inl (G.2.1, 50, .inl gg)), (a_p1_parts, .inl (G.2.1, 50, .inl v_p1_parts))]) (fun gg => rfl) (fun y20 H locs ey20 hP hD hS => ?_)
        have hf := nm_to hf ey20
        have hP : va_P G.1 vwCl [(a_this, .inr (6, [.int v_most, .ref a_this_parts, .int v_size])), (a_p1, .inr (6, [.int v_p1_most, .ref a_p1_parts, .int v_p1_size])), (a_this_parts, .inl (G.2.1, 50, .inl y20)), (a_p1_parts, .inl (G.2.1, 50, .inl v_p1_parts))] H := hP
        have hD : va_D A [(a_this, .inr (6, [.int v_most, .ref a_this_parts, .int v_size])), (a_p1, .inr (6, [.int v_p1_most, .ref a_p1_parts, .int v_p1_size])), (a_this_parts, .inl (G.2.1, 50, .inl y20)), (a_p1_parts, .inl (G.2.1, 50, .inl v_p1_parts))] := hD
        refine lv_aload_n hx hb dX6_insertFrom_75 rfl (lv_at hl 1 rfl) ?_
        refine lv_dup hx hb dX6_insertFrom_76 rfl ?_
        refine va_get (D := G.1) (ci := 6) (v := .int v_size) (C := RX6) (T := TX6) (N := 3) hx hb hts inX6 hown hK hP 0 rfl rfl 2 (by decide) lk15 (fun _ h9 => h9) rfl dX6_insertFrom_77 ?_
        refine lv_iconst (v := (1 : Int32)) hx hb dX6_insertFrom_80 (by decide) ?_
        refine lv_iadd hx hb dX6_insertFrom_81 ?_
        refine va_put (D := G.1) (ci := 6) (v := .int (v_size + (1 : Int32))) (ty := .int) (C := RX6) (T := TX6) (N := 3) hx hb hts inX6 tyX6 tyX6_ok nmX6 hown hK hP hD hS 0 rfl rfl 2 (by decide) lk15 (fun _ h9 => h9) rfl (by decide +kernel) rfl rfl (Nat.le_of_ble_eq_true rfl) dX6_insertFrom_82 (fun H locs hP hD hS => ?_)
        have hP : va_P G.1 vwCl [(a_this, .inr (6, [.int v_most, .ref a_this_parts, .int (v_size + (1 : Int32))])), (a_p1, .inr (6, [.int v_p1_most, .ref a_p1_parts, .int v_p1_size])), (a_this_parts, .inl (G.2.1, 50, .inl y20)), (a_p1_parts, .inl (G.2.1, 50, .inl v_p1_parts))] H := hP
        have hD : va_D A [(a_this, .inr (6, [.int v_most, .ref a_this_parts, .int (v_size + (1 : Int32))])), (a_p1, .inr (6, [.int v_p1_most, .ref a_p1_parts, .int v_p1_size])), (a_this_parts, .inl (G.2.1, 50, .inl y20)), (a_p1_parts, .inl (G.2.1, 50, .inl v_p1_parts))] := hD
        obtain ⟨hr0, hr1⟩ := so2 hf
        subst hr0
        subst hr1
        rw [← hQ]
        exact W.vret hx hb hr (fun t ht hW => ⟨⟨rfl, by rw [ht]; exact hP⟩, hS.F ht⟩) hS.2.2 dX6_insertFrom_85
      · have hf := if_t hf hc16
        obtain ⟨hr0, hr1⟩ := so2 hf
        subst hr0
        subst hr1
        rw [← hQ]
        exact W.vret hx hb hr (fun t ht hW => ⟨⟨rfl, by rw [ht]; exact hP⟩, hS.F ht⟩) hS.2.2 dX6_insertFrom_27
def f_X6_removeAt  (v_size : Int32) (v_parts : (Nat → Int32)) (g1 : Int32) : Option (Int32 × (Nat → Int32)) := bd1 (f_X6_has (v_size) (g1)) fun r5 => if r5 = (0 : Int32) then (some (v_size, v_parts)) else (gd (cpB ((g1 * (5 : Int32)) + (5 : Int32)) (g1 * (5 : Int32)) (((v_size - g1) - (1 : Int32)) * (5 : Int32)) 50 50) (nm (va_cpy v_parts v_parts (((g1 * (5 : Int32)) + (5 : Int32))).toNatClampNeg ((g1 * (5 : Int32))).toNatClampNeg ((((v_size - g1) - (1 : Int32)) * (5 : Int32))).toNatClampNeg) fun y8 => some ((v_size - (1 : Int32)), y8)))
abbrev rm_X6_removeAt : Room := { frames := 1, cells := 0, slots := 0, locals := 32 }
set_option maxHeartbeats 4000000 in
set_option maxRecDepth 100000 in
theorem c_X6_removeAt (l : Launch) (G : zG) (sz : Nat) (a_this : Nat) (a_this_parts : Nat) (v_most : Int32) (v_size : Int32) (v_parts : (Nat → Int32)) (g1 : Int32) (R1 : Int32) (R2 : (Nat → Int32)) (hf : f_X6_removeAt v_size v_parts g1 = some (R1, R2)) : Met l yX6_removeAt wsX6_removeAt rm_X6_removeAt (va_Pc [.ref a_this, .int g1] (zB G [(a_this, .inr (6, [.int v_most, .ref a_this_parts, .int v_size])), (a_this_parts, .inl (G.2.1, 50, .inl v_parts))] sz)) (zQ G none [(a_this, .inr (6, [.int v_most, .ref a_this_parts, .int R1])), (a_this_parts, .inl (G.2.1, 50, .inl R2))] (va_A [(a_this, .inr (6, [.int v_most, .ref a_this_parts, .int v_size])), (a_this_parts, .inl (G.2.1, 50, .inl v_parts))] sz)) 0 0 (va_A [(a_this, .inr (6, [.int v_most, .ref a_this_parts, .int v_size])), (a_this_parts, .inl (G.2.1, 50, .inl v_parts))] sz) := by
  refine Met.ofW (cc := cX6_removeAt) (maxL := 3) (ret := none) (by decide) rfl ?_
  intro p e s m args below meth c s₁ B hml hv
  obtain ⟨hargs, hsz, hP, hD0, hE⟩ := hv
  have hx := B.exec
  have hb := B.bytes
  have hr := B.returns
  have hts := atoms_spec (ws := wsX6_removeAt) B.pre
  have hown : s.vm.findClass RX6 = some m.cls := findClass_of_methodNamed B.named
  have hlocks := B.notSynchronized
  have hK := hE.1
  have hC : CallFix p m c cX6_removeAt 3 s args wsX6_removeAt RX6 := ⟨hx, hb, hml, hown, hts⟩
  have inX6 : ∀ w ∈ wsX60, w ∈ wsX6_removeAt := by decide +kernel
  have lk11 := hts (.fieldLink RX6 11 "SkyLeases$Terms" "parts" "[I") (by decide +kernel)
  have lk15 := hts (.fieldLink RX6 15 "SkyLeases$Terms" "size" "I") (by decide +kernel)
  subst hsz
  have hD := hD0.self (sz := s.heap.size)
  generalize hAe : va_A [(a_this, .inr (6, [.int v_most, .ref a_this_parts, .int v_size])), (a_this_parts, .inl (G.2.1, 50, .inl v_parts))] s.heap.size = A at hD ⊢
  have hA : ∀ q : Nat, s.heap.size ≤ q → A q := fun q h => by rw [← hAe]; exact Or.inr h
  have hS : va_S A s.heap s.heap [] := va_S.rf
  have hP : va_P G.1 vwCl [(a_this, .inr (6, [.int v_most, .ref a_this_parts, .int v_size])), (a_this_parts, .inl (G.2.1, 50, .inl v_parts))] s.heap := hP
  have hl := lv_entry ([.ref a_this, .int g1]) (n := 3) (Nat.le_of_ble_eq_true rfl)
  have hent : entryFrame m args 3 = F0 m 0 ((lg_sl ([.ref a_this, .int g1]) ++ List.replicate (3 - (lg_sl ([.ref a_this, .int g1])).length) Slot.unset).toArray) [] := by rw [hargs]; exact lg_entry_eq m [.ref a_this, .int g1] 3
  refine W.eq hent ?_
  clear hent
  generalize (lg_sl ([.ref a_this, .int g1]) ++ List.replicate (3 - (lg_sl ([.ref a_this, .int g1])).length) Slot.unset).toArray = ls at hl ⊢
  have hl : lv_has ls 3 [(0, .ref a_this), (1, .int g1)] := hl
  generalize hQ : MQ below _ args s 0 0 _ = QQ
  change W p l e rm_X6_removeAt s m args below meth c s.heap [] 0 0 QQ _
  have hSH := hS
  unfold f_X6_removeAt at hf
  refine lv_aload_n hx hb dX6_removeAt_0 rfl (lv_at hl 0 rfl) ?_
  refine lv_iload_n hx hb dX6_removeAt_1 rfl (lv_at hl 1 rfl) ?_
  obtain ⟨r5, hu, hf⟩ := bd1_some hf
  refine zRi (va_runV (As := [.int g1]) (rest := []) hC (c_X6_has l G a_this a_this_parts (v_most) (v_size) (g1) r5 hu) (cwV 1 hts gX6_removeAt_X6_has rfl rfl rfl hd_X6_has ⟨(Nat.le_of_ble_eq_true rfl), (Nat.le_of_ble_eq_true rfl)⟩) (zPV hE hP [0] rfl 0 rfl rfl) rfl rfl hl.1 rfl (lv_room (Nat.le_of_ble_eq_true rfl)) dX6_removeAt_2 ⟨Nat.zero_le _, Nat.zero_le _⟩) ?_
  refine lv_if_ne (tgt := 9) hx hb dX6_removeAt_5 (by decide) (fun hc6 => ?_) (fun hc6 => ?_)
  · have hf := if_f hf hc6
    refine lv_iload_n hx hb dX6_removeAt_9 rfl (lv_at hl 1 rfl) ?_
    refine lv_iconst (v := (5 : Int32)) hx hb dX6_removeAt_10 (by decide) ?_
    refine lv_imul hx hb dX6_removeAt_11 ?_
    refine lv_istore_n (lv' := [(2, .int (g1 * (5 : Int32))), (0, .ref a_this), (1, .int g1)]) hx hb dX6_removeAt_12 rfl hl (by decide) rfl (fun ls hl => ?_)
    refine lv_aload_n hx hb dX6_removeAt_13 rfl (lv_at hl 1 rfl) ?_
    refine va_get (D := G.1) (ci := 6) (v := .ref a_this_parts) (C := RX6) (T := TX6) (N := 3) hx hb hts inX6 hown hK hP 0 rfl rfl 1 (by decide) lk11 (fun _ h9 => h9) rfl dX6_removeAt_14 ?_
    refine lv_iload_n hx hb dX6_removeAt_17 rfl (lv_at hl 0 rfl) ?_
    refine lv_iconst (v := (5 : Int32)) hx hb dX6_removeAt_18 (by decide) ?_
    refine lv_iadd hx hb dX6_removeAt_19 ?_
    refine lv_aload_n hx hb dX6_removeAt_20 rfl (lv_at hl 1 rfl) ?_
    refine va_get (D := G.1) (ci := 6) (v := .ref a_this_parts) (C := RX6) (T := TX6) (N := 3) hx hb hts inX6 hown hK hP 0 rfl rfl 1 (by decide) lk11 (fun _ h9 => h9) rfl dX6_removeAt_21 ?_
    refine lv_iload_n hx hb dX6_removeAt_24 rfl (lv_at hl 0 rfl) ?_
    refine lv_aload_n hx hb dX6_removeAt_25 rfl (lv_at hl 1 rfl) ?_
    refine va_get (D := G.1) (ci := 6) (v := .int v_size) (C := RX6) (T := TX6) (N := 3) hx hb hts inX6 hown hK hP 0 rfl rfl 2 (by decide) lk15 (fun _ h9 => h9) rfl dX6_removeAt_26 ?_
    refine lv_iload_n hx hb dX6_removeAt_29 rfl (lv_at hl 2 rfl) ?_
    refine lv_isub hx hb dX6_removeAt_30 ?_
    refine lv_iconst (v := (1 : Int32)) hx hb dX6_removeAt_31 (by decide) ?_
    refine lv_isub hx hb dX6_removeAt_32 ?_
    refine lv_iconst (v := (5 : Int32)) hx hb dX6_removeAt_33 (by decide) ?_
    refine lv_imul hx hb dX6_removeAt_34 ?_
    obtain ⟨hg7, hf⟩ := gd_some hf
    refine z_copyi hx hb (by rw [hml]; exact hl.1.symm) hown (hts (.methodLink RX6 40 arraycopyName) (by decide +kernel)) (hts (.native arraycopyName) (by decide +kernel)) (hts (.static arraycopyName) (by decide +kernel)) (hts (.initialized "java/lang/System") (by decide +kernel)) hK hP hD hS 1 1 rfl rfl hg7 (Nat.le_of_ble_eq_true rfl) (Nat.le_of_ble_eq_true rfl) dX6_removeAt_35 (fun gg => [(a_this, .inr (6, [.int v_most, .ref a_this_parts, .int v_size])), (a_this_parts, .inl (G.2.1, 50, .inl gg))]) (fun gg => rfl) (fun y8 H locs ey8 hP hD hS => ?_)
    have hf := nm_to hf ey8
    have hP : va_P G.1 vwCl [(a_this, .inr (6, [.int v_most, .ref a_this_parts, .int v_size])), (a_this_parts, .inl (G.2.1, 50, .inl y8))] H := hP
    have hD : va_D A [(a_this, .inr (6, [.int v_most, .ref a_this_parts, .int v_size])), (a_this_parts, .inl (G.2.1, 50, .inl y8))] := hD
    refine lv_aload_n hx hb dX6_removeAt_38 rfl (lv_at hl 1 rfl) ?_
    refine lv_dup hx hb dX6_removeAt_39 rfl ?_
    refine va_get (D := G.1) (ci := 6) (v := .int v_size) (C := RX6) (T := TX6) (N := 3) hx hb hts inX6 hown hK hP 0 rfl rfl 2 (by decide) lk15 (fun _ h9 => h9) rfl dX6_removeAt_40 ?_
    refine lv_iconst (v := (1 : Int32)) hx hb dX6_removeAt_43 (by decide) ?_
    refine lv_isub hx hb dX6_removeAt_44 ?_
    refine va_put (D := G.1) (ci := 6) (v := .int (v_size - (1 : Int32))) (ty := .int) (C := RX6) (T := TX6) (N := 3) hx hb hts inX6 tyX6 tyX6_ok nmX6 hown hK hP hD hS 0 rfl rfl 2 (by decide) lk15 (fun _ h9 => h9) rfl (by decide +kernel) rfl rfl (Nat.le_of_ble_eq_true rfl) dX6_removeAt_45 (fun H locs hP hD hS => ?_)
    have hP : va_P G.1 vwCl [(a_this, .inr (6, [.int v_most, .ref a_this_parts, .int (v_size - (1 : Int32))])), (a_this_parts, .inl (G.2.1, 50, .inl y8))] H := hP
    have hD : va_D A [(a_this, .inr (6, [.int v_most, .ref a_this_parts, .int (v_size - (1 : Int32))])), (a_this_parts, .inl (G.2.1, 50, .inl y8))] := hD
    obtain ⟨hr0, hr1⟩ := so2 hf
    subst hr0
    subst hr1
    rw [← hQ]
    exact W.vret hx hb hr (fun t ht hW => ⟨⟨rfl, by rw [ht]; exact hP⟩, hS.F ht⟩) hS.2.2 dX6_removeAt_48
  · have hf := if_t hf hc6
    obtain ⟨hr0, hr1⟩ := so2 hf
    subst hr0
    subst hr1
    rw [← hQ]
    exact W.vret hx hb hr (fun t ht hW => ⟨⟨rfl, by rw [ht]; exact hP⟩, hS.F ht⟩) hS.2.2 dX6_removeAt_8
def f_X6_become  (v_size : Int32) (v_p1_size : Int32) (v_parts : (Nat → Int32)) (v_p1_parts : (Nat → Int32))  : Option (Int32 × (Nat → Int32)) := gd (cpB (0 : Int32) (0 : Int32) (50 : Int32) 50 50) (nm (va_cpy v_p1_parts v_parts ((0 : Int32)).toNatClampNeg ((0 : Int32)).toNatClampNeg ((50 : Int32)).toNatClampNeg) fun y4 => some (v_p1_size, y4))
abbrev rm_X6_become : Room := { frames := 1, cells := 0, slots := 0, locals := 32 }
set_option maxHeartbeats 4000000 in
set_option maxRecDepth 100000 in
theorem c_X6_become (l : Launch) (G : zG) (sz : Nat) (a_this : Nat) (a_p1 : Nat) (a_this_parts : Nat) (a_p1_parts : Nat) (v_most : Int32) (v_size : Int32) (v_p1_most : Int32) (v_p1_size : Int32) (v_parts : (Nat → Int32)) (v_p1_parts : (Nat → Int32)) (R1 : Int32) (R2 : (Nat → Int32)) (hf : f_X6_become v_size v_p1_size v_parts v_p1_parts = some (R1, R2)) : Met l yX6_become wsX6_become rm_X6_become (va_Pc [.ref a_this, .ref a_p1] (zB G [(a_this, .inr (6, [.int v_most, .ref a_this_parts, .int v_size])), (a_p1, .inr (6, [.int v_p1_most, .ref a_p1_parts, .int v_p1_size])), (a_this_parts, .inl (G.2.1, 50, .inl v_parts)), (a_p1_parts, .inl (G.2.1, 50, .inl v_p1_parts))] sz)) (zQ G none [(a_this, .inr (6, [.int v_most, .ref a_this_parts, .int R1])), (a_p1, .inr (6, [.int v_p1_most, .ref a_p1_parts, .int v_p1_size])), (a_this_parts, .inl (G.2.1, 50, .inl R2)), (a_p1_parts, .inl (G.2.1, 50, .inl v_p1_parts))] (va_A [(a_this, .inr (6, [.int v_most, .ref a_this_parts, .int v_size])), (a_p1, .inr (6, [.int v_p1_most, .ref a_p1_parts, .int v_p1_size])), (a_this_parts, .inl (G.2.1, 50, .inl v_parts)), (a_p1_parts, .inl (G.2.1, 50, .inl v_p1_parts))] sz)) 0 0 (va_A [(a_this, .inr (6, [.int v_most, .ref a_this_parts, .int v_size])), (a_p1, .inr (6, [.int v_p1_most, .ref a_p1_parts, .int v_p1_size])), (a_this_parts, .inl (G.2.1, 50, .inl v_parts)), (a_p1_parts, .inl (G.2.1, 50, .inl v_p1_parts))] sz) := by
  refine Met.ofW (cc := cX6_become) (maxL := 2) (ret := none) (by decide) rfl ?_
  intro p e s m args below meth c s₁ B hml hv
  obtain ⟨hargs, hsz, hP, hD0, hE⟩ := hv
  have hx := B.exec
  have hb := B.bytes
  have hr := B.returns
  have hts := atoms_spec (ws := wsX6_become) B.pre
  have hown : s.vm.findClass RX6 = some m.cls := findClass_of_methodNamed B.named
  have hlocks := B.notSynchronized
  have hK := hE.1
  have hC : CallFix p m c cX6_become 2 s args wsX6_become RX6 := ⟨hx, hb, hml, hown, hts⟩
  have inX6 : ∀ w ∈ wsX60, w ∈ wsX6_become := by decide +kernel
  have lk11 := hts (.fieldLink RX6 11 "SkyLeases$Terms" "parts" "[I") (by decide +kernel)
  have lk15 := hts (.fieldLink RX6 15 "SkyLeases$Terms" "size" "I") (by decide +kernel)
  subst hsz
  have hD := hD0.self (sz := s.heap.size)
  generalize hAe : va_A [(a_this, .inr (6, [.int v_most, .ref a_this_parts, .int v_size])), (a_p1, .inr (6, [.int v_p1_most, .ref a_p1_parts, .int v_p1_size])), (a_this_parts, .inl (G.2.1, 50, .inl v_parts)), (a_p1_parts, .inl (G.2.1, 50, .inl v_p1_parts))] s.heap.size = A at hD ⊢
  have hA : ∀ q : Nat, s.heap.size ≤ q → A q := fun q h => by rw [← hAe]; exact Or.inr h
  have hS : va_S A s.heap s.heap [] := va_S.rf
  have hP : va_P G.1 vwCl [(a_this, .inr (6, [.int v_most, .ref a_this_parts, .int v_size])), (a_p1, .inr (6, [.int v_p1_most, .ref a_p1_parts, .int v_p1_size])), (a_this_parts, .inl (G.2.1, 50, .inl v_parts)), (a_p1_parts, .inl (G.2.1, 50, .inl v_p1_parts))] s.heap := hP
  have hl := lv_entry ([.ref a_this, .ref a_p1]) (n := 2) (Nat.le_of_ble_eq_true rfl)
  have hent : entryFrame m args 2 = F0 m 0 ((lg_sl ([.ref a_this, .ref a_p1]) ++ List.replicate (2 - (lg_sl ([.ref a_this, .ref a_p1])).length) Slot.unset).toArray) [] := by rw [hargs]; exact lg_entry_eq m [.ref a_this, .ref a_p1] 2
  refine W.eq hent ?_
  clear hent
  generalize (lg_sl ([.ref a_this, .ref a_p1]) ++ List.replicate (2 - (lg_sl ([.ref a_this, .ref a_p1])).length) Slot.unset).toArray = ls at hl ⊢
  have hl : lv_has ls 2 [(0, .ref a_this), (1, .ref a_p1)] := hl
  generalize hQ : MQ below _ args s 0 0 _ = QQ
  change W p l e rm_X6_become s m args below meth c s.heap [] 0 0 QQ _
  have hSH := hS
  unfold f_X6_become at hf
  refine lv_aload_n hx hb dX6_become_0 rfl (lv_at hl 1 rfl) ?_
  refine va_get (D := G.1) (ci := 6) (v := .ref a_p1_parts) (C := RX6) (T := TX6) (N := 3) hx hb hts inX6 hown hK hP 1 rfl rfl 1 (by decide) lk11 (fun _ h9 => h9) rfl dX6_become_1 ?_
  refine lv_iconst (v := (0 : Int32)) hx hb dX6_become_4 (by decide) ?_
  refine lv_aload_n hx hb dX6_become_5 rfl (lv_at hl 0 rfl) ?_
  refine va_get (D := G.1) (ci := 6) (v := .ref a_this_parts) (C := RX6) (T := TX6) (N := 3) hx hb hts inX6 hown hK hP 0 rfl rfl 1 (by decide) lk11 (fun _ h9 => h9) rfl dX6_become_6 ?_
  refine lv_iconst (v := (0 : Int32)) hx hb dX6_become_9 (by decide) ?_
  refine lv_aload_n hx hb dX6_become_10 rfl (lv_at hl 0 rfl) ?_
  refine va_get (D := G.1) (ci := 6) (v := .ref a_this_parts) (C := RX6) (T := TX6) (N := 3) hx hb hts inX6 hown hK hP 0 rfl rfl 1 (by decide) lk11 (fun _ h9 => h9) rfl dX6_become_11 ?_
  refine va_alen hx hb hK hP 2 0 rfl rfl (v := (50 : Int32)) rfl dX6_become_14 ?_
  obtain ⟨hg3, hf⟩ := gd_some hf
  refine z_copyi hx hb (by rw [hml]; exact hl.1.symm) hown (hts (.methodLink RX6 40 arraycopyName) (by decide +kernel)) (hts (.native arraycopyName) (by decide +kernel)) (hts (.static arraycopyName) (by decide +kernel)) (hts (.initialized "java/lang/System") (by decide +kernel)) hK hP hD hS 3 2 rfl rfl hg3 (Nat.le_of_ble_eq_true rfl) (Nat.le_of_ble_eq_true rfl) dX6_become_15 (fun gg => [(a_this, .inr (6, [.int v_most, .ref a_this_parts, .int v_size])), (a_p1, .inr (6, [.int v_p1_most, .ref a_p1_parts, .int v_p1_size])), (a_this_parts, .inl (G.2.1, 50, .inl gg)), (a_p1_parts, .inl (G.2.1, 50, .inl v_p1_parts))]) (fun gg => rfl) (fun y4 H locs ey4 hP hD hS => ?_)
  have hf := nm_to hf ey4
  have hP : va_P G.1 vwCl [(a_this, .inr (6, [.int v_most, .ref a_this_parts, .int v_size])), (a_p1, .inr (6, [.int v_p1_most, .ref a_p1_parts, .int v_p1_size])), (a_this_parts, .inl (G.2.1, 50, .inl y4)), (a_p1_parts, .inl (G.2.1, 50, .inl v_p1_parts))] H := hP
  have hD : va_D A [(a_this, .inr (6, [.int v_most, .ref a_this_parts, .int v_size])), (a_p1, .inr (6, [.int v_p1_most, .ref a_p1_parts, .int v_p1_size])), (a_this_parts, .inl (G.2.1, 50, .inl y4)), (a_p1_parts, .inl (G.2.1, 50, .inl v_p1_parts))] := hD
  refine lv_aload_n hx hb dX6_become_18 rfl (lv_at hl 0 rfl) ?_
  refine lv_aload_n hx hb dX6_become_19 rfl (lv_at hl 1 rfl) ?_
  refine va_get (D := G.1) (ci := 6) (v := .int v_p1_size) (C := RX6) (T := TX6) (N := 3) hx hb hts inX6 hown hK hP 1 rfl rfl 2 (by decide) lk15 (fun _ h9 => h9) rfl dX6_become_20 ?_
  refine va_put (D := G.1) (ci := 6) (v := .int v_p1_size) (ty := .int) (C := RX6) (T := TX6) (N := 3) hx hb hts inX6 tyX6 tyX6_ok nmX6 hown hK hP hD hS 0 rfl rfl 2 (by decide) lk15 (fun _ h9 => h9) rfl (by decide +kernel) rfl rfl (Nat.le_of_ble_eq_true rfl) dX6_become_23 (fun H locs hP hD hS => ?_)
  have hP : va_P G.1 vwCl [(a_this, .inr (6, [.int v_most, .ref a_this_parts, .int v_p1_size])), (a_p1, .inr (6, [.int v_p1_most, .ref a_p1_parts, .int v_p1_size])), (a_this_parts, .inl (G.2.1, 50, .inl y4)), (a_p1_parts, .inl (G.2.1, 50, .inl v_p1_parts))] H := hP
  have hD : va_D A [(a_this, .inr (6, [.int v_most, .ref a_this_parts, .int v_p1_size])), (a_p1, .inr (6, [.int v_p1_most, .ref a_p1_parts, .int v_p1_size])), (a_this_parts, .inl (G.2.1, 50, .inl y4)), (a_p1_parts, .inl (G.2.1, 50, .inl v_p1_parts))] := hD
  obtain ⟨hr0, hr1⟩ := so2 hf
  subst hr0
  subst hr1
  rw [← hQ]
  exact W.vret hx hb hr (fun t ht hW => ⟨⟨rfl, by rw [ht]; exact hP⟩, hS.F ht⟩) hS.2.2 dX6_become_26
def f_X6_holds  (v_size : Int32) (v_parts : (Nat → Int32)) (g1 : Int32) (g2 : Int32) : Option (Int32) := bd1 (f_X6_has (v_size) (g1)) fun r7 => if r7 = (0 : Int32) then (some ((0 : Int32))) else (gd (inB ((g1 * (5 : Int32)) + (3 : Int32)) 50) (gd (inB ((g1 * (5 : Int32)) + (4 : Int32)) 50) (bd1 (f_X8_isWithin (g2) ((v_parts (((g1 * (5 : Int32)) + (3 : Int32))).toNatClampNeg)) ((v_parts (((g1 * (5 : Int32)) + (4 : Int32))).toNatClampNeg))) fun r11 => if r11 = (0 : Int32) then (some ((0 : Int32))) else (some ((1 : Int32))))))
abbrev rm_X6_holds : Room := { frames := 1, cells := 0, slots := 0, locals := 22 }
set_option maxHeartbeats 4000000 in
set_option maxRecDepth 100000 in
theorem c_X6_holds (l : Launch) (G : zG) (a_this : Nat) (a_this_parts : Nat) (v_most : Int32) (v_size : Int32) (v_parts : (Nat → Int32)) (g1 : Int32) (g2 : Int32) (R0 : Int32) (hf : f_X6_holds v_size v_parts g1 g2 = some R0) : Met l yX6_holds wsX6_holds rm_X6_holds (va_Pc [.ref a_this, .int g1, .int g2] (zR G [(a_this, .inr (6, [.int v_most, .ref a_this_parts, .int v_size])), (a_this_parts, .inl (G.2.1, 50, .inl v_parts))])) (zSv (some (.int R0))) 0 0 (fun _ => False) := by
  refine Met.ofW (cc := cX6_holds) (maxL := 3) (ret := (some .boolean)) (by decide) rfl ?_
  intro p e s m args below meth c s₁ B hml hv
  obtain ⟨hargs, hP, hE⟩ := hv
  have hx := B.exec
  have hb := B.bytes
  have hr := B.returns
  have hts := atoms_spec (ws := wsX6_holds) B.pre
  have hown : s.vm.findClass RX6 = some m.cls := findClass_of_methodNamed B.named
  have hlocks := B.notSynchronized
  have hK := hE.1
  have hC : CallFix p m c cX6_holds 3 s args wsX6_holds RX6 := ⟨hx, hb, hml, hown, hts⟩
  have inX6 : ∀ w ∈ wsX60, w ∈ wsX6_holds := by decide +kernel
  have lk11 := hts (.fieldLink RX6 11 "SkyLeases$Terms" "parts" "[I") (by decide +kernel)
  have hl := lv_entry ([.ref a_this, .int g1, .int g2]) (n := 3) (Nat.le_of_ble_eq_true rfl)
  have hent : entryFrame m args 3 = F0 m 0 ((lg_sl ([.ref a_this, .int g1, .int g2]) ++ List.replicate (3 - (lg_sl ([.ref a_this, .int g1, .int g2])).length) Slot.unset).toArray) [] := by rw [hargs]; exact lg_entry_eq m [.ref a_this, .int g1, .int g2] 3
  refine W.eq hent ?_
  clear hent
  generalize (lg_sl ([.ref a_this, .int g1, .int g2]) ++ List.replicate (3 - (lg_sl ([.ref a_this, .int g1, .int g2])).length) Slot.unset).toArray = ls at hl ⊢
  have hl : lv_has ls 3 [(0, .ref a_this), (1, .int g1), (2, .int g2)] := hl
  generalize hQ : MQ below _ args s 0 0 _ = QQ
  change W p l e rm_X6_holds s m args below meth c s.heap [] 0 0 QQ _
  unfold f_X6_holds at hf
  refine lv_aload_n hx hb dX6_holds_0 rfl (lv_at hl 0 rfl) ?_
  refine lv_iload_n hx hb dX6_holds_1 rfl (lv_at hl 1 rfl) ?_
  obtain ⟨r7, hu, hf⟩ := bd1_some hf
  refine zRi (va_runV (As := [.int g1]) (rest := []) hC (c_X6_has l G a_this a_this_parts (v_most) (v_size) (g1) r7 hu) (cwV 1 hts gX6_holds_X6_has rfl rfl rfl hd_X6_has ⟨(Nat.le_of_ble_eq_true rfl), (Nat.le_of_ble_eq_true rfl)⟩) (zPV hE hP [0] rfl 0 rfl rfl) rfl rfl hl.1 rfl (lv_room (Nat.le_of_ble_eq_true rfl)) dX6_holds_2 ⟨Nat.zero_le _, Nat.zero_le _⟩) ?_
  refine lv_if_eq (tgt := 39) hx hb dX6_holds_5 (by decide) (fun hc8 => ?_) (fun hc8 => ?_)
  · have hf := if_t hf hc8
    refine lv_iconst (v := (0 : Int32)) hx hb dX6_holds_39 (by decide) ?_
    have hr0 := so1 hf
    subst hr0
    rw [← hQ]
    exact W.zret (v := (0 : Int32)) hx hb hr rfl (fun t ht hW => ⟨rfl, ht⟩) (fun _ h => by cases h) dX6_holds_40
  · have hf := if_f hf hc8
    refine lv_iload_n hx hb dX6_holds_8 rfl (lv_at hl 2 rfl) ?_
    refine lv_aload_n hx hb dX6_holds_9 rfl (lv_at hl 0 rfl) ?_
    refine va_get (D := G.1) (ci := 6) (v := .ref a_this_parts) (C := RX6) (T := TX6) (N := 3) hx hb hts inX6 hown hK hP 0 rfl rfl 1 (by decide) lk11 (fun _ h9 => h9) rfl dX6_holds_10 ?_
    refine lv_iload_n hx hb dX6_holds_13 rfl (lv_at hl 1 rfl) ?_
    refine lv_iconst (v := (5 : Int32)) hx hb dX6_holds_14 (by decide) ?_
    refine lv_imul hx hb dX6_holds_15 ?_
    refine lv_iconst (v := (3 : Int32)) hx hb dX6_holds_16 (by decide) ?_
    refine lv_iadd hx hb dX6_holds_17 ?_
    obtain ⟨hg9, hf⟩ := gd_some hf
    refine va_iald hx hb hK hP 1 0 rfl rfl (inB_in hg9) dX6_holds_18 ?_
    refine lv_aload_n hx hb dX6_holds_19 rfl (lv_at hl 0 rfl) ?_
    refine va_get (D := G.1) (ci := 6) (v := .ref a_this_parts) (C := RX6) (T := TX6) (N := 3) hx hb hts inX6 hown hK hP 0 rfl rfl 1 (by decide) lk11 (fun _ h9 => h9) rfl dX6_holds_20 ?_
    refine lv_iload_n hx hb dX6_holds_23 rfl (lv_at hl 1 rfl) ?_
    refine lv_iconst (v := (5 : Int32)) hx hb dX6_holds_24 (by decide) ?_
    refine lv_imul hx hb dX6_holds_25 ?_
    refine lv_iconst (v := (4 : Int32)) hx hb dX6_holds_26 (by decide) ?_
    refine lv_iadd hx hb dX6_holds_27 ?_
    obtain ⟨hg10, hf⟩ := gd_some hf
    refine va_iald hx hb hK hP 1 0 rfl rfl (inB_in hg10) dX6_holds_28 ?_
    obtain ⟨r11, hu, hf⟩ := bd1_some hf
    refine zRi (va_runSN (As := [.int g2, .int (v_parts (((g1 * (5 : Int32)) + (3 : Int32))).toNatClampNeg), .int (v_parts (((g1 * (5 : Int32)) + (4 : Int32))).toNatClampNeg)]) (rest := []) hC (c_X8_isWithin l G (g2) ((v_parts (((g1 * (5 : Int32)) + (3 : Int32))).toNatClampNeg)) ((v_parts (((g1 * (5 : Int32)) + (4 : Int32))).toNatClampNeg)) r11 hu) ⟨va_cnB 3 hts gX6_holds_X8_isWithin_n32 rfl rfl rfl (hE.2 (RX6, 32, yX8_isWithin, RX8) (List.mem_of_getElem? (i := 8) rfl)) (hts (.initialized RX8) (by decide +kernel)) hd_X8_isWithin.2 ⟨(Nat.le_of_ble_eq_true rfl), (Nat.le_of_ble_eq_true rfl)⟩, hts (.static yX8_isWithin) (by decide +kernel), trivial⟩ (zPS hE hP [] rfl) rfl rfl hl.1 rfl (lv_room (Nat.le_of_ble_eq_true rfl)) dX6_holds_29 ⟨Nat.zero_le _, Nat.zero_le _⟩) ?_
    refine lv_if_eq (tgt := 39) hx hb dX6_holds_32 (by decide) (fun hc12 => ?_) (fun hc12 => ?_)
    · have hf := if_t hf hc12
      refine lv_iconst (v := (0 : Int32)) hx hb dX6_holds_39 (by decide) ?_
      have hr0 := so1 hf
      subst hr0
      rw [← hQ]
      exact W.zret (v := (0 : Int32)) hx hb hr rfl (fun t ht hW => ⟨rfl, ht⟩) (fun _ h => by cases h) dX6_holds_40
    · have hf := if_f hf hc12
      refine lv_iconst (v := (1 : Int32)) hx hb dX6_holds_35 (by decide) ?_
      refine lv_goto (tgt := 40) hx hb dX6_holds_36 (by decide) ?_
      have hr0 := so1 hf
      subst hr0
      rw [← hQ]
      exact W.zret (v := (1 : Int32)) hx hb hr rfl (fun t ht hW => ⟨rfl, ht⟩) (fun _ h => by cases h) dX6_holds_40
def f_X6_hasSquare_b35 (v_parts : (Nat → Int32))   (x1 : Int32) (x4 : Int32) : Option (Int32) := gd (inB ((x1 * (5 : Int32)) + (2 : Int32)) 50) (if (v_parts (((x1 * (5 : Int32)) + (2 : Int32))).toNatClampNeg) ≤ x4 then (some ((0 : Int32))) else (some ((1 : Int32))))
def f_X6_hasSquare  (v_size : Int32) (v_parts : (Nat → Int32)) (g1 : Int32) (g2 : Int32) (g3 : Int32) : Option (Int32) := bd1 (f_X6_has (v_size) (g1)) fun r10 => if r10 = (0 : Int32) then (some ((0 : Int32))) else (gd (inB ((g1 * (5 : Int32)) + (1 : Int32)) 50) (nm ((g2 - (v_parts (((g1 * (5 : Int32)) + (1 : Int32))).toNatClampNeg))) fun y13 => if (0 : Int32) ≤ y13 then (f_X6_hasSquare_b35 v_parts (g1) (y13)) else (f_X6_hasSquare_b35 v_parts (g1) ((y13 + g3)))))
abbrev rm_X6_hasSquare : Room := { frames := 1, cells := 0, slots := 0, locals := 21 }
set_option maxHeartbeats 4000000 in
set_option maxRecDepth 100000 in
theorem c_X6_hasSquare (l : Launch) (G : zG) (a_this : Nat) (a_this_parts : Nat) (v_most : Int32) (v_size : Int32) (v_parts : (Nat → Int32)) (g1 : Int32) (g2 : Int32) (g3 : Int32) (R0 : Int32) (hf : f_X6_hasSquare v_size v_parts g1 g2 g3 = some R0) : Met l yX6_hasSquare wsX6_hasSquare rm_X6_hasSquare (va_Pc [.ref a_this, .int g1, .int g2, .int g3] (zR G [(a_this, .inr (6, [.int v_most, .ref a_this_parts, .int v_size])), (a_this_parts, .inl (G.2.1, 50, .inl v_parts))])) (zSv (some (.int R0))) 0 0 (fun _ => False) := by
  refine Met.ofW (cc := cX6_hasSquare) (maxL := 5) (ret := (some .boolean)) (by decide) rfl ?_
  intro p e s m args below meth c s₁ B hml hv
  obtain ⟨hargs, hP, hE⟩ := hv
  have hx := B.exec
  have hb := B.bytes
  have hr := B.returns
  have hts := atoms_spec (ws := wsX6_hasSquare) B.pre
  have hown : s.vm.findClass RX6 = some m.cls := findClass_of_methodNamed B.named
  have hlocks := B.notSynchronized
  have hK := hE.1
  have hC : CallFix p m c cX6_hasSquare 5 s args wsX6_hasSquare RX6 := ⟨hx, hb, hml, hown, hts⟩
  have inX6 : ∀ w ∈ wsX60, w ∈ wsX6_hasSquare := by decide +kernel
  have lk11 := hts (.fieldLink RX6 11 "SkyLeases$Terms" "parts" "[I") (by decide +kernel)
  have hl := lv_entry ([.ref a_this, .int g1, .int g2, .int g3]) (n := 5) (Nat.le_of_ble_eq_true rfl)
  have hent : entryFrame m args 5 = F0 m 0 ((lg_sl ([.ref a_this, .int g1, .int g2, .int g3]) ++ List.replicate (5 - (lg_sl ([.ref a_this, .int g1, .int g2, .int g3])).length) Slot.unset).toArray) [] := by rw [hargs]; exact lg_entry_eq m [.ref a_this, .int g1, .int g2, .int g3] 5
  refine W.eq hent ?_
  clear hent
  generalize (lg_sl ([.ref a_this, .int g1, .int g2, .int g3]) ++ List.replicate (5 - (lg_sl ([.ref a_this, .int g1, .int g2, .int g3])).length) Slot.unset).toArray = ls at hl ⊢
  have hl : lv_has ls 5 [(0, .ref a_this), (1, .int g1), (2, .int g2), (3, .int g3)] := hl
  generalize hQ : MQ below _ args s 0 0 _ = QQ
  change W p l e rm_X6_hasSquare s m args below meth c s.heap [] 0 0 QQ _
  have j35 : ∀ (x1 : Int32), ∀ (x4 : Int32), ∀ (ls : Array Slot), lv_has ls 5 [(0, .ref a_this), (1, .int x1), (4, .int x4)] → f_X6_hasSquare_b35 v_parts x1 x4 = some R0 → W p l e rm_X6_hasSquare s m args below meth c s.heap [] 0 0 QQ (F0 m 35 ls []) := by
    intro x1 x4 ls hl hf
    unfold f_X6_hasSquare_b35 at hf
    refine lv_iload hx hb dX6_hasSquare_35 (lv_at hl 2 rfl) ?_
    refine lv_aload_n hx hb dX6_hasSquare_37 rfl (lv_at hl 0 rfl) ?_
    refine va_get (D := G.1) (ci := 6) (v := .ref a_this_parts) (C := RX6) (T := TX6) (N := 3) hx hb hts inX6 hown hK hP 0 rfl rfl 1 (by decide) lk11 (fun _ h9 => h9) rfl dX6_hasSquare_38 ?_
    refine lv_iload_n hx hb dX6_hasSquare_41 rfl (lv_at hl 1 rfl) ?_
    refine lv_iconst (v := (5 : Int32)) hx hb dX6_hasSquare_42 (by decide) ?_
    refine lv_imul hx hb dX6_hasSquare_43 ?_
    refine lv_iconst (v := (2 : Int32)) hx hb dX6_hasSquare_44 (by decide) ?_
    refine lv_iadd hx hb dX6_hasSquare_45 ?_
    obtain ⟨hg8, hf⟩ := gd_some hf
    refine va_iald hx hb hK hP 1 0 rfl rfl (inB_in hg8) dX6_hasSquare_46 ?_
    refine lv_icmp_ge (tgt := 54) hx hb dX6_hasSquare_47 (by decide) (fun hc9 => ?_) (fun hc9 => ?_)
    · have hf := if_t hf hc9
      refine lv_iconst (v := (0 : Int32)) hx hb dX6_hasSquare_54 (by decide) ?_
      have hr0 := so1 hf
      subst hr0
      rw [← hQ]
      exact W.zret (v := (0 : Int32)) hx hb hr rfl (fun t ht hW => ⟨rfl, ht⟩) (fun _ h => by cases h) dX6_hasSquare_55
    · have hf := if_f hf hc9
      refine lv_iconst (v := (1 : Int32)) hx hb dX6_hasSquare_50 (by decide) ?_
      refine lv_goto (tgt := 55) hx hb dX6_hasSquare_51 (by decide) ?_
      have hr0 := so1 hf
      subst hr0
      rw [← hQ]
      exact W.zret (v := (1 : Int32)) hx hb hr rfl (fun t ht hW => ⟨rfl, ht⟩) (fun _ h => by cases h) dX6_hasSquare_55
  unfold f_X6_hasSquare at hf
  refine lv_aload_n hx hb dX6_hasSquare_0 rfl (lv_at hl 0 rfl) ?_
  refine lv_iload_n hx hb dX6_hasSquare_1 rfl (lv_at hl 1 rfl) ?_
  obtain ⟨r10, hu, hf⟩ := bd1_some hf
  refine zRi (va_runV (As := [.int g1]) (rest := []) hC (c_X6_has l G a_this a_this_parts (v_most) (v_size) (g1) r10 hu) (cwV 1 hts gX6_hasSquare_X6_has rfl rfl rfl hd_X6_has ⟨(Nat.le_of_ble_eq_true rfl), (Nat.le_of_ble_eq_true rfl)⟩) (zPV hE hP [0] rfl 0 rfl rfl) rfl rfl hl.1 rfl (lv_room (Nat.le_of_ble_eq_true rfl)) dX6_hasSquare_2 ⟨Nat.zero_le _, Nat.zero_le _⟩) ?_
  refine lv_if_ne (tgt := 10) hx hb dX6_hasSquare_5 (by decide) (fun hc11 => ?_) (fun hc11 => ?_)
  · have hf := if_f hf hc11
    refine lv_iload_n hx hb dX6_hasSquare_10 rfl (lv_at hl 2 rfl) ?_
    refine lv_aload_n hx hb dX6_hasSquare_11 rfl (lv_at hl 0 rfl) ?_
    refine va_get (D := G.1) (ci := 6) (v := .ref a_this_parts) (C := RX6) (T := TX6) (N := 3) hx hb hts inX6 hown hK hP 0 rfl rfl 1 (by decide) lk11 (fun _ h9 => h9) rfl dX6_hasSquare_12 ?_
    refine lv_iload_n hx hb dX6_hasSquare_15 rfl (lv_at hl 1 rfl) ?_
    refine lv_iconst (v := (5 : Int32)) hx hb dX6_hasSquare_16 (by decide) ?_
    refine lv_imul hx hb dX6_hasSquare_17 ?_
    refine lv_iconst (v := (1 : Int32)) hx hb dX6_hasSquare_18 (by decide) ?_
    refine lv_iadd hx hb dX6_hasSquare_19 ?_
    obtain ⟨hg12, hf⟩ := gd_some hf
    refine va_iald hx hb hK hP 1 0 rfl rfl (inB_in hg12) dX6_hasSquare_20 ?_
    refine lv_isub hx hb dX6_hasSquare_21 ?_
    refine lv_topi (fun y13 ey13 => ?_)
    have hf := nm_to hf ey13
    refine lv_istore (lv' := [(4, .int y13), (0, .ref a_this), (1, .int g1), (2, .int g2), (3, .int g3)]) hx hb dX6_hasSquare_22 hl (by decide) rfl (fun ls hl => ?_)
    refine lv_iload hx hb dX6_hasSquare_24 (lv_at hl 0 rfl) ?_
    refine lv_if_ge (tgt := 35) hx hb dX6_hasSquare_26 (by decide) (fun hc14 => ?_) (fun hc14 => ?_)
    · have hf := if_t hf hc14
      exact j35 (g1) (y13) ls (lv_sub hl [1, 2, 0] rfl) hf
    · have hf := if_f hf hc14
      refine lv_iload hx hb dX6_hasSquare_29 (lv_at hl 0 rfl) ?_
      refine lv_iload_n hx hb dX6_hasSquare_31 rfl (lv_at hl 4 rfl) ?_
      refine lv_iadd hx hb dX6_hasSquare_32 ?_
      refine lv_istore (lv' := [(4, .int (y13 + g3)), (0, .ref a_this), (1, .int g1), (2, .int g2), (3, .int g3)]) hx hb dX6_hasSquare_33 hl (by decide) rfl (fun ls hl => ?_)
      exact j35 (g1) ((y13 + g3)) ls (lv_sub hl [1, 2, 0] rfl) hf
  · have hf := if_t hf hc11
    refine lv_iconst (v := (0 : Int32)) hx hb dX6_hasSquare_8 (by decide) ?_
    have hr0 := so1 hf
    subst hr0
    rw [← hQ]
    exact W.zret (v := (0 : Int32)) hx hb hr rfl (fun t ht hW => ⟨rfl, ht⟩) (fun _ h => by cases h) dX6_hasSquare_9
theorem hd_X6_hasSquare : yX6_hasSquare.cls = RX6 ∧ yX6_hasSquare.cls ≠ "java/lang/invoke/MethodHandle" ∧ yX6_hasSquare.cls ≠ "java/lang/invoke/VarHandle" ∧ (parseMethodDescriptor yX6_hasSquare.desc).map (fun d => d.parameters.length) = some 3 := by decide +kernel
theorem hd_X6_holds : yX6_holds.cls = RX6 ∧ yX6_holds.cls ≠ "java/lang/invoke/MethodHandle" ∧ yX6_holds.cls ≠ "java/lang/invoke/VarHandle" ∧ (parseMethodDescriptor yX6_holds.desc).map (fun d => d.parameters.length) = some 2 := by decide +kernel
def f_X6_covers  (v_size : Int32) (v_parts : (Nat → Int32)) (g1 : Int32) (g2 : Int32) (g3 : Int32) (g4 : Int32) : Option (Int32) := bd1 (f_X6_holds (v_size) (v_parts) (g1) (g3)) fun r5 => if r5 = (0 : Int32) then (some ((0 : Int32))) else (bd1 (f_X6_hasSquare (v_size) (v_parts) (g1) (g2) (g4)) fun r7 => if r7 = (0 : Int32) then (some ((0 : Int32))) else (some ((1 : Int32))))
abbrev rm_X6_covers : Room := { frames := 2, cells := 0, slots := 0, locals := 45 }
set_option maxHeartbeats 4000000 in
set_option maxRecDepth 100000 in
theorem c_X6_covers (l : Launch) (G : zG) (a_this : Nat) (a_this_parts : Nat) (v_most : Int32) (v_size : Int32) (v_parts : (Nat → Int32)) (g1 : Int32) (g2 : Int32) (g3 : Int32) (g4 : Int32) (R0 : Int32) (hf : f_X6_covers v_size v_parts g1 g2 g3 g4 = some R0) : Met l yX6_covers wsX6_covers rm_X6_covers (va_Pc [.ref a_this, .int g1, .int g2, .int g3, .int g4] (zR G [(a_this, .inr (6, [.int v_most, .ref a_this_parts, .int v_size])), (a_this_parts, .inl (G.2.1, 50, .inl v_parts))])) (zSv (some (.int R0))) 0 0 (fun _ => False) := by
  refine Met.ofW (cc := cX6_covers) (maxL := 5) (ret := (some .boolean)) (by decide) rfl ?_
  intro p e s m args below meth c s₁ B hml hv
  obtain ⟨hargs, hP, hE⟩ := hv
  have hx := B.exec
  have hb := B.bytes
  have hr := B.returns
  have hts := atoms_spec (ws := wsX6_covers) B.pre
  have hown : s.vm.findClass RX6 = some m.cls := findClass_of_methodNamed B.named
  have hlocks := B.notSynchronized
  have hK := hE.1
  have hC : CallFix p m c cX6_covers 5 s args wsX6_covers RX6 := ⟨hx, hb, hml, hown, hts⟩
  have hl := lv_entry ([.ref a_this, .int g1, .int g2, .int g3, .int g4]) (n := 5) (Nat.le_of_ble_eq_true rfl)
  have hent : entryFrame m args 5 = F0 m 0 ((lg_sl ([.ref a_this, .int g1, .int g2, .int g3, .int g4]) ++ List.replicate (5 - (lg_sl ([.ref a_this, .int g1, .int g2, .int g3, .int g4])).length) Slot.unset).toArray) [] := by rw [hargs]; exact lg_entry_eq m [.ref a_this, .int g1, .int g2, .int g3, .int g4] 5
  refine W.eq hent ?_
  clear hent
  generalize (lg_sl ([.ref a_this, .int g1, .int g2, .int g3, .int g4]) ++ List.replicate (5 - (lg_sl ([.ref a_this, .int g1, .int g2, .int g3, .int g4])).length) Slot.unset).toArray = ls at hl ⊢
  have hl : lv_has ls 5 [(0, .ref a_this), (1, .int g1), (2, .int g2), (3, .int g3), (4, .int g4)] := hl
  generalize hQ : MQ below _ args s 0 0 _ = QQ
  change W p l e rm_X6_covers s m args below meth c s.heap [] 0 0 QQ _
  unfold f_X6_covers at hf
  refine lv_aload_n hx hb dX6_covers_0 rfl (lv_at hl 0 rfl) ?_
  refine lv_iload_n hx hb dX6_covers_1 rfl (lv_at hl 1 rfl) ?_
  refine lv_iload_n hx hb dX6_covers_2 rfl (lv_at hl 3 rfl) ?_
  obtain ⟨r5, hu, hf⟩ := bd1_some hf
  refine zRi (va_runV (As := [.int g1, .int g3]) (rest := []) hC (c_X6_holds l G a_this a_this_parts (v_most) (v_size) (v_parts) (g1) (g3) r5 hu) (cwV 2 hts gX6_covers_X6_holds rfl rfl rfl hd_X6_holds ⟨(Nat.le_of_ble_eq_true rfl), (Nat.le_of_ble_eq_true rfl)⟩) (zPV hE hP [0, 1] rfl 0 rfl rfl) rfl rfl hl.1 rfl (lv_room (Nat.le_of_ble_eq_true rfl)) dX6_covers_3 ⟨Nat.zero_le _, Nat.zero_le _⟩) ?_
  refine lv_if_eq (tgt := 24) hx hb dX6_covers_6 (by decide) (fun hc6 => ?_) (fun hc6 => ?_)
  · have hf := if_t hf hc6
    refine lv_iconst (v := (0 : Int32)) hx hb dX6_covers_24 (by decide) ?_
    have hr0 := so1 hf
    subst hr0
    rw [← hQ]
    exact W.zret (v := (0 : Int32)) hx hb hr rfl (fun t ht hW => ⟨rfl, ht⟩) (fun _ h => by cases h) dX6_covers_25
  · have hf := if_f hf hc6
    refine lv_aload_n hx hb dX6_covers_9 rfl (lv_at hl 0 rfl) ?_
    refine lv_iload_n hx hb dX6_covers_10 rfl (lv_at hl 1 rfl) ?_
    refine lv_iload_n hx hb dX6_covers_11 rfl (lv_at hl 2 rfl) ?_
    refine lv_iload hx hb dX6_covers_12 (lv_at hl 4 rfl) ?_
    obtain ⟨r7, hu, hf⟩ := bd1_some hf
    refine zRi (va_runV (As := [.int g1, .int g2, .int g4]) (rest := []) hC (c_X6_hasSquare l G a_this a_this_parts (v_most) (v_size) (v_parts) (g1) (g2) (g4) r7 hu) (cwV 3 hts gX6_covers_X6_hasSquare rfl rfl rfl hd_X6_hasSquare ⟨(Nat.le_of_ble_eq_true rfl), (Nat.le_of_ble_eq_true rfl)⟩) (zPV hE hP [0, 1] rfl 0 rfl rfl) rfl rfl hl.1 rfl (lv_room (Nat.le_of_ble_eq_true rfl)) dX6_covers_14 ⟨Nat.zero_le _, Nat.zero_le _⟩) ?_
    refine lv_if_eq (tgt := 24) hx hb dX6_covers_17 (by decide) (fun hc8 => ?_) (fun hc8 => ?_)
    · have hf := if_t hf hc8
      refine lv_iconst (v := (0 : Int32)) hx hb dX6_covers_24 (by decide) ?_
      have hr0 := so1 hf
      subst hr0
      rw [← hQ]
      exact W.zret (v := (0 : Int32)) hx hb hr rfl (fun t ht hW => ⟨rfl, ht⟩) (fun _ h => by cases h) dX6_covers_25
    · have hf := if_f hf hc8
      refine lv_iconst (v := (1 : Int32)) hx hb dX6_covers_20 (by decide) ?_
      refine lv_goto (tgt := 25) hx hb dX6_covers_21 (by decide) ?_
      have hr0 := so1 hf
      subst hr0
      rw [← hQ]
      exact W.zret (v := (1 : Int32)) hx hb hr rfl (fun t ht hW => ⟨rfl, ht⟩) (fun _ h => by cases h) dX6_covers_25
theorem hd_X6_part : yX6_part.cls = RX6 ∧ yX6_part.cls ≠ "java/lang/invoke/MethodHandle" ∧ yX6_part.cls ≠ "java/lang/invoke/VarHandle" ∧ (parseMethodDescriptor yX6_part.desc).map (fun d => d.parameters.length) = some 2 := by decide +kernel
def f_X6_anyHolds_b31  (k2 : Int32 → Option (Int32))  (x3 : Int32) : Option (Int32) := k2 ((x3 + (1 : Int32)))
def f_X6_anyHolds_b2 (v_size : Int32) (v_parts : (Nat → Int32))  (x1 : Int32) (x2 : Int32) : Nat → Int32 → Option (Int32)
  | 0, _ => none
  | n2 + 1, x3 => if v_size ≤ x3 then (some ((0 : Int32))) else (bd1 (f_X6_part (v_size) (v_parts) (x3) ((0 : Int32))) fun r7 => if r7 = x1 then (bd1 (f_X6_holds (v_size) (v_parts) (x3) (x2)) fun r9 => if r9 = (0 : Int32) then (f_X6_anyHolds_b31 (f_X6_anyHolds_b2 v_size v_parts x1 x2 n2) (x3)) else (some ((1 : Int32)))) else (f_X6_anyHolds_b31 (f_X6_anyHolds_b2 v_size v_parts x1 x2 n2) (x3)))
def f_X6_anyHolds  (v_size : Int32) (v_parts : (Nat → Int32)) (g1 : Int32) (g2 : Int32) : Option (Int32) := f_X6_anyHolds_b2 v_size v_parts (g1) (g2) zF ((0 : Int32))
abbrev rm_X6_anyHolds : Room := { frames := 2, cells := 0, slots := 0, locals := 44 }
set_option maxHeartbeats 4000000 in
set_option maxRecDepth 100000 in
theorem c_X6_anyHolds (l : Launch) (G : zG) (a_this : Nat) (a_this_parts : Nat) (v_most : Int32) (v_size : Int32) (v_parts : (Nat → Int32)) (g1 : Int32) (g2 : Int32) (R0 : Int32) (hf : f_X6_anyHolds v_size v_parts g1 g2 = some R0) : Met l yX6_anyHolds wsX6_anyHolds rm_X6_anyHolds (va_Pc [.ref a_this, .int g1, .int g2] (zR G [(a_this, .inr (6, [.int v_most, .ref a_this_parts, .int v_size])), (a_this_parts, .inl (G.2.1, 50, .inl v_parts))])) (zSv (some (.int R0))) 0 0 (fun _ => False) := by
  refine Met.ofW (cc := cX6_anyHolds) (maxL := 4) (ret := (some .boolean)) (by decide) rfl ?_
  intro p e s m args below meth c s₁ B hml hv
  obtain ⟨hargs, hP, hE⟩ := hv
  have hx := B.exec
  have hb := B.bytes
  have hr := B.returns
  have hts := atoms_spec (ws := wsX6_anyHolds) B.pre
  have hown : s.vm.findClass RX6 = some m.cls := findClass_of_methodNamed B.named
  have hlocks := B.notSynchronized
  have hK := hE.1
  have hC : CallFix p m c cX6_anyHolds 4 s args wsX6_anyHolds RX6 := ⟨hx, hb, hml, hown, hts⟩
  have inX6 : ∀ w ∈ wsX60, w ∈ wsX6_anyHolds := by decide +kernel
  have lk15 := hts (.fieldLink RX6 15 "SkyLeases$Terms" "size" "I") (by decide +kernel)
  have hl := lv_entry ([.ref a_this, .int g1, .int g2]) (n := 4) (Nat.le_of_ble_eq_true rfl)
  have hent : entryFrame m args 4 = F0 m 0 ((lg_sl ([.ref a_this, .int g1, .int g2]) ++ List.replicate (4 - (lg_sl ([.ref a_this, .int g1, .int g2])).length) Slot.unset).toArray) [] := by rw [hargs]; exact lg_entry_eq m [.ref a_this, .int g1, .int g2] 4
  refine W.eq hent ?_
  clear hent
  generalize (lg_sl ([.ref a_this, .int g1, .int g2]) ++ List.replicate (4 - (lg_sl ([.ref a_this, .int g1, .int g2])).length) Slot.unset).toArray = ls at hl ⊢
  have hl : lv_has ls 4 [(0, .ref a_this), (1, .int g1), (2, .int g2)] := hl
  generalize hQ : MQ below _ args s 0 0 _ = QQ
  change W p l e rm_X6_anyHolds s m args below meth c s.heap [] 0 0 QQ _
  have j31 : ∀ (x1 : Int32), ∀ (x2 : Int32), ∀ (k2 : Int32 → Option (Int32)), (∀ (x3 : Int32), ∀ (ls : Array Slot), lv_has ls 4 [(0, .ref a_this), (1, .int x1), (2, .int x2), (3, .int x3)] → k2 x3 = some R0 → W p l e rm_X6_anyHolds s m args below meth c s.heap [] 0 0 QQ (F0 m 2 ls [])) → ∀ (x3 : Int32), ∀ (ls : Array Slot), lv_has ls 4 [(0, .ref a_this), (1, .int x1), (2, .int x2), (3, .int x3)] → f_X6_anyHolds_b31 k2 x3 = some R0 → W p l e rm_X6_anyHolds s m args below meth c s.heap [] 0 0 QQ (F0 m 31 ls []) := by
    intro x1 x2 k2 hk2 x3 ls hl hf
    unfold f_X6_anyHolds_b31 at hf
    refine lv_iinc (v := (x3 + (1 : Int32))) (lv' := [(3, .int (x3 + (1 : Int32))), (0, .ref a_this), (1, .int x1), (2, .int x2)]) hx hb dX6_anyHolds_31 hl (k := 3) rfl rfl (by decide) rfl (fun ls hl => ?_)
    refine lv_goto (tgt := 2) hx hb dX6_anyHolds_34 (by decide) ?_
    exact hk2 ((x3 + (1 : Int32))) ls (lv_sub hl [1, 2, 3, 0] rfl) hf
  have j2 : ∀ (x1 : Int32), ∀ (x2 : Int32), ∀ (nn : Nat), ∀ (x3 : Int32), ∀ (ls : Array Slot), lv_has ls 4 [(0, .ref a_this), (1, .int x1), (2, .int x2), (3, .int x3)] → f_X6_anyHolds_b2 v_size v_parts x1 x2 nn x3 = some R0 → W p l e rm_X6_anyHolds s m args below meth c s.heap [] 0 0 QQ (F0 m 2 ls []) := by
    intro x1 x2
    intro nn
    induction nn with
    | zero =>
      intro x3 ls hl hf
      rw [f_X6_anyHolds_b2] at hf
      cases hf
    | succ n2 ih =>
      intro x3 ls hl hf
      rw [f_X6_anyHolds_b2] at hf
      refine lv_iload_n hx hb dX6_anyHolds_2 rfl (lv_at hl 3 rfl) ?_
      refine lv_aload_n hx hb dX6_anyHolds_3 rfl (lv_at hl 0 rfl) ?_
      refine va_get (D := G.1) (ci := 6) (v := .int v_size) (C := RX6) (T := TX6) (N := 3) hx hb hts inX6 hown hK hP 0 rfl rfl 2 (by decide) lk15 (fun _ h9 => h9) rfl dX6_anyHolds_4 ?_
      refine lv_icmp_ge (tgt := 37) hx hb dX6_anyHolds_7 (by decide) (fun hc6 => ?_) (fun hc6 => ?_)
      · have hf := if_t hf hc6
        refine lv_iconst (v := (0 : Int32)) hx hb dX6_anyHolds_37 (by decide) ?_
        have hr0 := so1 hf
        subst hr0
        rw [← hQ]
        exact W.zret (v := (0 : Int32)) hx hb hr rfl (fun t ht hW => ⟨rfl, ht⟩) (fun _ h => by cases h) dX6_anyHolds_38
      · have hf := if_f hf hc6
        refine lv_aload_n hx hb dX6_anyHolds_10 rfl (lv_at hl 0 rfl) ?_
        refine lv_iload_n hx hb dX6_anyHolds_11 rfl (lv_at hl 3 rfl) ?_
        refine lv_iconst (v := (0 : Int32)) hx hb dX6_anyHolds_12 (by decide) ?_
        obtain ⟨r7, hu, hf⟩ := bd1_some hf
        refine zRi (va_runV (As := [.int x3, .int (0 : Int32)]) (rest := []) hC (c_X6_part l G a_this a_this_parts (v_most) (v_size) (v_parts) (x3) ((0 : Int32)) r7 hu) (cwV 2 hts gX6_anyHolds_X6_part rfl rfl rfl hd_X6_part ⟨(Nat.le_of_ble_eq_true rfl), (Nat.le_of_ble_eq_true rfl)⟩) (zPV hE hP [0, 1] rfl 0 rfl rfl) rfl rfl hl.1 rfl (lv_room (Nat.le_of_ble_eq_true rfl)) dX6_anyHolds_13 ⟨Nat.zero_le _, Nat.zero_le _⟩) ?_
        refine lv_iload_n hx hb dX6_anyHolds_16 rfl (lv_at hl 1 rfl) ?_
        refine lv_icmp_ne (tgt := 31) hx hb dX6_anyHolds_17 (by decide) (fun hc8 => ?_) (fun hc8 => ?_)
        · have hf := if_f hf hc8
          exact j31 (x1) (x2) (f_X6_anyHolds_b2 v_size v_parts x1 x2 n2) ih (x3) ls (lv_sub hl [0, 1, 2, 3] rfl) hf
        · have hf := if_t hf hc8
          refine lv_aload_n hx hb dX6_anyHolds_20 rfl (lv_at hl 0 rfl) ?_
          refine lv_iload_n hx hb dX6_anyHolds_21 rfl (lv_at hl 3 rfl) ?_
          refine lv_iload_n hx hb dX6_anyHolds_22 rfl (lv_at hl 2 rfl) ?_
          obtain ⟨r9, hu, hf⟩ := bd1_some hf
          refine zRi (va_runV (As := [.int x3, .int x2]) (rest := []) hC (c_X6_holds l G a_this a_this_parts (v_most) (v_size) (v_parts) (x3) (x2) r9 hu) (cwV 2 hts gX6_anyHolds_X6_holds rfl rfl rfl hd_X6_holds ⟨(Nat.le_of_ble_eq_true rfl), (Nat.le_of_ble_eq_true rfl)⟩) (zPV hE hP [0, 1] rfl 0 rfl rfl) rfl rfl hl.1 rfl (lv_room (Nat.le_of_ble_eq_true rfl)) dX6_anyHolds_23 ⟨Nat.zero_le _, Nat.zero_le _⟩) ?_
          refine lv_if_eq (tgt := 31) hx hb dX6_anyHolds_26 (by decide) (fun hc10 => ?_) (fun hc10 => ?_)
          · have hf := if_t hf hc10
            exact j31 (x1) (x2) (f_X6_anyHolds_b2 v_size v_parts x1 x2 n2) ih (x3) ls (lv_sub hl [0, 1, 2, 3] rfl) hf
          · have hf := if_f hf hc10
            refine lv_iconst (v := (1 : Int32)) hx hb dX6_anyHolds_29 (by decide) ?_
            have hr0 := so1 hf
            subst hr0
            rw [← hQ]
            exact W.zret (v := (1 : Int32)) hx hb hr rfl (fun t ht hW => ⟨rfl, ht⟩) (fun _ h => by cases h) dX6_anyHolds_30
  unfold f_X6_anyHolds at hf
  refine lv_iconst (v := (0 : Int32)) hx hb dX6_anyHolds_0 (by decide) ?_
  refine lv_istore_n (lv' := [(3, .int (0 : Int32)), (0, .ref a_this), (1, .int g1), (2, .int g2)]) hx hb dX6_anyHolds_1 rfl hl (by decide) rfl (fun ls hl => ?_)
  exact j2 (g1) (g2) zF ((0 : Int32)) ls (lv_sub hl [1, 2, 3, 0] rfl) hf
def f_X6_countOf_b25  (k4 : Int32 → Int32 → Option (Int32))  (x2 : Int32) (x3 : Int32) : Option (Int32) := k4 (x2) ((x3 + (1 : Int32)))
def f_X6_countOf_b4 (v_size : Int32) (v_parts : (Nat → Int32))  (x1 : Int32) : Nat → Int32 → Int32 → Option (Int32)
  | 0, _, _ => none
  | n4 + 1, x2, x3 => if v_size ≤ x3 then (some (x2)) else (bd1 (f_X6_part (v_size) (v_parts) (x3) ((0 : Int32))) fun r5 => if r5 = x1 then (f_X6_countOf_b25 (f_X6_countOf_b4 v_size v_parts x1 n4) ((x2 + (1 : Int32))) (x3)) else (f_X6_countOf_b25 (f_X6_countOf_b4 v_size v_parts x1 n4) (x2) (x3)))
def f_X6_countOf  (v_size : Int32) (v_parts : (Nat → Int32)) (g1 : Int32) : Option (Int32) := f_X6_countOf_b4 v_size v_parts (g1) zF ((0 : Int32)) ((0 : Int32))
abbrev rm_X6_countOf : Room := { frames := 2, cells := 0, slots := 0, locals := 44 }
set_option maxHeartbeats 4000000 in
set_option maxRecDepth 100000 in
theorem c_X6_countOf (l : Launch) (G : zG) (a_this : Nat) (a_this_parts : Nat) (v_most : Int32) (v_size : Int32) (v_parts : (Nat → Int32)) (g1 : Int32) (R0 : Int32) (hf : f_X6_countOf v_size v_parts g1 = some R0) : Met l yX6_countOf wsX6_countOf rm_X6_countOf (va_Pc [.ref a_this, .int g1] (zR G [(a_this, .inr (6, [.int v_most, .ref a_this_parts, .int v_size])), (a_this_parts, .inl (G.2.1, 50, .inl v_parts))])) (zSv (some (.int R0))) 0 0 (fun _ => False) := by
  refine Met.ofW (cc := cX6_countOf) (maxL := 4) (ret := (some .int)) (by decide) rfl ?_
  intro p e s m args below meth c s₁ B hml hv
  obtain ⟨hargs, hP, hE⟩ := hv
  have hx := B.exec
  have hb := B.bytes
  have hr := B.returns
  have hts := atoms_spec (ws := wsX6_countOf) B.pre
  have hown : s.vm.findClass RX6 = some m.cls := findClass_of_methodNamed B.named
  have hlocks := B.notSynchronized
  have hK := hE.1
  have hC : CallFix p m c cX6_countOf 4 s args wsX6_countOf RX6 := ⟨hx, hb, hml, hown, hts⟩
  have inX6 : ∀ w ∈ wsX60, w ∈ wsX6_countOf := by decide +kernel
  have lk15 := hts (.fieldLink RX6 15 "SkyLeases$Terms" "size" "I") (by decide +kernel)
  have hl := lv_entry ([.ref a_this, .int g1]) (n := 4) (Nat.le_of_ble_eq_true rfl)
  have hent : entryFrame m args 4 = F0 m 0 ((lg_sl ([.ref a_this, .int g1]) ++ List.replicate (4 - (lg_sl ([.ref a_this, .int g1])).length) Slot.unset).toArray) [] := by rw [hargs]; exact lg_entry_eq m [.ref a_this, .int g1] 4
  refine W.eq hent ?_
  clear hent
  generalize (lg_sl ([.ref a_this, .int g1]) ++ List.replicate (4 - (lg_sl ([.ref a_this, .int g1])).length) Slot.unset).toArray = ls at hl ⊢
  have hl : lv_has ls 4 [(0, .ref a_this), (1, .int g1)] := hl
  generalize hQ : MQ below _ args s 0 0 _ = QQ
  change W p l e rm_X6_countOf s m args below meth c s.heap [] 0 0 QQ _
  have j25 : ∀ (x1 : Int32), ∀ (k4 : Int32 → Int32 → Option (Int32)), (∀ (x2 : Int32), ∀ (x3 : Int32), ∀ (ls : Array Slot), lv_has ls 4 [(0, .ref a_this), (1, .int x1), (2, .int x2), (3, .int x3)] → k4 x2 x3 = some R0 → W p l e rm_X6_countOf s m args below meth c s.heap [] 0 0 QQ (F0 m 4 ls [])) → ∀ (x2 : Int32), ∀ (x3 : Int32), ∀ (ls : Array Slot), lv_has ls 4 [(0, .ref a_this), (1, .int x1), (2, .int x2), (3, .int x3)] → f_X6_countOf_b25 k4 x2 x3 = some R0 → W p l e rm_X6_countOf s m args below meth c s.heap [] 0 0 QQ (F0 m 25 ls []) := by
    intro x1 k4 hk4 x2 x3 ls hl hf
    unfold f_X6_countOf_b25 at hf
    refine lv_iinc (v := (x3 + (1 : Int32))) (lv' := [(3, .int (x3 + (1 : Int32))), (0, .ref a_this), (1, .int x1), (2, .int x2)]) hx hb dX6_countOf_25 hl (k := 3) rfl rfl (by decide) rfl (fun ls hl => ?_)
    refine lv_goto (tgt := 4) hx hb dX6_countOf_28 (by decide) ?_
    exact hk4 (x2) ((x3 + (1 : Int32))) ls (lv_sub hl [1, 2, 3, 0] rfl) hf
  have j4 : ∀ (x1 : Int32), ∀ (nn : Nat), ∀ (x2 : Int32), ∀ (x3 : Int32), ∀ (ls : Array Slot), lv_has ls 4 [(0, .ref a_this), (1, .int x1), (2, .int x2), (3, .int x3)] → f_X6_countOf_b4 v_size v_parts x1 nn x2 x3 = some R0 → W p l e rm_X6_countOf s m args below meth c s.heap [] 0 0 QQ (F0 m 4 ls []) := by
    intro x1
    intro nn
    induction nn with
    | zero =>
      intro x2 x3 ls hl hf
      rw [f_X6_countOf_b4] at hf
      cases hf
    | succ n4 ih =>
      intro x2 x3 ls hl hf
      rw [f_X6_countOf_b4] at hf
      refine lv_iload_n hx hb dX6_countOf_4 rfl (lv_at hl 3 rfl) ?_
      refine lv_aload_n hx hb dX6_countOf_5 rfl (lv_at hl 0 rfl) ?_
      refine va_get (D := G.1) (ci := 6) (v := .int v_size) (C := RX6) (T := TX6) (N := 3) hx hb hts inX6 hown hK hP 0 rfl rfl 2 (by decide) lk15 (fun _ h9 => h9) rfl dX6_countOf_6 ?_
      refine lv_icmp_ge (tgt := 31) hx hb dX6_countOf_9 (by decide) (fun hc4 => ?_) (fun hc4 => ?_)
      · have hf := if_t hf hc4
        refine lv_iload_n hx hb dX6_countOf_31 rfl (lv_at hl 2 rfl) ?_
        have hr0 := so1 hf
        subst hr0
        rw [← hQ]
        exact W.iret (v := x2) hx hb hr (fun t ht hW => ⟨rfl, ht⟩) (fun _ h => by cases h) dX6_countOf_32
      · have hf := if_f hf hc4
        refine lv_aload_n hx hb dX6_countOf_12 rfl (lv_at hl 0 rfl) ?_
        refine lv_iload_n hx hb dX6_countOf_13 rfl (lv_at hl 3 rfl) ?_
        refine lv_iconst (v := (0 : Int32)) hx hb dX6_countOf_14 (by decide) ?_
        obtain ⟨r5, hu, hf⟩ := bd1_some hf
        refine zRi (va_runV (As := [.int x3, .int (0 : Int32)]) (rest := []) hC (c_X6_part l G a_this a_this_parts (v_most) (v_size) (v_parts) (x3) ((0 : Int32)) r5 hu) (cwV 2 hts gX6_countOf_X6_part rfl rfl rfl hd_X6_part ⟨(Nat.le_of_ble_eq_true rfl), (Nat.le_of_ble_eq_true rfl)⟩) (zPV hE hP [0, 1] rfl 0 rfl rfl) rfl rfl hl.1 rfl (lv_room (Nat.le_of_ble_eq_true rfl)) dX6_countOf_15 ⟨Nat.zero_le _, Nat.zero_le _⟩) ?_
        refine lv_iload_n hx hb dX6_countOf_18 rfl (lv_at hl 1 rfl) ?_
        refine lv_icmp_ne (tgt := 25) hx hb dX6_countOf_19 (by decide) (fun hc6 => ?_) (fun hc6 => ?_)
        · have hf := if_f hf hc6
          exact j25 (x1) (f_X6_countOf_b4 v_size v_parts x1 n4) ih (x2) (x3) ls (lv_sub hl [0, 1, 2, 3] rfl) hf
        · have hf := if_t hf hc6
          refine lv_iinc (v := (x2 + (1 : Int32))) (lv' := [(2, .int (x2 + (1 : Int32))), (0, .ref a_this), (1, .int x1), (3, .int x3)]) hx hb dX6_countOf_22 hl (k := 2) rfl rfl (by decide) rfl (fun ls hl => ?_)
          exact j25 (x1) (f_X6_countOf_b4 v_size v_parts x1 n4) ih ((x2 + (1 : Int32))) (x3) ls (lv_sub hl [1, 2, 0, 3] rfl) hf
  unfold f_X6_countOf at hf
  refine lv_iconst (v := (0 : Int32)) hx hb dX6_countOf_0 (by decide) ?_
  refine lv_istore_n (lv' := [(2, .int (0 : Int32)), (0, .ref a_this), (1, .int g1)]) hx hb dX6_countOf_1 rfl hl (by decide) rfl (fun ls hl => ?_)
  refine lv_iconst (v := (0 : Int32)) hx hb dX6_countOf_2 (by decide) ?_
  refine lv_istore_n (lv' := [(3, .int (0 : Int32)), (2, .int (0 : Int32)), (0, .ref a_this), (1, .int g1)]) hx hb dX6_countOf_3 rfl hl (by decide) rfl (fun ls hl => ?_)
  exact j4 (g1) zF ((0 : Int32)) ((0 : Int32)) ls (lv_sub hl [2, 3, 1, 0] rfl) hf
