def f_X7_isDigit   (g0 : Int32) : Option (Int32) := if g0 < (48 : Int32) then (some ((0 : Int32))) else (if (57 : Int32) < g0 then (some ((0 : Int32))) else (some ((1 : Int32))))
abbrev rm_X7_isDigit : Room := { frames := 0, cells := 0, slots := 0, locals := 0 }
set_option maxHeartbeats 4000000 in
set_option maxRecDepth 100000 in
theorem c_X7_isDigit (l : Launch) (G : zG) (g0 : Int32) (R0 : Int32) (hf : f_X7_isDigit g0 = some R0) : Met l yX7_isDigit wsX7_isDigit rm_X7_isDigit (va_Pc [.int g0] (zR G [])) (zSv (some (.int R0))) 0 0 (fun _ => False) := by
  refine Met.ofW (cc := cX7_isDigit) (maxL := 1) (ret := (some .boolean)) (by decide) rfl ?_
  intro p e s m args below meth c s₁ B hml hv
  obtain ⟨hargs, hP, hE⟩ := hv
  have hx := B.exec
  have hb := B.bytes
  have hr := B.returns
  have hts := atoms_spec (ws := wsX7_isDigit) B.pre
  have hown : s.vm.findClass RX7 = some m.cls := findClass_of_methodNamed B.named
  have hlocks := B.notSynchronized
  have hK := hE.1
  have hC : CallFix p m c cX7_isDigit 1 s args wsX7_isDigit RX7 := ⟨hx, hb, hml, hown, hts⟩
  have hl := lv_entry ([.int g0]) (n := 1) (Nat.le_of_ble_eq_true rfl)
  have hent : entryFrame m args 1 = F0 m 0 ((lg_sl ([.int g0]) ++ List.replicate (1 - (lg_sl ([.int g0])).length) Slot.unset).toArray) [] := by rw [hargs]; exact lg_entry_eq m [.int g0] 1
  refine W.eq hent ?_
  clear hent
  generalize (lg_sl ([.int g0]) ++ List.replicate (1 - (lg_sl ([.int g0])).length) Slot.unset).toArray = ls at hl ⊢
  have hl : lv_has ls 1 [(0, .int g0)] := hl
  generalize hQ : MQ below _ args s 0 0 _ = QQ
  change W p l e rm_X7_isDigit s m args below meth c s.heap [] 0 0 QQ _
  unfold f_X7_isDigit at hf
  refine lv_iload_n hx hb dX7_isDigit_0 rfl (lv_at hl 0 rfl) ?_
  refine lv_bipush (v := (48 : Int32)) hx hb dX7_isDigit_1 (by decide) ?_
  refine lv_icmp_lt (tgt := 16) hx hb dX7_isDigit_3 (by decide) (fun hc3 => ?_) (fun hc3 => ?_)
  · have hf := if_t hf hc3
    refine lv_iconst (v := (0 : Int32)) hx hb dX7_isDigit_16 (by decide) ?_
    have hr0 := so1 hf
    subst hr0
    rw [← hQ]
    exact W.zret (v := (0 : Int32)) hx hb hr rfl (fun t ht hW => ⟨rfl, ht⟩) (fun _ h => by cases h) dX7_isDigit_17
  · have hf := if_f hf hc3
    refine lv_iload_n hx hb dX7_isDigit_6 rfl (lv_at hl 0 rfl) ?_
    refine lv_bipush (v := (57 : Int32)) hx hb dX7_isDigit_7 (by decide) ?_
    refine lv_icmp_gt (tgt := 16) hx hb dX7_isDigit_9 (by decide) (fun hc4 => ?_) (fun hc4 => ?_)
    · have hf := if_t hf hc4
      refine lv_iconst (v := (0 : Int32)) hx hb dX7_isDigit_16 (by decide) ?_
      have hr0 := so1 hf
      subst hr0
      rw [← hQ]
      exact W.zret (v := (0 : Int32)) hx hb hr rfl (fun t ht hW => ⟨rfl, ht⟩) (fun _ h => by cases h) dX7_isDigit_17
    · have hf := if_f hf hc4
      refine lv_iconst (v := (1 : Int32)) hx hb dX7_isDigit_12 (by decide) ?_
      refine lv_goto (tgt := 17) hx hb dX7_isDigit_13 (by decide) ?_
      have hr0 := so1 hf
      subst hr0
      rw [← hQ]
      exact W.zret (v := (1 : Int32)) hx hb hr rfl (fun t ht hW => ⟨rfl, ht⟩) (fun _ h => by cases h) dX7_isDigit_17
def f_X7_isLetter   (g0 : Int32) : Option (Int32) := if g0 < (97 : Int32) then (some ((0 : Int32))) else (if (122 : Int32) < g0 then (some ((0 : Int32))) else (some ((1 : Int32))))
abbrev rm_X7_isLetter : Room := { frames := 0, cells := 0, slots := 0, locals := 0 }
set_option maxHeartbeats 4000000 in
set_option maxRecDepth 100000 in
theorem c_X7_isLetter (l : Launch) (G : zG) (g0 : Int32) (R0 : Int32) (hf : f_X7_isLetter g0 = some R0) : Met l yX7_isLetter wsX7_isLetter rm_X7_isLetter (va_Pc [.int g0] (zR G [])) (zSv (some (.int R0))) 0 0 (fun _ => False) := by
  refine Met.ofW (cc := cX7_isLetter) (maxL := 1) (ret := (some .boolean)) (by decide) rfl ?_
  intro p e s m args below meth c s₁ B hml hv
  obtain ⟨hargs, hP, hE⟩ := hv
  have hx := B.exec
  have hb := B.bytes
  have hr := B.returns
  have hts := atoms_spec (ws := wsX7_isLetter) B.pre
  have hown : s.vm.findClass RX7 = some m.cls := findClass_of_methodNamed B.named
  have hlocks := B.notSynchronized
  have hK := hE.1
  have hC : CallFix p m c cX7_isLetter 1 s args wsX7_isLetter RX7 := ⟨hx, hb, hml, hown, hts⟩
  have hl := lv_entry ([.int g0]) (n := 1) (Nat.le_of_ble_eq_true rfl)
  have hent : entryFrame m args 1 = F0 m 0 ((lg_sl ([.int g0]) ++ List.replicate (1 - (lg_sl ([.int g0])).length) Slot.unset).toArray) [] := by rw [hargs]; exact lg_entry_eq m [.int g0] 1
  refine W.eq hent ?_
  clear hent
  generalize (lg_sl ([.int g0]) ++ List.replicate (1 - (lg_sl ([.int g0])).length) Slot.unset).toArray = ls at hl ⊢
  have hl : lv_has ls 1 [(0, .int g0)] := hl
  generalize hQ : MQ below _ args s 0 0 _ = QQ
  change W p l e rm_X7_isLetter s m args below meth c s.heap [] 0 0 QQ _
  unfold f_X7_isLetter at hf
  refine lv_iload_n hx hb dX7_isLetter_0 rfl (lv_at hl 0 rfl) ?_
  refine lv_bipush (v := (97 : Int32)) hx hb dX7_isLetter_1 (by decide) ?_
  refine lv_icmp_lt (tgt := 16) hx hb dX7_isLetter_3 (by decide) (fun hc3 => ?_) (fun hc3 => ?_)
  · have hf := if_t hf hc3
    refine lv_iconst (v := (0 : Int32)) hx hb dX7_isLetter_16 (by decide) ?_
    have hr0 := so1 hf
    subst hr0
    rw [← hQ]
    exact W.zret (v := (0 : Int32)) hx hb hr rfl (fun t ht hW => ⟨rfl, ht⟩) (fun _ h => by cases h) dX7_isLetter_17
  · have hf := if_f hf hc3
    refine lv_iload_n hx hb dX7_isLetter_6 rfl (lv_at hl 0 rfl) ?_
    refine lv_bipush (v := (122 : Int32)) hx hb dX7_isLetter_7 (by decide) ?_
    refine lv_icmp_gt (tgt := 16) hx hb dX7_isLetter_9 (by decide) (fun hc4 => ?_) (fun hc4 => ?_)
    · have hf := if_t hf hc4
      refine lv_iconst (v := (0 : Int32)) hx hb dX7_isLetter_16 (by decide) ?_
      have hr0 := so1 hf
      subst hr0
      rw [← hQ]
      exact W.zret (v := (0 : Int32)) hx hb hr rfl (fun t ht hW => ⟨rfl, ht⟩) (fun _ h => by cases h) dX7_isLetter_17
    · have hf := if_f hf hc4
      refine lv_iconst (v := (1 : Int32)) hx hb dX7_isLetter_12 (by decide) ?_
      refine lv_goto (tgt := 17) hx hb dX7_isLetter_13 (by decide) ?_
      have hr0 := so1 hf
      subst hr0
      rw [← hQ]
      exact W.zret (v := (1 : Int32)) hx hb hr rfl (fun t ht hW => ⟨rfl, ht⟩) (fun _ h => by cases h) dX7_isLetter_17
theorem hd_X7_isDigit : yX7_isDigit.cls = RX7 ∧ yX7_isDigit.cls ≠ "java/lang/invoke/MethodHandle" ∧ yX7_isDigit.cls ≠ "java/lang/invoke/VarHandle" ∧ (parseMethodDescriptor yX7_isDigit.desc).map (fun d => d.parameters.length) = some 1 := by decide +kernel
def f_X7_readNumber_b125    (t1 : Int32) (v_number : Int32) (v_next : Int32) : Option (Int32 × Int32 × Int32) := some (t1, v_number, v_next)
def f_X7_readNumber_b120    (v_number : Int32) (v_next : Int32) : Option (Int32 × Int32 × Int32) := f_X7_readNumber_b125 ((1 : Int32)) (v_number) (v_next)
def f_X7_readNumber_b105    (t0 : Int32) (v_number : Int32) (v_next : Int32) : Option (Int32 × Int32 × Int32) := if t0 = (0 : Int32) then (if v_number ≤ (99 : Int32) then (f_X7_readNumber_b125 ((2 : Int32)) (v_number) (v_next)) else (f_X7_readNumber_b120 (v_number) (v_next))) else (f_X7_readNumber_b120 (v_number) (v_next))
def f_X7_readNumber_b104    (v_number : Int32) (v_next : Int32) : Option (Int32 × Int32 × Int32) := f_X7_readNumber_b105 ((0 : Int32)) (v_number) (v_next)
def f_X7_readNumber_b73 (v_place : Int32) (v_bytes : (Nat → Int32))   (v_number : Int32) (v_next : Int32) : Option (Int32 × Int32 × Int32) := gd (inB v_place 300) (if (v_bytes (v_place).toNatClampNeg) = (48 : Int32) then (if (v_next - v_place) ≤ (1 : Int32) then (f_X7_readNumber_b104 (v_number) (v_next)) else (f_X7_readNumber_b105 ((1 : Int32)) (v_number) (v_next))) else (f_X7_readNumber_b104 (v_number) (v_next)))
def f_X7_readNumber_b5 (v_length : Int32) (v_place : Int32) (v_bytes : (Nat → Int32))   : Nat → Int32 → Int32 → Option (Int32 × Int32 × Int32)
  | 0, _, _ => none
  | n5 + 1, v_number, v_next => if v_length ≤ v_next then (f_X7_readNumber_b73 v_place v_bytes (v_number) (v_next)) else (gd (inB v_next 300) (bd1 (f_X7_isDigit ((v_bytes (v_next).toNatClampNeg))) fun r19 => if r19 = (0 : Int32) then (f_X7_readNumber_b73 v_place v_bytes (v_number) (v_next)) else (gd (inB v_next 300) (nm ((if (100 : Int32) < (((v_number * (10 : Int32)) + (v_bytes (v_next).toNatClampNeg)) - (48 : Int32)) then (100 : Int32) else (((v_number * (10 : Int32)) + (v_bytes (v_next).toNatClampNeg)) - (48 : Int32)))) fun y22 => f_X7_readNumber_b5 v_length v_place v_bytes n5 (y22) ((v_next + (1 : Int32)))))))
def f_X7_readNumber  (v_length : Int32) (v_token : Int32) (v_place : Int32) (v_number : Int32) (v_next : Int32) (v_bytes : (Nat → Int32))  : Option (Int32 × Int32 × Int32) := f_X7_readNumber_b5 v_length v_place v_bytes zF ((0 : Int32)) (v_next)
abbrev rm_X7_readNumber : Room := { frames := 1, cells := 0, slots := 0, locals := 32 }
set_option maxHeartbeats 4000000 in
set_option maxRecDepth 100000 in
theorem c_X7_readNumber (l : Launch) (G : zG) (sz : Nat) (a_this : Nat) (a_this_bytes : Nat) (v_length : Int32) (v_token : Int32) (v_place : Int32) (v_number : Int32) (v_next : Int32) (v_bytes : (Nat → Int32)) (R1 : Int32) (R2 : Int32) (R3 : Int32) (hf : f_X7_readNumber v_length v_token v_place v_number v_next v_bytes = some (R1, R2, R3)) : Met l yX7_readNumber wsX7_readNumber rm_X7_readNumber (va_Pc [.ref a_this] (zB G [(a_this, .inr (7, [.ref a_this_bytes, .int v_length, .int v_token, .int v_place, .int v_number, .int v_next])), (a_this_bytes, .inl (G.2.2.1, 300, .inl v_bytes))] sz)) (zQ G none [(a_this, .inr (7, [.ref a_this_bytes, .int v_length, .int R1, .int v_place, .int R2, .int R3])), (a_this_bytes, .inl (G.2.2.1, 300, .inl v_bytes))] (va_A [(a_this, .inr (7, [.ref a_this_bytes, .int v_length, .int v_token, .int v_place, .int v_number, .int v_next])), (a_this_bytes, .inl (G.2.2.1, 300, .inl v_bytes))] sz)) 0 0 (va_A [(a_this, .inr (7, [.ref a_this_bytes, .int v_length, .int v_token, .int v_place, .int v_number, .int v_next])), (a_this_bytes, .inl (G.2.2.1, 300, .inl v_bytes))] sz) := by
  refine Met.ofW (cc := cX7_readNumber) (maxL := 2) (ret := none) (by decide) rfl ?_
  intro p e s m args below meth c s₁ B hml hv
  obtain ⟨hargs, hsz, hP, hD0, hE⟩ := hv
  have hx := B.exec
  have hb := B.bytes
  have hr := B.returns
  have hts := atoms_spec (ws := wsX7_readNumber) B.pre
  have hown : s.vm.findClass RX7 = some m.cls := findClass_of_methodNamed B.named
  have hlocks := B.notSynchronized
  have hK := hE.1
  have hC : CallFix p m c cX7_readNumber 2 s args wsX7_readNumber RX7 := ⟨hx, hb, hml, hown, hts⟩
  have inX7 : ∀ w ∈ wsX70, w ∈ wsX7_readNumber := by decide +kernel
  have lk9 := hts (.fieldLink RX7 9 "SkyLeases$Text" "bytes" "[C") (by decide +kernel)
  have lk15 := hts (.fieldLink RX7 15 "SkyLeases$Text" "length" "I") (by decide +kernel)
  have lk19 := hts (.fieldLink RX7 19 "SkyLeases$Text" "token" "I") (by decide +kernel)
  have lk22 := hts (.fieldLink RX7 22 "SkyLeases$Text" "place" "I") (by decide +kernel)
  have lk25 := hts (.fieldLink RX7 25 "SkyLeases$Text" "number" "I") (by decide +kernel)
  have lk28 := hts (.fieldLink RX7 28 "SkyLeases$Text" "next" "I") (by decide +kernel)
  subst hsz
  have hD := hD0.self (sz := s.heap.size)
  generalize hAe : va_A [(a_this, .inr (7, [.ref a_this_bytes, .int v_length, .int v_token, .int v_place, .int v_number, .int v_next])), (a_this_bytes, .inl (G.2.2.1, 300, .inl v_bytes))] s.heap.size = A at hD ⊢
  have hA : ∀ q : Nat, s.heap.size ≤ q → A q := fun q h => by rw [← hAe]; exact Or.inr h
  have hS : va_S A s.heap s.heap [] := va_S.rf
  have hP : va_P G.1 vwCl [(a_this, .inr (7, [.ref a_this_bytes, .int v_length, .int v_token, .int v_place, .int v_number, .int v_next])), (a_this_bytes, .inl (G.2.2.1, 300, .inl v_bytes))] s.heap := hP
  have hl := lv_entry ([.ref a_this]) (n := 2) (Nat.le_of_ble_eq_true rfl)
  have hent : entryFrame m args 2 = F0 m 0 ((lg_sl ([.ref a_this]) ++ List.replicate (2 - (lg_sl ([.ref a_this])).length) Slot.unset).toArray) [] := by rw [hargs]; exact lg_entry_eq m [.ref a_this] 2
  refine W.eq hent ?_
  clear hent
  generalize (lg_sl ([.ref a_this]) ++ List.replicate (2 - (lg_sl ([.ref a_this])).length) Slot.unset).toArray = ls at hl ⊢
  have hl : lv_has ls 2 [(0, .ref a_this)] := hl
  generalize hQ : MQ below _ args s 0 0 _ = QQ
  change W p l e rm_X7_readNumber s m args below meth c s.heap [] 0 0 QQ _
  have j125 : ∀ (t1 : Int32), ∀ (v_token : Int32), ∀ (v_number : Int32), ∀ (v_next : Int32), ∀ (ls : Array Slot), lv_has ls 2 [] → ∀ (H : Heap) (locs : List Loc), va_P G.1 vwCl [(a_this, .inr (7, [.ref a_this_bytes, .int v_length, .int v_token, .int v_place, .int v_number, .int v_next])), (a_this_bytes, .inl (G.2.2.1, 300, .inl v_bytes))] H → va_D A [(a_this, .inr (7, [.ref a_this_bytes, .int v_length, .int v_token, .int v_place, .int v_number, .int v_next])), (a_this_bytes, .inl (G.2.2.1, 300, .inl v_bytes))] → va_S A s.heap H locs → f_X7_readNumber_b125 t1 v_number v_next = some (R1, R2, R3) → W p l e rm_X7_readNumber s m args below meth c H locs 0 0 QQ (F0 m 125 ls [.int t1, .ref a_this]) := by
    intro t1 v_token v_number v_next ls hl H locs hP hD hS hf
    unfold f_X7_readNumber_b125 at hf
    refine va_put (D := G.1) (ci := 7) (v := .int t1) (ty := .int) (C := RX7) (T := TX7) (N := 6) hx hb hts inX7 tyX7 tyX7_ok nmX7 hown hK hP hD hS 0 rfl rfl 2 (by decide) lk19 (fun _ h9 => h9) rfl (by decide +kernel) rfl rfl (Nat.le_of_ble_eq_true rfl) dX7_readNumber_125 (fun H locs hP hD hS => ?_)
    have hP : va_P G.1 vwCl [(a_this, .inr (7, [.ref a_this_bytes, .int v_length, .int t1, .int v_place, .int v_number, .int v_next])), (a_this_bytes, .inl (G.2.2.1, 300, .inl v_bytes))] H := hP
    have hD : va_D A [(a_this, .inr (7, [.ref a_this_bytes, .int v_length, .int t1, .int v_place, .int v_number, .int v_next])), (a_this_bytes, .inl (G.2.2.1, 300, .inl v_bytes))] := hD
    obtain ⟨hr0, hr1, hr2⟩ := so3 hf
    subst hr0
    subst hr1
    subst hr2
    rw [← hQ]
    exact W.vret hx hb hr (fun t ht hW => ⟨⟨rfl, by rw [ht]; exact hP⟩, hS.F ht⟩) hS.2.2 dX7_readNumber_128
  have j120 : ∀ (v_token : Int32), ∀ (v_number : Int32), ∀ (v_next : Int32), ∀ (ls : Array Slot), lv_has ls 2 [] → ∀ (H : Heap) (locs : List Loc), va_P G.1 vwCl [(a_this, .inr (7, [.ref a_this_bytes, .int v_length, .int v_token, .int v_place, .int v_number, .int v_next])), (a_this_bytes, .inl (G.2.2.1, 300, .inl v_bytes))] H → va_D A [(a_this, .inr (7, [.ref a_this_bytes, .int v_length, .int v_token, .int v_place, .int v_number, .int v_next])), (a_this_bytes, .inl (G.2.2.1, 300, .inl v_bytes))] → va_S A s.heap H locs → f_X7_readNumber_b120 v_number v_next = some (R1, R2, R3) → W p l e rm_X7_readNumber s m args below meth c H locs 0 0 QQ (F0 m 120 ls [.ref a_this]) := by
    intro v_token v_number v_next ls hl H locs hP hD hS hf
    unfold f_X7_readNumber_b120 at hf
    refine lv_iconst (v := (1 : Int32)) hx hb dX7_readNumber_120 (by decide) ?_
    refine lv_goto (tgt := 125) hx hb dX7_readNumber_121 (by decide) ?_
    exact j125 ((1 : Int32)) (v_token) (v_number) (v_next) ls (lv_sub hl [] rfl) _ _ hP hD hS hf
  have j105 : ∀ (t0 : Int32), ∀ (v_token : Int32), ∀ (v_number : Int32), ∀ (v_next : Int32), ∀ (ls : Array Slot), lv_has ls 2 [(0, .ref a_this)] → ∀ (H : Heap) (locs : List Loc), va_P G.1 vwCl [(a_this, .inr (7, [.ref a_this_bytes, .int v_length, .int v_token, .int v_place, .int v_number, .int v_next])), (a_this_bytes, .inl (G.2.2.1, 300, .inl v_bytes))] H → va_D A [(a_this, .inr (7, [.ref a_this_bytes, .int v_length, .int v_token, .int v_place, .int v_number, .int v_next])), (a_this_bytes, .inl (G.2.2.1, 300, .inl v_bytes))] → va_S A s.heap H locs → f_X7_readNumber_b105 t0 v_number v_next = some (R1, R2, R3) → W p l e rm_X7_readNumber s m args below meth c H locs 0 0 QQ (F0 m 105 ls [.int t0]) := by
    intro t0 v_token v_number v_next ls hl H locs hP hD hS hf
    unfold f_X7_readNumber_b105 at hf
    refine lv_istore_n (lv' := [(1, .int t0), (0, .ref a_this)]) hx hb dX7_readNumber_105 rfl hl (by decide) rfl (fun ls hl => ?_)
    refine lv_aload_n hx hb dX7_readNumber_106 rfl (lv_at hl 1 rfl) ?_
    refine lv_iload_n hx hb dX7_readNumber_107 rfl (lv_at hl 0 rfl) ?_
    refine lv_if_ne (tgt := 120) hx hb dX7_readNumber_108 (by decide) (fun hc12 => ?_) (fun hc12 => ?_)
    · have hf := if_f hf hc12
      exact j120 (v_token) (v_number) (v_next) ls (lv_sub hl [] rfl) _ _ hP hD hS hf
    · have hf := if_t hf hc12
      refine lv_aload_n hx hb dX7_readNumber_111 rfl (lv_at hl 1 rfl) ?_
      refine va_get (D := G.1) (ci := 7) (v := .int v_number) (C := RX7) (T := TX7) (N := 6) hx hb hts inX7 hown hK hP 0 rfl rfl 4 (by decide) lk25 (fun _ h9 => h9) rfl dX7_readNumber_112 ?_
      refine lv_bipush (v := (99 : Int32)) hx hb dX7_readNumber_115 (by decide) ?_
      refine lv_icmp_le (tgt := 124) hx hb dX7_readNumber_117 (by decide) (fun hc13 => ?_) (fun hc13 => ?_)
      · have hf := if_t hf hc13
        refine lv_iconst (v := (2 : Int32)) hx hb dX7_readNumber_124 (by decide) ?_
        exact j125 ((2 : Int32)) (v_token) (v_number) (v_next) ls (lv_sub hl [] rfl) _ _ hP hD hS hf
      · have hf := if_f hf hc13
        exact j120 (v_token) (v_number) (v_next) ls (lv_sub hl [] rfl) _ _ hP hD hS hf
  have j104 : ∀ (v_token : Int32), ∀ (v_number : Int32), ∀ (v_next : Int32), ∀ (ls : Array Slot), lv_has ls 2 [(0, .ref a_this)] → ∀ (H : Heap) (locs : List Loc), va_P G.1 vwCl [(a_this, .inr (7, [.ref a_this_bytes, .int v_length, .int v_token, .int v_place, .int v_number, .int v_next])), (a_this_bytes, .inl (G.2.2.1, 300, .inl v_bytes))] H → va_D A [(a_this, .inr (7, [.ref a_this_bytes, .int v_length, .int v_token, .int v_place, .int v_number, .int v_next])), (a_this_bytes, .inl (G.2.2.1, 300, .inl v_bytes))] → va_S A s.heap H locs → f_X7_readNumber_b104 v_number v_next = some (R1, R2, R3) → W p l e rm_X7_readNumber s m args below meth c H locs 0 0 QQ (F0 m 104 ls []) := by
    intro v_token v_number v_next ls hl H locs hP hD hS hf
    unfold f_X7_readNumber_b104 at hf
    refine lv_iconst (v := (0 : Int32)) hx hb dX7_readNumber_104 (by decide) ?_
    exact j105 ((0 : Int32)) (v_token) (v_number) (v_next) ls (lv_sub hl [0] rfl) _ _ hP hD hS hf
  have j73 : ∀ (v_token : Int32), ∀ (v_number : Int32), ∀ (v_next : Int32), ∀ (ls : Array Slot), lv_has ls 2 [(0, .ref a_this)] → ∀ (H : Heap) (locs : List Loc), va_P G.1 vwCl [(a_this, .inr (7, [.ref a_this_bytes, .int v_length, .int v_token, .int v_place, .int v_number, .int v_next])), (a_this_bytes, .inl (G.2.2.1, 300, .inl v_bytes))] H → va_D A [(a_this, .inr (7, [.ref a_this_bytes, .int v_length, .int v_token, .int v_place, .int v_number, .int v_next])), (a_this_bytes, .inl (G.2.2.1, 300, .inl v_bytes))] → va_S A s.heap H locs → f_X7_readNumber_b73 v_place v_bytes v_number v_next = some (R1, R2, R3) → W p l e rm_X7_readNumber s m args below meth c H locs 0 0 QQ (F0 m 73 ls []) := by
    intro v_token v_number v_next ls hl H locs hP hD hS hf
    unfold f_X7_readNumber_b73 at hf
    refine lv_aload_n hx hb dX7_readNumber_73 rfl (lv_at hl 0 rfl) ?_
    refine va_get (D := G.1) (ci := 7) (v := .ref a_this_bytes) (C := RX7) (T := TX7) (N := 6) hx hb hts inX7 hown hK hP 0 rfl rfl 0 (by decide) lk9 (fun _ h9 => h9) rfl dX7_readNumber_74 ?_
    refine lv_aload_n hx hb dX7_readNumber_77 rfl (lv_at hl 0 rfl) ?_
    refine va_get (D := G.1) (ci := 7) (v := .int v_place) (C := RX7) (T := TX7) (N := 6) hx hb hts inX7 hown hK hP 0 rfl rfl 3 (by decide) lk22 (fun _ h9 => h9) rfl dX7_readNumber_78 ?_
    obtain ⟨hg14, hf⟩ := gd_some hf
    refine va_cald hx hb hK hP 1 1 rfl rfl (inB_in hg14) dX7_readNumber_81 ?_
    refine lv_bipush (v := (48 : Int32)) hx hb dX7_readNumber_82 (by decide) ?_
    refine lv_icmp_ne (tgt := 104) hx hb dX7_readNumber_84 (by decide) (fun hc15 => ?_) (fun hc15 => ?_)
    · have hf := if_f hf hc15
      exact j104 (v_token) (v_number) (v_next) ls (lv_sub hl [0] rfl) _ _ hP hD hS hf
    · have hf := if_t hf hc15
      refine lv_aload_n hx hb dX7_readNumber_87 rfl (lv_at hl 0 rfl) ?_
      refine va_get (D := G.1) (ci := 7) (v := .int v_next) (C := RX7) (T := TX7) (N := 6) hx hb hts inX7 hown hK hP 0 rfl rfl 5 (by decide) lk28 (fun _ h9 => h9) rfl dX7_readNumber_88 ?_
      refine lv_aload_n hx hb dX7_readNumber_91 rfl (lv_at hl 0 rfl) ?_
      refine va_get (D := G.1) (ci := 7) (v := .int v_place) (C := RX7) (T := TX7) (N := 6) hx hb hts inX7 hown hK hP 0 rfl rfl 3 (by decide) lk22 (fun _ h9 => h9) rfl dX7_readNumber_92 ?_
      refine lv_isub hx hb dX7_readNumber_95 ?_
      refine lv_iconst (v := (1 : Int32)) hx hb dX7_readNumber_96 (by decide) ?_
      refine lv_icmp_le (tgt := 104) hx hb dX7_readNumber_97 (by decide) (fun hc16 => ?_) (fun hc16 => ?_)
      · have hf := if_t hf hc16
        exact j104 (v_token) (v_number) (v_next) ls (lv_sub hl [0] rfl) _ _ hP hD hS hf
      · have hf := if_f hf hc16
        refine lv_iconst (v := (1 : Int32)) hx hb dX7_readNumber_100 (by decide) ?_
        refine lv_goto (tgt := 105) hx hb dX7_readNumber_101 (by decide) ?_
        exact j105 ((1 : Int32)) (v_token) (v_number) (v_next) ls (lv_sub hl [0] rfl) _ _ hP hD hS hf
  have j5 : ∀ (v_token : Int32), ∀ (nn : Nat), ∀ (v_number : Int32), ∀ (v_next : Int32), ∀ (ls : Array Slot), lv_has ls 2 [(0, .ref a_this)] → ∀ (H : Heap) (locs : List Loc), va_P G.1 vwCl [(a_this, .inr (7, [.ref a_this_bytes, .int v_length, .int v_token, .int v_place, .int v_number, .int v_next])), (a_this_bytes, .inl (G.2.2.1, 300, .inl v_bytes))] H → va_D A [(a_this, .inr (7, [.ref a_this_bytes, .int v_length, .int v_token, .int v_place, .int v_number, .int v_next])), (a_this_bytes, .inl (G.2.2.1, 300, .inl v_bytes))] → va_S A s.heap H locs → f_X7_readNumber_b5 v_length v_place v_bytes nn v_number v_next = some (R1, R2, R3) → W p l e rm_X7_readNumber s m args below meth c H locs 0 0 QQ (F0 m 5 ls []) := by
    intro v_token
    intro nn
    induction nn with
    | zero =>
      intro v_number v_next ls hl H locs hP hD hS hf
      rw [f_X7_readNumber_b5] at hf
      cases hf
    | succ n5 ih =>
      intro v_number v_next ls hl H locs hP hD hS hf
      rw [f_X7_readNumber_b5] at hf
      refine lv_aload_n hx hb dX7_readNumber_5 rfl (lv_at hl 0 rfl) ?_
      refine va_get (D := G.1) (ci := 7) (v := .int v_next) (C := RX7) (T := TX7) (N := 6) hx hb hts inX7 hown hK hP 0 rfl rfl 5 (by decide) lk28 (fun _ h9 => h9) rfl dX7_readNumber_6 ?_
      refine lv_aload_n hx hb dX7_readNumber_9 rfl (lv_at hl 0 rfl) ?_
      refine va_get (D := G.1) (ci := 7) (v := .int v_length) (C := RX7) (T := TX7) (N := 6) hx hb hts inX7 hown hK hP 0 rfl rfl 1 (by decide) lk15 (fun _ h9 => h9) rfl dX7_readNumber_10 ?_
      refine lv_icmp_ge (tgt := 73) hx hb dX7_readNumber_13 (by decide) (fun hc17 => ?_) (fun hc17 => ?_)
      · have hf := if_t hf hc17
        exact j73 (v_token) (v_number) (v_next) ls (lv_sub hl [0] rfl) _ _ hP hD hS hf
      · have hf := if_f hf hc17
        refine lv_aload_n hx hb dX7_readNumber_16 rfl (lv_at hl 0 rfl) ?_
        refine va_get (D := G.1) (ci := 7) (v := .ref a_this_bytes) (C := RX7) (T := TX7) (N := 6) hx hb hts inX7 hown hK hP 0 rfl rfl 0 (by decide) lk9 (fun _ h9 => h9) rfl dX7_readNumber_17 ?_
        refine lv_aload_n hx hb dX7_readNumber_20 rfl (lv_at hl 0 rfl) ?_
        refine va_get (D := G.1) (ci := 7) (v := .int v_next) (C := RX7) (T := TX7) (N := 6) hx hb hts inX7 hown hK hP 0 rfl rfl 5 (by decide) lk28 (fun _ h9 => h9) rfl dX7_readNumber_21 ?_
        obtain ⟨hg18, hf⟩ := gd_some hf
        refine va_cald hx hb hK hP 1 1 rfl rfl (inB_in hg18) dX7_readNumber_24 ?_
        obtain ⟨r19, hu, hf⟩ := bd1_some hf
        refine zRi (va_runS (As := [.int (v_bytes (v_next).toNatClampNeg)]) (rest := []) hC (c_X7_isDigit l G ((v_bytes (v_next).toNatClampNeg)) r19 hu) (va_cwS 1 hts gX7_readNumber_X7_isDigit rfl rfl rfl hd_X7_isDigit.2 ⟨(Nat.le_of_ble_eq_true rfl), (Nat.le_of_ble_eq_true rfl)⟩) (zPS hE hP [] rfl) rfl rfl hl.1 rfl (lv_room (Nat.le_of_ble_eq_true rfl)) dX7_readNumber_25 ⟨Nat.zero_le _, Nat.zero_le _⟩) ?_
        refine lv_if_eq (tgt := 73) hx hb dX7_readNumber_28 (by decide) (fun hc20 => ?_) (fun hc20 => ?_)
        · have hf := if_t hf hc20
          exact j73 (v_token) (v_number) (v_next) ls (lv_sub hl [0] rfl) _ _ hP hD hS hf
        · have hf := if_f hf hc20
          refine lv_aload_n hx hb dX7_readNumber_31 rfl (lv_at hl 0 rfl) ?_
          refine lv_aload_n hx hb dX7_readNumber_32 rfl (lv_at hl 0 rfl) ?_
          refine va_get (D := G.1) (ci := 7) (v := .int v_number) (C := RX7) (T := TX7) (N := 6) hx hb hts inX7 hown hK hP 0 rfl rfl 4 (by decide) lk25 (fun _ h9 => h9) rfl dX7_readNumber_33 ?_
          refine lv_bipush (v := (10 : Int32)) hx hb dX7_readNumber_36 (by decide) ?_
          refine lv_imul hx hb dX7_readNumber_38 ?_
          refine lv_aload_n hx hb dX7_readNumber_39 rfl (lv_at hl 0 rfl) ?_
          refine va_get (D := G.1) (ci := 7) (v := .ref a_this_bytes) (C := RX7) (T := TX7) (N := 6) hx hb hts inX7 hown hK hP 0 rfl rfl 0 (by decide) lk9 (fun _ h9 => h9) rfl dX7_readNumber_40 ?_
          refine lv_aload_n hx hb dX7_readNumber_43 rfl (lv_at hl 0 rfl) ?_
          refine va_get (D := G.1) (ci := 7) (v := .int v_next) (C := RX7) (T := TX7) (N := 6) hx hb hts inX7 hown hK hP 0 rfl rfl 5 (by decide) lk28 (fun _ h9 => h9) rfl dX7_readNumber_44 ?_
          obtain ⟨hg21, hf⟩ := gd_some hf
          refine va_cald hx hb hK hP 1 1 rfl rfl (inB_in hg21) dX7_readNumber_47 ?_
          refine lv_iadd hx hb dX7_readNumber_48 ?_
          refine lv_bipush (v := (48 : Int32)) hx hb dX7_readNumber_49 (by decide) ?_
          refine lv_isub hx hb dX7_readNumber_51 ?_
          refine lv_bipush (v := (100 : Int32)) hx hb dX7_readNumber_52 (by decide) ?_
          refine va_mmin hx hb (by rw [hml]; exact hl.1.symm) hown (hts (.methodLink RX7 48 Lib.Math.min.name) (by decide +kernel)) (hts (.static Lib.Math.min.name) (by decide +kernel)) (hts (.initialized "java/lang/Math") (by decide +kernel)) (hts (.code Lib.Math.min.name Lib.Math.min.code 2 (some .int)) (by decide +kernel)) (Nat.le_of_ble_eq_true rfl) (Nat.le_of_ble_eq_true rfl) (Nat.zero_le _) (Nat.zero_le _) dX7_readNumber_54 ?_
          refine lv_topi (fun y22 ey22 => ?_)
          have hf := nm_to hf ey22
          refine va_put (D := G.1) (ci := 7) (v := .int y22) (ty := .int) (C := RX7) (T := TX7) (N := 6) hx hb hts inX7 tyX7 tyX7_ok nmX7 hown hK hP hD hS 0 rfl rfl 4 (by decide) lk25 (fun _ h9 => h9) rfl (by decide +kernel) rfl rfl (Nat.le_of_ble_eq_true rfl) dX7_readNumber_57 (fun H locs hP hD hS => ?_)
          have hP : va_P G.1 vwCl [(a_this, .inr (7, [.ref a_this_bytes, .int v_length, .int v_token, .int v_place, .int y22, .int v_next])), (a_this_bytes, .inl (G.2.2.1, 300, .inl v_bytes))] H := hP
          have hD : va_D A [(a_this, .inr (7, [.ref a_this_bytes, .int v_length, .int v_token, .int v_place, .int y22, .int v_next])), (a_this_bytes, .inl (G.2.2.1, 300, .inl v_bytes))] := hD
          refine lv_aload_n hx hb dX7_readNumber_60 rfl (lv_at hl 0 rfl) ?_
          refine lv_dup hx hb dX7_readNumber_61 rfl ?_
          refine va_get (D := G.1) (ci := 7) (v := .int v_next) (C := RX7) (T := TX7) (N := 6) hx hb hts inX7 hown hK hP 0 rfl rfl 5 (by decide) lk28 (fun _ h9 => h9) rfl dX7_readNumber_62 ?_
          refine lv_iconst (v := (1 : Int32)) hx hb dX7_readNumber_65 (by decide) ?_
          refine lv_iadd hx hb dX7_readNumber_66 ?_
          refine va_put (D := G.1) (ci := 7) (v := .int (v_next + (1 : Int32))) (ty := .int) (C := RX7) (T := TX7) (N := 6) hx hb hts inX7 tyX7 tyX7_ok nmX7 hown hK hP hD hS 0 rfl rfl 5 (by decide) lk28 (fun _ h9 => h9) rfl (by decide +kernel) rfl rfl (Nat.le_of_ble_eq_true rfl) dX7_readNumber_67 (fun H locs hP hD hS => ?_)
          have hP : va_P G.1 vwCl [(a_this, .inr (7, [.ref a_this_bytes, .int v_length, .int v_token, .int v_place, .int y22, .int (v_next + (1 : Int32))])), (a_this_bytes, .inl (G.2.2.1, 300, .inl v_bytes))] H := hP
          have hD : va_D A [(a_this, .inr (7, [.ref a_this_bytes, .int v_length, .int v_token, .int v_place, .int y22, .int (v_next + (1 : Int32))])), (a_this_bytes, .inl (G.2.2.1, 300, .inl v_bytes))] := hD
          refine lv_goto (tgt := 5) hx hb dX7_readNumber_70 (by decide) ?_
          exact ih (y22) ((v_next + (1 : Int32))) ls (lv_sub hl [0] rfl) _ _ hP hD hS hf
  have hSH := hS
  unfold f_X7_readNumber at hf
  refine lv_aload_n hx hb dX7_readNumber_0 rfl (lv_at hl 0 rfl) ?_
  refine lv_iconst (v := (0 : Int32)) hx hb dX7_readNumber_1 (by decide) ?_
  refine va_put (D := G.1) (ci := 7) (v := .int (0 : Int32)) (ty := .int) (C := RX7) (T := TX7) (N := 6) hx hb hts inX7 tyX7 tyX7_ok nmX7 hown hK hP hD hS 0 rfl rfl 4 (by decide) lk25 (fun _ h9 => h9) rfl (by decide +kernel) rfl rfl (Nat.le_of_ble_eq_true rfl) dX7_readNumber_2 (fun H locs hP hD hS => ?_)
  have hP : va_P G.1 vwCl [(a_this, .inr (7, [.ref a_this_bytes, .int v_length, .int v_token, .int v_place, .int (0 : Int32), .int v_next])), (a_this_bytes, .inl (G.2.2.1, 300, .inl v_bytes))] H := hP
  have hD : va_D A [(a_this, .inr (7, [.ref a_this_bytes, .int v_length, .int v_token, .int v_place, .int (0 : Int32), .int v_next])), (a_this_bytes, .inl (G.2.2.1, 300, .inl v_bytes))] := hD
  exact j5 (v_token) zF ((0 : Int32)) (v_next) ls (lv_sub hl [0] rfl) _ _ hP hD hS hf
def f_X7_rewind  (v_next : Int32)  : Option (Int32) := some ((0 : Int32))
abbrev rm_X7_rewind : Room := { frames := 0, cells := 0, slots := 0, locals := 0 }
set_option maxHeartbeats 4000000 in
set_option maxRecDepth 100000 in
theorem c_X7_rewind (l : Launch) (G : zG) (sz : Nat) (a_this : Nat) (a_this_bytes : Nat) (v_length : Int32) (v_token : Int32) (v_place : Int32) (v_number : Int32) (v_next : Int32) (R1 : Int32) (hf : f_X7_rewind v_next = some R1) : Met l yX7_rewind wsX7_rewind rm_X7_rewind (va_Pc [.ref a_this] (zB G [(a_this, .inr (7, [.ref a_this_bytes, .int v_length, .int v_token, .int v_place, .int v_number, .int v_next]))] sz)) (zQ G none [(a_this, .inr (7, [.ref a_this_bytes, .int v_length, .int v_token, .int v_place, .int v_number, .int R1]))] (va_A [(a_this, .inr (7, [.ref a_this_bytes, .int v_length, .int v_token, .int v_place, .int v_number, .int v_next]))] sz)) 0 0 (va_A [(a_this, .inr (7, [.ref a_this_bytes, .int v_length, .int v_token, .int v_place, .int v_number, .int v_next]))] sz) := by
  refine Met.ofW (cc := cX7_rewind) (maxL := 1) (ret := none) (by decide) rfl ?_
  intro p e s m args below meth c s₁ B hml hv
  obtain ⟨hargs, hsz, hP, hD0, hE⟩ := hv
  have hx := B.exec
  have hb := B.bytes
  have hr := B.returns
  have hts := atoms_spec (ws := wsX7_rewind) B.pre
  have hown : s.vm.findClass RX7 = some m.cls := findClass_of_methodNamed B.named
  have hlocks := B.notSynchronized
  have hK := hE.1
  have hC : CallFix p m c cX7_rewind 1 s args wsX7_rewind RX7 := ⟨hx, hb, hml, hown, hts⟩
  have inX7 : ∀ w ∈ wsX70, w ∈ wsX7_rewind := by decide +kernel
  have lk28 := hts (.fieldLink RX7 28 "SkyLeases$Text" "next" "I") (by decide +kernel)
  subst hsz
  have hD := hD0.self (sz := s.heap.size)
  generalize hAe : va_A [(a_this, .inr (7, [.ref a_this_bytes, .int v_length, .int v_token, .int v_place, .int v_number, .int v_next]))] s.heap.size = A at hD ⊢
  have hA : ∀ q : Nat, s.heap.size ≤ q → A q := fun q h => by rw [← hAe]; exact Or.inr h
  have hS : va_S A s.heap s.heap [] := va_S.rf
  have hP : va_P G.1 vwCl [(a_this, .inr (7, [.ref a_this_bytes, .int v_length, .int v_token, .int v_place, .int v_number, .int v_next]))] s.heap := hP
  have hl := lv_entry ([.ref a_this]) (n := 1) (Nat.le_of_ble_eq_true rfl)
  have hent : entryFrame m args 1 = F0 m 0 ((lg_sl ([.ref a_this]) ++ List.replicate (1 - (lg_sl ([.ref a_this])).length) Slot.unset).toArray) [] := by rw [hargs]; exact lg_entry_eq m [.ref a_this] 1
  refine W.eq hent ?_
  clear hent
  generalize (lg_sl ([.ref a_this]) ++ List.replicate (1 - (lg_sl ([.ref a_this])).length) Slot.unset).toArray = ls at hl ⊢
  have hl : lv_has ls 1 [(0, .ref a_this)] := hl
  generalize hQ : MQ below _ args s 0 0 _ = QQ
  change W p l e rm_X7_rewind s m args below meth c s.heap [] 0 0 QQ _
  have hSH := hS
  unfold f_X7_rewind at hf
  refine lv_aload_n hx hb dX7_rewind_0 rfl (lv_at hl 0 rfl) ?_
  refine lv_iconst (v := (0 : Int32)) hx hb dX7_rewind_1 (by decide) ?_
  refine va_put (D := G.1) (ci := 7) (v := .int (0 : Int32)) (ty := .int) (C := RX7) (T := TX7) (N := 6) hx hb hts inX7 tyX7 tyX7_ok nmX7 hown hK hP hD hS 0 rfl rfl 5 (by decide) lk28 (fun _ h9 => h9) rfl (by decide +kernel) rfl rfl (Nat.le_of_ble_eq_true rfl) dX7_rewind_2 (fun H locs hP hD hS => ?_)
  have hP : va_P G.1 vwCl [(a_this, .inr (7, [.ref a_this_bytes, .int v_length, .int v_token, .int v_place, .int v_number, .int (0 : Int32)]))] H := hP
  have hD : va_D A [(a_this, .inr (7, [.ref a_this_bytes, .int v_length, .int v_token, .int v_place, .int v_number, .int (0 : Int32)]))] := hD
  have hr0 := so1 hf
  subst hr0
  rw [← hQ]
  exact W.vret hx hb hr (fun t ht hW => ⟨⟨rfl, by rw [ht]; exact hP⟩, hS.F ht⟩) hS.2.2 dX7_rewind_5
def f_X3_mayStand  (v_p2_stars : Int32) (v_p2_tenants : Int32) (v_p2_leases_most : Int32) (v_p2_leases_size : Int32) (g0 : Int32) (g1 : Int32) : Option (Int32) := if g0 = (4 : Int32) then (if g1 = (0 : Int32) then (some ((1 : Int32))) else (some ((0 : Int32)))) else (if g0 = (5 : Int32) then (if (8 : Int32) ≤ v_p2_stars then (some ((0 : Int32))) else (some ((1 : Int32)))) else (if g0 = (6 : Int32) then (if (4 : Int32) ≤ v_p2_tenants then (some ((0 : Int32))) else (some ((1 : Int32)))) else (if g0 = (7 : Int32) then (bd1 (f_X6_isFull (v_p2_leases_most) (v_p2_leases_size)) fun r17 => if r17 = (0 : Int32) then (some ((1 : Int32))) else (some ((0 : Int32)))) else (some ((0 : Int32))))))
abbrev rm_X3_mayStand : Room := { frames := 1, cells := 0, slots := 0, locals := 20 }
set_option maxHeartbeats 4000000 in
set_option maxRecDepth 100000 in
theorem c_X3_mayStand (l : Launch) (G : zG) (a_p2 : Nat) (a_p2_leases : Nat) (a_p2_starts : Nat) (a_p2_paces : Nat) (a_p2_brights : Nat) (a_p2_purses : Nat) (a_p2_leases_parts : Nat) (v_p2_squares : Int32) (v_p2_stars : Int32) (v_p2_tenants : Int32) (v_p2_leases_most : Int32) (v_p2_leases_size : Int32) (g0 : Int32) (g1 : Int32) (R0 : Int32) (hf : f_X3_mayStand v_p2_stars v_p2_tenants v_p2_leases_most v_p2_leases_size g0 g1 = some R0) : Met l yX3_mayStand wsX3_mayStand rm_X3_mayStand (va_Pc [.int g0, .int g1, .ref a_p2] (zR G [(a_p2, .inr (5, [.int v_p2_squares, .int v_p2_stars, .ref a_p2_starts, .ref a_p2_paces, .ref a_p2_brights, .int v_p2_tenants, .ref a_p2_purses, .ref a_p2_leases])), (a_p2_leases, .inr (6, [.int v_p2_leases_most, .ref a_p2_leases_parts, .int v_p2_leases_size]))])) (zSv (some (.int R0))) 0 0 (fun _ => False) := by
  refine Met.ofW (cc := cX3_mayStand) (maxL := 3) (ret := (some .boolean)) (by decide) rfl ?_
  intro p e s m args below meth c s₁ B hml hv
  obtain ⟨hargs, hP, hE⟩ := hv
  have hx := B.exec
  have hb := B.bytes
  have hr := B.returns
  have hts := atoms_spec (ws := wsX3_mayStand) B.pre
  have hown : s.vm.findClass RX3 = some m.cls := findClass_of_methodNamed B.named
  have hlocks := B.notSynchronized
  have hK := hE.1
  have hC : CallFix p m c cX3_mayStand 3 s args wsX3_mayStand RX3 := ⟨hx, hb, hml, hown, hts⟩
  have inX5 : ∀ w ∈ wsX50, w ∈ wsX3_mayStand := by decide +kernel
  have lk49 := hts (.fieldLink RX3 49 "SkyLeases$Sky" "stars" "I") (by decide +kernel)
  have lk52 := hts (.fieldLink RX3 52 "SkyLeases$Sky" "tenants" "I") (by decide +kernel)
  have lk55 := hts (.fieldLink RX3 55 "SkyLeases$Sky" "leases" "LSkyLeases$Terms;") (by decide +kernel)
  have hl := lv_entry ([.int g0, .int g1, .ref a_p2]) (n := 3) (Nat.le_of_ble_eq_true rfl)
  have hent : entryFrame m args 3 = F0 m 0 ((lg_sl ([.int g0, .int g1, .ref a_p2]) ++ List.replicate (3 - (lg_sl ([.int g0, .int g1, .ref a_p2])).length) Slot.unset).toArray) [] := by rw [hargs]; exact lg_entry_eq m [.int g0, .int g1, .ref a_p2] 3
  refine W.eq hent ?_
  clear hent
  generalize (lg_sl ([.int g0, .int g1, .ref a_p2]) ++ List.replicate (3 - (lg_sl ([.int g0, .int g1, .ref a_p2])).length) Slot.unset).toArray = ls at hl ⊢
  have hl : lv_has ls 3 [(0, .int g0), (1, .int g1), (2, .ref a_p2)] := hl
  generalize hQ : MQ below _ args s 0 0 _ = QQ
  change W p l e rm_X3_mayStand s m args below meth c s.heap [] 0 0 QQ _
  unfold f_X3_mayStand at hf
  refine lv_iload_n hx hb dX3_mayStand_0 rfl (lv_at hl 0 rfl) ?_
  by_cases hc10 : g0 = (4 : Int32)
  · have hf := if_t hf hc10
    refine lv_tableIn (x := g0) (off := 31) (tgt := 32) hx hb dX3_mayStand_1 (by rw [hc10]; decide) (by rw [hc10]; decide) (by rw [hc10]; decide) (by decide) ?_
    refine lv_iload_n hx hb dX3_mayStand_32 rfl (lv_at hl 1 rfl) ?_
    refine lv_if_ne (tgt := 40) hx hb dX3_mayStand_33 (by decide) (fun hc11 => ?_) (fun hc11 => ?_)
    · have hf := if_f hf hc11
      refine lv_iconst (v := (0 : Int32)) hx hb dX3_mayStand_40 (by decide) ?_
      have hr0 := so1 hf
      subst hr0
      rw [← hQ]
      exact W.zret (v := (0 : Int32)) hx hb hr rfl (fun t ht hW => ⟨rfl, ht⟩) (fun _ h => by cases h) dX3_mayStand_41
    · have hf := if_t hf hc11
      refine lv_iconst (v := (1 : Int32)) hx hb dX3_mayStand_36 (by decide) ?_
      refine lv_goto (tgt := 41) hx hb dX3_mayStand_37 (by decide) ?_
      have hr0 := so1 hf
      subst hr0
      rw [← hQ]
      exact W.zret (v := (1 : Int32)) hx hb hr rfl (fun t ht hW => ⟨rfl, ht⟩) (fun _ h => by cases h) dX3_mayStand_41
  have hf := if_f hf hc10
  by_cases hc12 : g0 = (5 : Int32)
  · have hf := if_t hf hc12
    refine lv_tableIn (x := g0) (off := 41) (tgt := 42) hx hb dX3_mayStand_1 (by rw [hc12]; decide) (by rw [hc12]; decide) (by rw [hc12]; decide) (by decide) ?_
    refine lv_aload_n hx hb dX3_mayStand_42 rfl (lv_at hl 2 rfl) ?_
    refine va_get (D := G.1) (ci := 5) (v := .int v_p2_stars) (C := RX5) (T := TX5) (N := 8) hx hb hts inX5 hown hK hP 0 rfl rfl 1 (by decide) lk49 (fun _ h9 => h9) rfl dX3_mayStand_43 ?_
    refine lv_bipush (v := (8 : Int32)) hx hb dX3_mayStand_46 (by decide) ?_
    refine lv_icmp_ge (tgt := 55) hx hb dX3_mayStand_48 (by decide) (fun hc13 => ?_) (fun hc13 => ?_)
    · have hf := if_t hf hc13
      refine lv_iconst (v := (0 : Int32)) hx hb dX3_mayStand_55 (by decide) ?_
      have hr0 := so1 hf
      subst hr0
      rw [← hQ]
      exact W.zret (v := (0 : Int32)) hx hb hr rfl (fun t ht hW => ⟨rfl, ht⟩) (fun _ h => by cases h) dX3_mayStand_56
    · have hf := if_f hf hc13
      refine lv_iconst (v := (1 : Int32)) hx hb dX3_mayStand_51 (by decide) ?_
      refine lv_goto (tgt := 56) hx hb dX3_mayStand_52 (by decide) ?_
      have hr0 := so1 hf
      subst hr0
      rw [← hQ]
      exact W.zret (v := (1 : Int32)) hx hb hr rfl (fun t ht hW => ⟨rfl, ht⟩) (fun _ h => by cases h) dX3_mayStand_56
  have hf := if_f hf hc12
  by_cases hc14 : g0 = (6 : Int32)
  · have hf := if_t hf hc14
    refine lv_tableIn (x := g0) (off := 56) (tgt := 57) hx hb dX3_mayStand_1 (by rw [hc14]; decide) (by rw [hc14]; decide) (by rw [hc14]; decide) (by decide) ?_
    refine lv_aload_n hx hb dX3_mayStand_57 rfl (lv_at hl 2 rfl) ?_
    refine va_get (D := G.1) (ci := 5) (v := .int v_p2_tenants) (C := RX5) (T := TX5) (N := 8) hx hb hts inX5 hown hK hP 0 rfl rfl 5 (by decide) lk52 (fun _ h9 => h9) rfl dX3_mayStand_58 ?_
    refine lv_iconst (v := (4 : Int32)) hx hb dX3_mayStand_61 (by decide) ?_
    refine lv_icmp_ge (tgt := 69) hx hb dX3_mayStand_62 (by decide) (fun hc15 => ?_) (fun hc15 => ?_)
    · have hf := if_t hf hc15
      refine lv_iconst (v := (0 : Int32)) hx hb dX3_mayStand_69 (by decide) ?_
      have hr0 := so1 hf
      subst hr0
      rw [← hQ]
      exact W.zret (v := (0 : Int32)) hx hb hr rfl (fun t ht hW => ⟨rfl, ht⟩) (fun _ h => by cases h) dX3_mayStand_70
    · have hf := if_f hf hc15
      refine lv_iconst (v := (1 : Int32)) hx hb dX3_mayStand_65 (by decide) ?_
      refine lv_goto (tgt := 70) hx hb dX3_mayStand_66 (by decide) ?_
      have hr0 := so1 hf
      subst hr0
      rw [← hQ]
      exact W.zret (v := (1 : Int32)) hx hb hr rfl (fun t ht hW => ⟨rfl, ht⟩) (fun _ h => by cases h) dX3_mayStand_70
  have hf := if_f hf hc14
  by_cases hc16 : g0 = (7 : Int32)
  · have hf := if_t hf hc16
    refine lv_tableIn (x := g0) (off := 70) (tgt := 71) hx hb dX3_mayStand_1 (by rw [hc16]; decide) (by rw [hc16]; decide) (by rw [hc16]; decide) (by decide) ?_
    refine lv_aload_n hx hb dX3_mayStand_71 rfl (lv_at hl 2 rfl) ?_
    refine va_get (D := G.1) (ci := 5) (v := .ref a_p2_leases) (C := RX5) (T := TX5) (N := 8) hx hb hts inX5 hown hK hP 0 rfl rfl 7 (by decide) lk55 (fun _ h9 => h9) rfl dX3_mayStand_72 ?_
    obtain ⟨r17, hu, hf⟩ := bd1_some hf
    refine zRi (va_runV (As := []) (rest := []) hC (c_X6_isFull l G a_p2_leases a_p2_leases_parts (v_p2_leases_most) (v_p2_leases_size) r17 hu) (cwV 0 hts gX3_mayStand_X6_isFull rfl rfl rfl hd_X6_isFull ⟨(Nat.le_of_ble_eq_true rfl), (Nat.le_of_ble_eq_true rfl)⟩) (zPV hE hP [1] rfl 1 rfl rfl) rfl rfl hl.1 rfl (lv_room (Nat.le_of_ble_eq_true rfl)) dX3_mayStand_75 ⟨Nat.zero_le _, Nat.zero_le _⟩) ?_
    refine lv_if_ne (tgt := 85) hx hb dX3_mayStand_78 (by decide) (fun hc18 => ?_) (fun hc18 => ?_)
    · have hf := if_f hf hc18
      refine lv_iconst (v := (0 : Int32)) hx hb dX3_mayStand_85 (by decide) ?_
      have hr0 := so1 hf
      subst hr0
      rw [← hQ]
      exact W.zret (v := (0 : Int32)) hx hb hr rfl (fun t ht hW => ⟨rfl, ht⟩) (fun _ h => by cases h) dX3_mayStand_86
    · have hf := if_t hf hc18
      refine lv_iconst (v := (1 : Int32)) hx hb dX3_mayStand_81 (by decide) ?_
      refine lv_goto (tgt := 86) hx hb dX3_mayStand_82 (by decide) ?_
      have hr0 := so1 hf
      subst hr0
      rw [← hQ]
      exact W.zret (v := (1 : Int32)) hx hb hr rfl (fun t ht hW => ⟨rfl, ht⟩) (fun _ h => by cases h) dX3_mayStand_86
  have hf := if_f hf hc16
  have hthc10 : (g0).toInt ≠ 4 := fun h9 => hc10 (Int32.toInt_inj.mp (h9.trans (by decide)))
  have hthc12 : (g0).toInt ≠ 5 := fun h9 => hc12 (Int32.toInt_inj.mp (h9.trans (by decide)))
  have hthc14 : (g0).toInt ≠ 6 := fun h9 => hc14 (Int32.toInt_inj.mp (h9.trans (by decide)))
  have hthc16 : (g0).toInt ≠ 7 := fun h9 => hc16 (Int32.toInt_inj.mp (h9.trans (by decide)))
  refine lv_tableOut (x := g0) (tgt := 87) hx hb dX3_mayStand_1 (by omega) (by decide) ?_
  refine lv_iconst (v := (0 : Int32)) hx hb dX3_mayStand_87 (by decide) ?_
  have hr0 := so1 hf
  subst hr0
  rw [← hQ]
  exact W.zret (v := (0 : Int32)) hx hb hr rfl (fun t ht hW => ⟨rfl, ht⟩) (fun _ h => by cases h) dX3_mayStand_88
def f_X3_howMany   (g0 : Int32) : Option (Int32) := if g0 = (5 : Int32) then (some ((3 : Int32))) else (if g0 = (7 : Int32) then (some ((5 : Int32))) else (some ((1 : Int32))))
abbrev rm_X3_howMany : Room := { frames := 0, cells := 0, slots := 0, locals := 0 }
set_option maxHeartbeats 4000000 in
set_option maxRecDepth 100000 in
theorem c_X3_howMany (l : Launch) (G : zG) (g0 : Int32) (R0 : Int32) (hf : f_X3_howMany g0 = some R0) : Met l yX3_howMany wsX3_howMany rm_X3_howMany (va_Pc [.int g0] (zR G [])) (zSv (some (.int R0))) 0 0 (fun _ => False) := by
  refine Met.ofW (cc := cX3_howMany) (maxL := 1) (ret := (some .int)) (by decide) rfl ?_
  intro p e s m args below meth c s₁ B hml hv
  obtain ⟨hargs, hP, hE⟩ := hv
  have hx := B.exec
  have hb := B.bytes
  have hr := B.returns
  have hts := atoms_spec (ws := wsX3_howMany) B.pre
  have hown : s.vm.findClass RX3 = some m.cls := findClass_of_methodNamed B.named
  have hlocks := B.notSynchronized
  have hK := hE.1
  have hC : CallFix p m c cX3_howMany 1 s args wsX3_howMany RX3 := ⟨hx, hb, hml, hown, hts⟩
  have hl := lv_entry ([.int g0]) (n := 1) (Nat.le_of_ble_eq_true rfl)
  have hent : entryFrame m args 1 = F0 m 0 ((lg_sl ([.int g0]) ++ List.replicate (1 - (lg_sl ([.int g0])).length) Slot.unset).toArray) [] := by rw [hargs]; exact lg_entry_eq m [.int g0] 1
  refine W.eq hent ?_
  clear hent
  generalize (lg_sl ([.int g0]) ++ List.replicate (1 - (lg_sl ([.int g0])).length) Slot.unset).toArray = ls at hl ⊢
  have hl : lv_has ls 1 [(0, .int g0)] := hl
  generalize hQ : MQ below _ args s 0 0 _ = QQ
  change W p l e rm_X3_howMany s m args below meth c s.heap [] 0 0 QQ _
  unfold f_X3_howMany at hf
  refine lv_iload_n hx hb dX3_howMany_0 rfl (lv_at hl 0 rfl) ?_
  by_cases hc3 : g0 = (5 : Int32)
  · have hf := if_t hf hc3
    refine lv_lookup (x := g0) (off := 27) (tgt := 28) hx hb dX3_howMany_1 (by decide) (by rw [hc3]; decide) (by decide) ?_
    refine lv_iconst (v := (3 : Int32)) hx hb dX3_howMany_28 (by decide) ?_
    have hr0 := so1 hf
    subst hr0
    rw [← hQ]
    exact W.iret (v := (3 : Int32)) hx hb hr (fun t ht hW => ⟨rfl, ht⟩) (fun _ h => by cases h) dX3_howMany_29
  have hf := if_f hf hc3
  by_cases hc4 : g0 = (7 : Int32)
  · have hf := if_t hf hc4
    refine lv_lookup (x := g0) (off := 29) (tgt := 30) hx hb dX3_howMany_1 (by decide) (by rw [hc4]; decide) (by decide) ?_
    refine lv_iconst (v := (5 : Int32)) hx hb dX3_howMany_30 (by decide) ?_
    have hr0 := so1 hf
    subst hr0
    rw [← hQ]
    exact W.iret (v := (5 : Int32)) hx hb hr (fun t ht hW => ⟨rfl, ht⟩) (fun _ h => by cases h) dX3_howMany_31
  have hf := if_f hf hc4
  refine lv_lookup (x := g0) (off := 31) (tgt := 32) hx hb dX3_howMany_1 (by decide) (by rw [show Op.lookupswitch.offset _ _ _ = _ from lv_osw hc3 (by decide), show Op.lookupswitch.offset _ _ _ = _ from lv_osw hc4 (by decide)]; rfl) (by decide) ?_
  refine lv_iconst (v := (1 : Int32)) hx hb dX3_howMany_32 (by decide) ?_
  have hr0 := so1 hf
  subst hr0
  rw [← hQ]
  exact W.iret (v := (1 : Int32)) hx hb hr (fun t ht hW => ⟨rfl, ht⟩) (fun _ h => by cases h) dX3_howMany_33
def f_X3_least_b57    (x3 : Int32) (t0 : Int32) : Option (Int32) := if x3 = (0 : Int32) then (if t0 = (0 : Int32) then (some ((0 : Int32))) else (some ((1 : Int32)))) else (some ((1 : Int32)))
def f_X3_least_b56    (x3 : Int32) : Option (Int32) := f_X3_least_b57 (x3) ((0 : Int32))
def f_X3_least_b40    (x1 : Int32) (x2 : Int32) (t0 : Int32) : Option (Int32) := if x1 = (7 : Int32) then (if x2 = (2 : Int32) then (f_X3_least_b57 (t0) ((1 : Int32))) else (f_X3_least_b56 (t0))) else (f_X3_least_b56 (t0))
def f_X3_least_b39    (x1 : Int32) (x2 : Int32) : Option (Int32) := f_X3_least_b40 (x1) (x2) ((0 : Int32))
def f_X3_least_b25    (x1 : Int32) (x2 : Int32) : Option (Int32) := if x1 = (5 : Int32) then (if x2 = (2 : Int32) then (f_X3_least_b40 (x1) (x2) ((1 : Int32))) else (f_X3_least_b39 (x1) (x2))) else (f_X3_least_b39 (x1) (x2))
def f_X3_least  (v_numbers : (Nat → Int32)) (g1 : Int32) (g2 : Int32) : Option (Int32) := if g1 = (4 : Int32) then (some ((2 : Int32))) else (if g1 = (7 : Int32) then (if g2 = (4 : Int32) then (gd (inB (3 : Int32) 5) (some ((v_numbers ((3 : Int32)).toNatClampNeg)))) else (f_X3_least_b25 (g1) (g2))) else (f_X3_least_b25 (g1) (g2)))
abbrev rm_X3_least : Room := { frames := 0, cells := 0, slots := 0, locals := 0 }
set_option maxHeartbeats 4000000 in
set_option maxRecDepth 100000 in
theorem c_X3_least (l : Launch) (G : zG) (a_this : Nat) (a_this_numbers : Nat) (v_numbers : (Nat → Int32)) (g1 : Int32) (g2 : Int32) (R0 : Int32) (hf : f_X3_least v_numbers g1 g2 = some R0) : Met l yX3_least wsX3_least rm_X3_least (va_Pc [.ref a_this, .int g1, .int g2] (zR G [(a_this, .inr (3, [.ref a_this_numbers])), (a_this_numbers, .inl (G.2.1, 5, .inl v_numbers))])) (zSv (some (.int R0))) 0 0 (fun _ => False) := by
  refine Met.ofW (cc := cX3_least) (maxL := 5) (ret := (some .int)) (by decide) rfl ?_
  intro p e s m args below meth c s₁ B hml hv
  obtain ⟨hargs, hP, hE⟩ := hv
  have hx := B.exec
  have hb := B.bytes
  have hr := B.returns
  have hts := atoms_spec (ws := wsX3_least) B.pre
  have hown : s.vm.findClass RX3 = some m.cls := findClass_of_methodNamed B.named
  have hlocks := B.notSynchronized
  have hK := hE.1
  have hC : CallFix p m c cX3_least 5 s args wsX3_least RX3 := ⟨hx, hb, hml, hown, hts⟩
  have inX3 : ∀ w ∈ wsX30, w ∈ wsX3_least := by decide +kernel
  have lk11 := hts (.fieldLink RX3 11 "SkyLeases$Reader" "numbers" "[I") (by decide +kernel)
  have hl := lv_entry ([.ref a_this, .int g1, .int g2]) (n := 5) (Nat.le_of_ble_eq_true rfl)
  have hent : entryFrame m args 5 = F0 m 0 ((lg_sl ([.ref a_this, .int g1, .int g2]) ++ List.replicate (5 - (lg_sl ([.ref a_this, .int g1, .int g2])).length) Slot.unset).toArray) [] := by rw [hargs]; exact lg_entry_eq m [.ref a_this, .int g1, .int g2] 5
  refine W.eq hent ?_
  clear hent
  generalize (lg_sl ([.ref a_this, .int g1, .int g2]) ++ List.replicate (5 - (lg_sl ([.ref a_this, .int g1, .int g2])).length) Slot.unset).toArray = ls at hl ⊢
  have hl : lv_has ls 5 [(0, .ref a_this), (1, .int g1), (2, .int g2)] := hl
  generalize hQ : MQ below _ args s 0 0 _ = QQ
  change W p l e rm_X3_least s m args below meth c s.heap [] 0 0 QQ _
  have j57 : ∀ (x3 : Int32), ∀ (t0 : Int32), ∀ (ls : Array Slot), lv_has ls 5 [(3, .int x3)] → f_X3_least_b57 x3 t0 = some R0 → W p l e rm_X3_least s m args below meth c s.heap [] 0 0 QQ (F0 m 57 ls [.int t0]) := by
    intro x3 t0 ls hl hf
    unfold f_X3_least_b57 at hf
    refine lv_istore (lv' := [(4, .int t0), (3, .int x3)]) hx hb dX3_least_57 hl (by decide) rfl (fun ls hl => ?_)
    refine lv_iload_n hx hb dX3_least_59 rfl (lv_at hl 1 rfl) ?_
    refine lv_if_ne (tgt := 68) hx hb dX3_least_60 (by decide) (fun hc11 => ?_) (fun hc11 => ?_)
    · have hf := if_f hf hc11
      refine lv_iconst (v := (1 : Int32)) hx hb dX3_least_68 (by decide) ?_
      refine lv_goto (tgt := 73) hx hb dX3_least_69 (by decide) ?_
      have hr0 := so1 hf
      subst hr0
      rw [← hQ]
      exact W.iret (v := (1 : Int32)) hx hb hr (fun t ht hW => ⟨rfl, ht⟩) (fun _ h => by cases h) dX3_least_73
    · have hf := if_t hf hc11
      refine lv_iload hx hb dX3_least_63 (lv_at hl 0 rfl) ?_
      refine lv_if_eq (tgt := 72) hx hb dX3_least_65 (by decide) (fun hc12 => ?_) (fun hc12 => ?_)
      · have hf := if_t hf hc12
        refine lv_iconst (v := (0 : Int32)) hx hb dX3_least_72 (by decide) ?_
        have hr0 := so1 hf
        subst hr0
        rw [← hQ]
        exact W.iret (v := (0 : Int32)) hx hb hr (fun t ht hW => ⟨rfl, ht⟩) (fun _ h => by cases h) dX3_least_73
      · have hf := if_f hf hc12
        refine lv_iconst (v := (1 : Int32)) hx hb dX3_least_68 (by decide) ?_
        refine lv_goto (tgt := 73) hx hb dX3_least_69 (by decide) ?_
        have hr0 := so1 hf
        subst hr0
        rw [← hQ]
        exact W.iret (v := (1 : Int32)) hx hb hr (fun t ht hW => ⟨rfl, ht⟩) (fun _ h => by cases h) dX3_least_73
  have j56 : ∀ (x3 : Int32), ∀ (ls : Array Slot), lv_has ls 5 [(3, .int x3)] → f_X3_least_b56 x3 = some R0 → W p l e rm_X3_least s m args below meth c s.heap [] 0 0 QQ (F0 m 56 ls []) := by
    intro x3 ls hl hf
    unfold f_X3_least_b56 at hf
    refine lv_iconst (v := (0 : Int32)) hx hb dX3_least_56 (by decide) ?_
    exact j57 (x3) ((0 : Int32)) ls (lv_sub hl [0] rfl) hf
  have j40 : ∀ (x1 : Int32), ∀ (x2 : Int32), ∀ (t0 : Int32), ∀ (ls : Array Slot), lv_has ls 5 [(1, .int x1), (2, .int x2)] → f_X3_least_b40 x1 x2 t0 = some R0 → W p l e rm_X3_least s m args below meth c s.heap [] 0 0 QQ (F0 m 40 ls [.int t0]) := by
    intro x1 x2 t0 ls hl hf
    unfold f_X3_least_b40 at hf
    refine lv_istore_n (lv' := [(3, .int t0), (1, .int x1), (2, .int x2)]) hx hb dX3_least_40 rfl hl (by decide) rfl (fun ls hl => ?_)
    refine lv_iload_n hx hb dX3_least_41 rfl (lv_at hl 1 rfl) ?_
    refine lv_bipush (v := (7 : Int32)) hx hb dX3_least_42 (by decide) ?_
    refine lv_icmp_ne (tgt := 56) hx hb dX3_least_44 (by decide) (fun hc13 => ?_) (fun hc13 => ?_)
    · have hf := if_f hf hc13
      exact j56 (t0) ls (lv_sub hl [0] rfl) hf
    · have hf := if_t hf hc13
      refine lv_iload_n hx hb dX3_least_47 rfl (lv_at hl 2 rfl) ?_
      refine lv_iconst (v := (2 : Int32)) hx hb dX3_least_48 (by decide) ?_
      refine lv_icmp_ne (tgt := 56) hx hb dX3_least_49 (by decide) (fun hc14 => ?_) (fun hc14 => ?_)
      · have hf := if_f hf hc14
        exact j56 (t0) ls (lv_sub hl [0] rfl) hf
      · have hf := if_t hf hc14
        refine lv_iconst (v := (1 : Int32)) hx hb dX3_least_52 (by decide) ?_
        refine lv_goto (tgt := 57) hx hb dX3_least_53 (by decide) ?_
        exact j57 (t0) ((1 : Int32)) ls (lv_sub hl [0] rfl) hf
  have j39 : ∀ (x1 : Int32), ∀ (x2 : Int32), ∀ (ls : Array Slot), lv_has ls 5 [(1, .int x1), (2, .int x2)] → f_X3_least_b39 x1 x2 = some R0 → W p l e rm_X3_least s m args below meth c s.heap [] 0 0 QQ (F0 m 39 ls []) := by
    intro x1 x2 ls hl hf
    unfold f_X3_least_b39 at hf
    refine lv_iconst (v := (0 : Int32)) hx hb dX3_least_39 (by decide) ?_
    exact j40 (x1) (x2) ((0 : Int32)) ls (lv_sub hl [0, 1] rfl) hf
  have j25 : ∀ (x1 : Int32), ∀ (x2 : Int32), ∀ (ls : Array Slot), lv_has ls 5 [(1, .int x1), (2, .int x2)] → f_X3_least_b25 x1 x2 = some R0 → W p l e rm_X3_least s m args below meth c s.heap [] 0 0 QQ (F0 m 25 ls []) := by
    intro x1 x2 ls hl hf
    unfold f_X3_least_b25 at hf
    refine lv_iload_n hx hb dX3_least_25 rfl (lv_at hl 0 rfl) ?_
    refine lv_iconst (v := (5 : Int32)) hx hb dX3_least_26 (by decide) ?_
    refine lv_icmp_ne (tgt := 39) hx hb dX3_least_27 (by decide) (fun hc15 => ?_) (fun hc15 => ?_)
    · have hf := if_f hf hc15
      exact j39 (x1) (x2) ls (lv_sub hl [0, 1] rfl) hf
    · have hf := if_t hf hc15
      refine lv_iload_n hx hb dX3_least_30 rfl (lv_at hl 1 rfl) ?_
      refine lv_iconst (v := (2 : Int32)) hx hb dX3_least_31 (by decide) ?_
      refine lv_icmp_ne (tgt := 39) hx hb dX3_least_32 (by decide) (fun hc16 => ?_) (fun hc16 => ?_)
      · have hf := if_f hf hc16
        exact j39 (x1) (x2) ls (lv_sub hl [0, 1] rfl) hf
      · have hf := if_t hf hc16
        refine lv_iconst (v := (1 : Int32)) hx hb dX3_least_35 (by decide) ?_
        refine lv_goto (tgt := 40) hx hb dX3_least_36 (by decide) ?_
        exact j40 (x1) (x2) ((1 : Int32)) ls (lv_sub hl [0, 1] rfl) hf
  unfold f_X3_least at hf
  refine lv_iload_n hx hb dX3_least_0 rfl (lv_at hl 1 rfl) ?_
  refine lv_iconst (v := (4 : Int32)) hx hb dX3_least_1 (by decide) ?_
  refine lv_icmp_ne (tgt := 7) hx hb dX3_least_2 (by decide) (fun hc17 => ?_) (fun hc17 => ?_)
  · have hf := if_f hf hc17
    refine lv_iload_n hx hb dX3_least_7 rfl (lv_at hl 1 rfl) ?_
    refine lv_bipush (v := (7 : Int32)) hx hb dX3_least_8 (by decide) ?_
    refine lv_icmp_ne (tgt := 25) hx hb dX3_least_10 (by decide) (fun hc18 => ?_) (fun hc18 => ?_)
    · have hf := if_f hf hc18
      exact j25 (g1) (g2) ls (lv_sub hl [1, 2] rfl) hf
    · have hf := if_t hf hc18
      refine lv_iload_n hx hb dX3_least_13 rfl (lv_at hl 2 rfl) ?_
      refine lv_iconst (v := (4 : Int32)) hx hb dX3_least_14 (by decide) ?_
      refine lv_icmp_ne (tgt := 25) hx hb dX3_least_15 (by decide) (fun hc19 => ?_) (fun hc19 => ?_)
      · have hf := if_f hf hc19
        exact j25 (g1) (g2) ls (lv_sub hl [1, 2] rfl) hf
      · have hf := if_t hf hc19
        refine lv_aload_n hx hb dX3_least_18 rfl (lv_at hl 0 rfl) ?_
        refine va_get (D := G.1) (ci := 3) (v := .ref a_this_numbers) (C := RX3) (T := TX3) (N := 1) hx hb hts inX3 hown hK hP 0 rfl rfl 0 (by decide) lk11 (fun _ h9 => h9) rfl dX3_least_19 ?_
        refine lv_iconst (v := (3 : Int32)) hx hb dX3_least_22 (by decide) ?_
        obtain ⟨hg20, hf⟩ := gd_some hf
        refine va_iald hx hb hK hP 1 0 rfl rfl (inB_in hg20) dX3_least_23 ?_
        have hr0 := so1 hf
        subst hr0
        rw [← hQ]
        exact W.iret (v := (v_numbers ((3 : Int32)).toNatClampNeg)) hx hb hr (fun t ht hW => ⟨rfl, ht⟩) (fun _ h => by cases h) dX3_least_24
  · have hf := if_t hf hc17
    refine lv_iconst (v := (2 : Int32)) hx hb dX3_least_5 (by decide) ?_
    have hr0 := so1 hf
    subst hr0
    rw [← hQ]
    exact W.iret (v := (2 : Int32)) hx hb hr (fun t ht hW => ⟨rfl, ht⟩) (fun _ h => by cases h) dX3_least_6
def f_X3_mostOfLease  (v_p1_squares : Int32) (v_p1_tenants : Int32) (g0 : Int32) : Option (Int32) := if g0 = (0 : Int32) then (some ((v_p1_tenants - (1 : Int32)))) else (if g0 = (1 : Int32) then (some ((v_p1_squares - (1 : Int32)))) else (if g0 = (2 : Int32) then (some (v_p1_squares)) else (some ((99 : Int32)))))
abbrev rm_X3_mostOfLease : Room := { frames := 0, cells := 0, slots := 0, locals := 0 }
set_option maxHeartbeats 4000000 in
set_option maxRecDepth 100000 in
theorem c_X3_mostOfLease (l : Launch) (G : zG) (a_p1 : Nat) (a_p1_starts : Nat) (a_p1_paces : Nat) (a_p1_brights : Nat) (a_p1_purses : Nat) (a_p1_leases : Nat) (v_p1_squares : Int32) (v_p1_stars : Int32) (v_p1_tenants : Int32) (g0 : Int32) (R0 : Int32) (hf : f_X3_mostOfLease v_p1_squares v_p1_tenants g0 = some R0) : Met l yX3_mostOfLease wsX3_mostOfLease rm_X3_mostOfLease (va_Pc [.int g0, .ref a_p1] (zR G [(a_p1, .inr (5, [.int v_p1_squares, .int v_p1_stars, .ref a_p1_starts, .ref a_p1_paces, .ref a_p1_brights, .int v_p1_tenants, .ref a_p1_purses, .ref a_p1_leases]))])) (zSv (some (.int R0))) 0 0 (fun _ => False) := by
  refine Met.ofW (cc := cX3_mostOfLease) (maxL := 2) (ret := (some .int)) (by decide) rfl ?_
  intro p e s m args below meth c s₁ B hml hv
  obtain ⟨hargs, hP, hE⟩ := hv
  have hx := B.exec
  have hb := B.bytes
  have hr := B.returns
  have hts := atoms_spec (ws := wsX3_mostOfLease) B.pre
  have hown : s.vm.findClass RX3 = some m.cls := findClass_of_methodNamed B.named
  have hlocks := B.notSynchronized
  have hK := hE.1
  have hC : CallFix p m c cX3_mostOfLease 2 s args wsX3_mostOfLease RX3 := ⟨hx, hb, hml, hown, hts⟩
  have inX5 : ∀ w ∈ wsX50, w ∈ wsX3_mostOfLease := by decide +kernel
  have lk52 := hts (.fieldLink RX3 52 "SkyLeases$Sky" "tenants" "I") (by decide +kernel)
  have lk82 := hts (.fieldLink RX3 82 "SkyLeases$Sky" "squares" "I") (by decide +kernel)
  have hl := lv_entry ([.int g0, .ref a_p1]) (n := 2) (Nat.le_of_ble_eq_true rfl)
  have hent : entryFrame m args 2 = F0 m 0 ((lg_sl ([.int g0, .ref a_p1]) ++ List.replicate (2 - (lg_sl ([.int g0, .ref a_p1])).length) Slot.unset).toArray) [] := by rw [hargs]; exact lg_entry_eq m [.int g0, .ref a_p1] 2
  refine W.eq hent ?_
  clear hent
  generalize (lg_sl ([.int g0, .ref a_p1]) ++ List.replicate (2 - (lg_sl ([.int g0, .ref a_p1])).length) Slot.unset).toArray = ls at hl ⊢
  have hl : lv_has ls 2 [(0, .int g0), (1, .ref a_p1)] := hl
  generalize hQ : MQ below _ args s 0 0 _ = QQ
  change W p l e rm_X3_mostOfLease s m args below meth c s.heap [] 0 0 QQ _
  unfold f_X3_mostOfLease at hf
  refine lv_iload_n hx hb dX3_mostOfLease_0 rfl (lv_at hl 0 rfl) ?_
  by_cases hc4 : g0 = (0 : Int32)
  · have hf := if_t hf hc4
    refine lv_tableIn (x := g0) (off := 27) (tgt := 28) hx hb dX3_mostOfLease_1 (by rw [hc4]; decide) (by rw [hc4]; decide) (by rw [hc4]; decide) (by decide) ?_
    refine lv_aload_n hx hb dX3_mostOfLease_28 rfl (lv_at hl 1 rfl) ?_
    refine va_get (D := G.1) (ci := 5) (v := .int v_p1_tenants) (C := RX5) (T := TX5) (N := 8) hx hb hts inX5 hown hK hP 0 rfl rfl 5 (by decide) lk52 (fun _ h9 => h9) rfl dX3_mostOfLease_29 ?_
    refine lv_iconst (v := (1 : Int32)) hx hb dX3_mostOfLease_32 (by decide) ?_
    refine lv_isub hx hb dX3_mostOfLease_33 ?_
    have hr0 := so1 hf
    subst hr0
    rw [← hQ]
    exact W.iret (v := (v_p1_tenants - (1 : Int32))) hx hb hr (fun t ht hW => ⟨rfl, ht⟩) (fun _ h => by cases h) dX3_mostOfLease_34
  have hf := if_f hf hc4
  by_cases hc5 : g0 = (1 : Int32)
  · have hf := if_t hf hc5
    refine lv_tableIn (x := g0) (off := 34) (tgt := 35) hx hb dX3_mostOfLease_1 (by rw [hc5]; decide) (by rw [hc5]; decide) (by rw [hc5]; decide) (by decide) ?_
    refine lv_aload_n hx hb dX3_mostOfLease_35 rfl (lv_at hl 1 rfl) ?_
    refine va_get (D := G.1) (ci := 5) (v := .int v_p1_squares) (C := RX5) (T := TX5) (N := 8) hx hb hts inX5 hown hK hP 0 rfl rfl 0 (by decide) lk82 (fun _ h9 => h9) rfl dX3_mostOfLease_36 ?_
    refine lv_iconst (v := (1 : Int32)) hx hb dX3_mostOfLease_39 (by decide) ?_
    refine lv_isub hx hb dX3_mostOfLease_40 ?_
    have hr0 := so1 hf
    subst hr0
    rw [← hQ]
    exact W.iret (v := (v_p1_squares - (1 : Int32))) hx hb hr (fun t ht hW => ⟨rfl, ht⟩) (fun _ h => by cases h) dX3_mostOfLease_41
  have hf := if_f hf hc5
  by_cases hc6 : g0 = (2 : Int32)
  · have hf := if_t hf hc6
    refine lv_tableIn (x := g0) (off := 41) (tgt := 42) hx hb dX3_mostOfLease_1 (by rw [hc6]; decide) (by rw [hc6]; decide) (by rw [hc6]; decide) (by decide) ?_
    refine lv_aload_n hx hb dX3_mostOfLease_42 rfl (lv_at hl 1 rfl) ?_
    refine va_get (D := G.1) (ci := 5) (v := .int v_p1_squares) (C := RX5) (T := TX5) (N := 8) hx hb hts inX5 hown hK hP 0 rfl rfl 0 (by decide) lk82 (fun _ h9 => h9) rfl dX3_mostOfLease_43 ?_
    have hr0 := so1 hf
    subst hr0
    rw [← hQ]
    exact W.iret (v := v_p1_squares) hx hb hr (fun t ht hW => ⟨rfl, ht⟩) (fun _ h => by cases h) dX3_mostOfLease_46
  have hf := if_f hf hc6
  have hthc4 : (g0).toInt ≠ 0 := fun h9 => hc4 (Int32.toInt_inj.mp (h9.trans (by decide)))
  have hthc5 : (g0).toInt ≠ 1 := fun h9 => hc5 (Int32.toInt_inj.mp (h9.trans (by decide)))
  have hthc6 : (g0).toInt ≠ 2 := fun h9 => hc6 (Int32.toInt_inj.mp (h9.trans (by decide)))
  refine lv_tableOut (x := g0) (tgt := 47) hx hb dX3_mostOfLease_1 (by omega) (by decide) ?_
  refine lv_bipush (v := (99 : Int32)) hx hb dX3_mostOfLease_47 (by decide) ?_
  have hr0 := so1 hf
  subst hr0
  rw [← hQ]
  exact W.iret (v := (99 : Int32)) hx hb hr (fun t ht hW => ⟨rfl, ht⟩) (fun _ h => by cases h) dX3_mostOfLease_49
theorem hd_X3_mostOfLease : yX3_mostOfLease.cls = RX3 ∧ yX3_mostOfLease.cls ≠ "java/lang/invoke/MethodHandle" ∧ yX3_mostOfLease.cls ≠ "java/lang/invoke/VarHandle" ∧ (parseMethodDescriptor yX3_mostOfLease.desc).map (fun d => d.parameters.length) = some 2 := by decide +kernel
def f_X3_most  (v_p2_squares : Int32) (v_p2_tenants : Int32) (g0 : Int32) (g1 : Int32) : Option (Int32) := if g0 = (4 : Int32) then (some ((8 : Int32))) else (if g0 = (5 : Int32) then (if g1 = (0 : Int32) then (some ((v_p2_squares - (1 : Int32)))) else (if g1 = (1 : Int32) then (some ((9 : Int32))) else (some ((9 : Int32))))) else (if g0 = (6 : Int32) then (some ((99 : Int32))) else (if g0 = (7 : Int32) then (bd1 (f_X3_mostOfLease (v_p2_squares) (v_p2_tenants) (g1)) fun r14 => some (r14)) else (some ((99 : Int32))))))
abbrev rm_X3_most : Room := { frames := 1, cells := 0, slots := 0, locals := 21 }
set_option maxHeartbeats 4000000 in
set_option maxRecDepth 100000 in
theorem c_X3_most (l : Launch) (G : zG) (a_p2 : Nat) (a_p2_starts : Nat) (a_p2_paces : Nat) (a_p2_brights : Nat) (a_p2_purses : Nat) (a_p2_leases : Nat) (v_p2_squares : Int32) (v_p2_stars : Int32) (v_p2_tenants : Int32) (g0 : Int32) (g1 : Int32) (R0 : Int32) (hf : f_X3_most v_p2_squares v_p2_tenants g0 g1 = some R0) : Met l yX3_most wsX3_most rm_X3_most (va_Pc [.int g0, .int g1, .ref a_p2] (zR G [(a_p2, .inr (5, [.int v_p2_squares, .int v_p2_stars, .ref a_p2_starts, .ref a_p2_paces, .ref a_p2_brights, .int v_p2_tenants, .ref a_p2_purses, .ref a_p2_leases]))])) (zSv (some (.int R0))) 0 0 (fun _ => False) := by
  refine Met.ofW (cc := cX3_most) (maxL := 3) (ret := (some .int)) (by decide) rfl ?_
  intro p e s m args below meth c s₁ B hml hv
  obtain ⟨hargs, hP, hE⟩ := hv
  have hx := B.exec
  have hb := B.bytes
  have hr := B.returns
  have hts := atoms_spec (ws := wsX3_most) B.pre
  have hown : s.vm.findClass RX3 = some m.cls := findClass_of_methodNamed B.named
  have hlocks := B.notSynchronized
  have hK := hE.1
  have hC : CallFix p m c cX3_most 3 s args wsX3_most RX3 := ⟨hx, hb, hml, hown, hts⟩
  have inX5 : ∀ w ∈ wsX50, w ∈ wsX3_most := by decide +kernel
  have lk82 := hts (.fieldLink RX3 82 "SkyLeases$Sky" "squares" "I") (by decide +kernel)
  have hl := lv_entry ([.int g0, .int g1, .ref a_p2]) (n := 3) (Nat.le_of_ble_eq_true rfl)
  have hent : entryFrame m args 3 = F0 m 0 ((lg_sl ([.int g0, .int g1, .ref a_p2]) ++ List.replicate (3 - (lg_sl ([.int g0, .int g1, .ref a_p2])).length) Slot.unset).toArray) [] := by rw [hargs]; exact lg_entry_eq m [.int g0, .int g1, .ref a_p2] 3
  refine W.eq hent ?_
  clear hent
  generalize (lg_sl ([.int g0, .int g1, .ref a_p2]) ++ List.replicate (3 - (lg_sl ([.int g0, .int g1, .ref a_p2])).length) Slot.unset).toArray = ls at hl ⊢
  have hl : lv_has ls 3 [(0, .int g0), (1, .int g1), (2, .ref a_p2)] := hl
  generalize hQ : MQ below _ args s 0 0 _ = QQ
  change W p l e rm_X3_most s m args below meth c s.heap [] 0 0 QQ _
  unfold f_X3_most at hf
  refine lv_iload_n hx hb dX3_most_0 rfl (lv_at hl 0 rfl) ?_
  by_cases hc8 : g0 = (4 : Int32)
  · have hf := if_t hf hc8
    refine lv_tableIn (x := g0) (off := 31) (tgt := 32) hx hb dX3_most_1 (by rw [hc8]; decide) (by rw [hc8]; decide) (by rw [hc8]; decide) (by decide) ?_
    refine lv_bipush (v := (8 : Int32)) hx hb dX3_most_32 (by decide) ?_
    have hr0 := so1 hf
    subst hr0
    rw [← hQ]
    exact W.iret (v := (8 : Int32)) hx hb hr (fun t ht hW => ⟨rfl, ht⟩) (fun _ h => by cases h) dX3_most_34
  have hf := if_f hf hc8
  by_cases hc9 : g0 = (5 : Int32)
  · have hf := if_t hf hc9
    refine lv_tableIn (x := g0) (off := 34) (tgt := 35) hx hb dX3_most_1 (by rw [hc9]; decide) (by rw [hc9]; decide) (by rw [hc9]; decide) (by decide) ?_
    refine lv_iload_n hx hb dX3_most_35 rfl (lv_at hl 1 rfl) ?_
    refine lv_if_ne (tgt := 48) hx hb dX3_most_36 (by decide) (fun hc10 => ?_) (fun hc10 => ?_)
    · have hf := if_f hf hc10
      refine lv_iload_n hx hb dX3_most_48 rfl (lv_at hl 1 rfl) ?_
      refine lv_iconst (v := (1 : Int32)) hx hb dX3_most_49 (by decide) ?_
      refine lv_icmp_ne (tgt := 58) hx hb dX3_most_50 (by decide) (fun hc11 => ?_) (fun hc11 => ?_)
      · have hf := if_f hf hc11
        refine lv_bipush (v := (9 : Int32)) hx hb dX3_most_58 (by decide) ?_
        have hr0 := so1 hf
        subst hr0
        rw [← hQ]
        exact W.iret (v := (9 : Int32)) hx hb hr (fun t ht hW => ⟨rfl, ht⟩) (fun _ h => by cases h) dX3_most_60
      · have hf := if_t hf hc11
        refine lv_bipush (v := (9 : Int32)) hx hb dX3_most_53 (by decide) ?_
        refine lv_goto (tgt := 60) hx hb dX3_most_55 (by decide) ?_
        have hr0 := so1 hf
        subst hr0
        rw [← hQ]
        exact W.iret (v := (9 : Int32)) hx hb hr (fun t ht hW => ⟨rfl, ht⟩) (fun _ h => by cases h) dX3_most_60
    · have hf := if_t hf hc10
      refine lv_aload_n hx hb dX3_most_39 rfl (lv_at hl 2 rfl) ?_
      refine va_get (D := G.1) (ci := 5) (v := .int v_p2_squares) (C := RX5) (T := TX5) (N := 8) hx hb hts inX5 hown hK hP 0 rfl rfl 0 (by decide) lk82 (fun _ h9 => h9) rfl dX3_most_40 ?_
      refine lv_iconst (v := (1 : Int32)) hx hb dX3_most_43 (by decide) ?_
      refine lv_isub hx hb dX3_most_44 ?_
      refine lv_goto (tgt := 60) hx hb dX3_most_45 (by decide) ?_
      have hr0 := so1 hf
      subst hr0
      rw [← hQ]
      exact W.iret (v := (v_p2_squares - (1 : Int32))) hx hb hr (fun t ht hW => ⟨rfl, ht⟩) (fun _ h => by cases h) dX3_most_60
  have hf := if_f hf hc9
  by_cases hc12 : g0 = (6 : Int32)
  · have hf := if_t hf hc12
    refine lv_tableIn (x := g0) (off := 66) (tgt := 67) hx hb dX3_most_1 (by rw [hc12]; decide) (by rw [hc12]; decide) (by rw [hc12]; decide) (by decide) ?_
    refine lv_bipush (v := (99 : Int32)) hx hb dX3_most_67 (by decide) ?_
    have hr0 := so1 hf
    subst hr0
    rw [← hQ]
    exact W.iret (v := (99 : Int32)) hx hb hr (fun t ht hW => ⟨rfl, ht⟩) (fun _ h => by cases h) dX3_most_69
  have hf := if_f hf hc12
  by_cases hc13 : g0 = (7 : Int32)
  · have hf := if_t hf hc13
    refine lv_tableIn (x := g0) (off := 60) (tgt := 61) hx hb dX3_most_1 (by rw [hc13]; decide) (by rw [hc13]; decide) (by rw [hc13]; decide) (by decide) ?_
    refine lv_iload_n hx hb dX3_most_61 rfl (lv_at hl 1 rfl) ?_
    refine lv_aload_n hx hb dX3_most_62 rfl (lv_at hl 2 rfl) ?_
    obtain ⟨r14, hu, hf⟩ := bd1_some hf
    refine zRi (va_runS (As := [.int g1, .ref a_p2]) (rest := []) hC (c_X3_mostOfLease l G a_p2 a_p2_starts a_p2_paces a_p2_brights a_p2_purses a_p2_leases (v_p2_squares) (v_p2_stars) (v_p2_tenants) (g1) r14 hu) (va_cwS 2 hts gX3_most_X3_mostOfLease rfl rfl rfl hd_X3_mostOfLease.2 ⟨(Nat.le_of_ble_eq_true rfl), (Nat.le_of_ble_eq_true rfl)⟩) (zPS hE hP [0] rfl) rfl rfl hl.1 rfl (lv_room (Nat.le_of_ble_eq_true rfl)) dX3_most_63 ⟨Nat.zero_le _, Nat.zero_le _⟩) ?_
    have hr0 := so1 hf
    subst hr0
    rw [← hQ]
    exact W.iret (v := r14) hx hb hr (fun t ht hW => ⟨rfl, ht⟩) (fun _ h => by cases h) dX3_most_66
  have hf := if_f hf hc13
  have hthc8 : (g0).toInt ≠ 4 := fun h9 => hc8 (Int32.toInt_inj.mp (h9.trans (by decide)))
  have hthc9 : (g0).toInt ≠ 5 := fun h9 => hc9 (Int32.toInt_inj.mp (h9.trans (by decide)))
  have hthc12 : (g0).toInt ≠ 6 := fun h9 => hc12 (Int32.toInt_inj.mp (h9.trans (by decide)))
  have hthc13 : (g0).toInt ≠ 7 := fun h9 => hc13 (Int32.toInt_inj.mp (h9.trans (by decide)))
  refine lv_tableOut (x := g0) (tgt := 67) hx hb dX3_most_1 (by omega) (by decide) ?_
  refine lv_bipush (v := (99 : Int32)) hx hb dX3_most_67 (by decide) ?_
  have hr0 := so1 hf
  subst hr0
  rw [← hQ]
  exact W.iret (v := (99 : Int32)) hx hb hr (fun t ht hW => ⟨rfl, ht⟩) (fun _ h => by cases h) dX3_most_69
def f_X7_isWord_s0_b20 (v_place : Int32) (v_bytes : (Nat → Int32))   : Nat → Int32 → Option (Int32)
  | 0, _ => none
  | n20 + 1, x2 => if (3 : Int32) ≤ x2 then (some ((1 : Int32))) else (gd (inB (v_place + x2) 300) (gd (inB x2 3) (if (v_bytes ((v_place + x2)).toNatClampNeg) = (zch 0 x2) then (f_X7_isWord_s0_b20 v_place v_bytes n20 ((x2 + (1 : Int32)))) else (some ((0 : Int32))))))
def f_X7_isWord_s0  (v_place : Int32) (v_next : Int32) (v_bytes : (Nat → Int32))  : Option (Int32) := if (v_next - v_place) = (3 : Int32) then (f_X7_isWord_s0_b20 v_place v_bytes zF ((0 : Int32))) else (some ((0 : Int32)))
abbrev rm_X7_isWord_s0 : Room := { frames := 5, cells := 0, slots := 0, locals := 85 }
set_option maxHeartbeats 4000000 in
set_option maxRecDepth 100000 in
theorem c_X7_isWord_s0 (l : Launch) (G : zG) (KV : zKV) (a_this : Nat) (a_this_bytes : Nat) (v_length : Int32) (v_token : Int32) (v_place : Int32) (v_number : Int32) (v_next : Int32) (v_bytes : (Nat → Int32)) (R0 : Int32) (hf : f_X7_isWord_s0 v_place v_next v_bytes = some R0) : Met l yX7_isWord wsX7_isWord rm_X7_isWord_s0 (va_Pc [.ref a_this, .ref (KV.1 0)] (zRs G KV [(a_this, .inr (7, [.ref a_this_bytes, .int v_length, .int v_token, .int v_place, .int v_number, .int v_next])), (a_this_bytes, .inl (G.2.2.1, 300, .inl v_bytes))])) (zSv (some (.int R0))) 0 0 (fun _ => False) := by
  refine Met.ofW (cc := cX7_isWord) (maxL := 3) (ret := (some .boolean)) (by decide) rfl ?_
  intro p e s m args below meth c s₁ B hml hv
  obtain ⟨hargs, ⟨hP, hE⟩, hZ⟩ := hv
  have hS : va_S (fun _ => False) s.heap s.heap [] := va_S.rf
  have hx := B.exec
  have hb := B.bytes
  have hr := B.returns
  have hts := atoms_spec (ws := wsX7_isWord) B.pre
  have hown : s.vm.findClass RX7 = some m.cls := findClass_of_methodNamed B.named
  have hlocks := B.notSynchronized
  have hK := hE.1
  have hC : CallFix p m c cX7_isWord 3 s args wsX7_isWord RX7 := ⟨hx, hb, hml, hown, hts⟩
  have inX7 : ∀ w ∈ wsX70, w ∈ wsX7_isWord := by decide +kernel
  have lk9 := hts (.fieldLink RX7 9 "SkyLeases$Text" "bytes" "[C") (by decide +kernel)
  have lk22 := hts (.fieldLink RX7 22 "SkyLeases$Text" "place" "I") (by decide +kernel)
  have lk28 := hts (.fieldLink RX7 28 "SkyLeases$Text" "next" "I") (by decide +kernel)
  have hl := lv_entry ([.ref a_this, .ref (KV.1 0)]) (n := 3) (Nat.le_of_ble_eq_true rfl)
  have hent : entryFrame m args 3 = F0 m 0 ((lg_sl ([.ref a_this, .ref (KV.1 0)]) ++ List.replicate (3 - (lg_sl ([.ref a_this, .ref (KV.1 0)])).length) Slot.unset).toArray) [] := by rw [hargs]; exact lg_entry_eq m [.ref a_this, .ref (KV.1 0)] 3
  refine W.eq hent ?_
  clear hent
  generalize (lg_sl ([.ref a_this, .ref (KV.1 0)]) ++ List.replicate (3 - (lg_sl ([.ref a_this, .ref (KV.1 0)])).length) Slot.unset).toArray = ls at hl ⊢
  have hl : lv_has ls 3 [(0, .ref a_this), (1, .ref (KV.1 0))] := hl
  generalize hQ : MQ below _ args s 0 0 _ = QQ
  change W p l e rm_X7_isWord_s0 s m args below meth c s.heap [] 0 0 QQ _
  have j20 : ∀ (nn : Nat), ∀ (x2 : Int32), ∀ (ls : Array Slot), lv_has ls 3 [(0, .ref a_this), (1, .ref (KV.1 0)), (2, .int x2)] → f_X7_isWord_s0_b20 v_place v_bytes nn x2 = some R0 → W p l e rm_X7_isWord_s0 s m args below meth c s.heap [] 0 0 QQ (F0 m 20 ls []) := by
    intro nn
    induction nn with
    | zero =>
      intro x2 ls hl hf
      rw [f_X7_isWord_s0_b20] at hf
      cases hf
    | succ n20 ih =>
      intro x2 ls hl hf
      rw [f_X7_isWord_s0_b20] at hf
      refine lv_iload_n hx hb dX7_isWord_20 rfl (lv_at hl 2 rfl) ?_
      refine lv_aload_n hx hb dX7_isWord_21 rfl (lv_at hl 1 rfl) ?_
      refine zRi (va_runV (As := []) (rest := [.int x2]) hC (c_len l G KV 0 (by decide) (3 : Int32) (by decide)) (cwV 0 hts gX7_isWord_J0_length_8abf5 rfl rfl rfl hd_J0_length_8abf5 ⟨(Nat.le_of_ble_eq_true rfl), (Nat.le_of_ble_eq_true rfl)⟩) (zPVk hE hZ hS (by decide)) rfl rfl hl.1 rfl (lv_room (Nat.le_of_ble_eq_true rfl)) dX7_isWord_22 ⟨Nat.zero_le _, Nat.zero_le _⟩) ?_
      refine lv_icmp_ge (tgt := 55) hx hb dX7_isWord_25 (by decide) (fun hc6 => ?_) (fun hc6 => ?_)
      · have hf := if_t hf hc6
        refine lv_iconst (v := (1 : Int32)) hx hb dX7_isWord_55 (by decide) ?_
        have hr0 := so1 hf
        subst hr0
        rw [← hQ]
        exact W.zret (v := (1 : Int32)) hx hb hr rfl (fun t ht hW => ⟨rfl, ht⟩) (fun _ h => by cases h) dX7_isWord_56
      · have hf := if_f hf hc6
        refine lv_aload_n hx hb dX7_isWord_28 rfl (lv_at hl 0 rfl) ?_
        refine va_get (D := G.1) (ci := 7) (v := .ref a_this_bytes) (C := RX7) (T := TX7) (N := 6) hx hb hts inX7 hown hK hP 0 rfl rfl 0 (by decide) lk9 (fun _ h9 => h9) rfl dX7_isWord_29 ?_
        refine lv_aload_n hx hb dX7_isWord_32 rfl (lv_at hl 0 rfl) ?_
        refine va_get (D := G.1) (ci := 7) (v := .int v_place) (C := RX7) (T := TX7) (N := 6) hx hb hts inX7 hown hK hP 0 rfl rfl 3 (by decide) lk22 (fun _ h9 => h9) rfl dX7_isWord_33 ?_
        refine lv_iload_n hx hb dX7_isWord_36 rfl (lv_at hl 2 rfl) ?_
        refine lv_iadd hx hb dX7_isWord_37 ?_
        obtain ⟨hg7, hf⟩ := gd_some hf
        refine va_cald hx hb hK hP 1 1 rfl rfl (inB_in hg7) dX7_isWord_38 ?_
        refine lv_aload_n hx hb dX7_isWord_39 rfl (lv_at hl 1 rfl) ?_
        refine lv_iload_n hx hb dX7_isWord_40 rfl (lv_at hl 2 rfl) ?_
        obtain ⟨hg8, hf⟩ := gd_some hf
        refine zRi (va_runV (As := [.int x2]) (rest := [.int (v_bytes ((v_place + x2)).toNatClampNeg)]) hC (c_chr l G KV 0 (by decide) x2 (inB_in hg8)) (cwV 1 hts gX7_isWord_J0_charAt_5068e rfl rfl rfl hd_J0_charAt_5068e ⟨(Nat.le_of_ble_eq_true rfl), (Nat.le_of_ble_eq_true rfl)⟩) (zPVk hE hZ hS (by decide)) rfl rfl hl.1 rfl (lv_room (Nat.le_of_ble_eq_true rfl)) dX7_isWord_41 ⟨Nat.zero_le _, Nat.zero_le _⟩) ?_
        refine lv_icmp_eq (tgt := 49) hx hb dX7_isWord_44 (by decide) (fun hc9 => ?_) (fun hc9 => ?_)
        · have hf := if_t hf hc9
          refine lv_iinc (v := (x2 + (1 : Int32))) (lv' := [(2, .int (x2 + (1 : Int32))), (0, .ref a_this), (1, .ref (KV.1 0))]) hx hb dX7_isWord_49 hl (k := 2) rfl rfl (by decide) rfl (fun ls hl => ?_)
          refine lv_goto (tgt := 20) hx hb dX7_isWord_52 (by decide) ?_
          exact ih ((x2 + (1 : Int32))) ls (lv_sub hl [1, 2, 0] rfl) hf
        · have hf := if_f hf hc9
          refine lv_iconst (v := (0 : Int32)) hx hb dX7_isWord_47 (by decide) ?_
          have hr0 := so1 hf
          subst hr0
          rw [← hQ]
          exact W.zret (v := (0 : Int32)) hx hb hr rfl (fun t ht hW => ⟨rfl, ht⟩) (fun _ h => by cases h) dX7_isWord_48
  unfold f_X7_isWord_s0 at hf
  refine lv_aload_n hx hb dX7_isWord_0 rfl (lv_at hl 0 rfl) ?_
  refine va_get (D := G.1) (ci := 7) (v := .int v_next) (C := RX7) (T := TX7) (N := 6) hx hb hts inX7 hown hK hP 0 rfl rfl 5 (by decide) lk28 (fun _ h9 => h9) rfl dX7_isWord_1 ?_
  refine lv_aload_n hx hb dX7_isWord_4 rfl (lv_at hl 0 rfl) ?_
  refine va_get (D := G.1) (ci := 7) (v := .int v_place) (C := RX7) (T := TX7) (N := 6) hx hb hts inX7 hown hK hP 0 rfl rfl 3 (by decide) lk22 (fun _ h9 => h9) rfl dX7_isWord_5 ?_
  refine lv_isub hx hb dX7_isWord_8 ?_
  refine lv_aload_n hx hb dX7_isWord_9 rfl (lv_at hl 1 rfl) ?_
  refine zRi (va_runV (As := []) (rest := [.int (v_next - v_place)]) hC (c_len l G KV 0 (by decide) (3 : Int32) (by decide)) (cwV 0 hts gX7_isWord_J0_length_8abf5 rfl rfl rfl hd_J0_length_8abf5 ⟨(Nat.le_of_ble_eq_true rfl), (Nat.le_of_ble_eq_true rfl)⟩) (zPVk hE hZ hS (by decide)) rfl rfl hl.1 rfl (lv_room (Nat.le_of_ble_eq_true rfl)) dX7_isWord_10 ⟨Nat.zero_le _, Nat.zero_le _⟩) ?_
  refine lv_icmp_eq (tgt := 18) hx hb dX7_isWord_13 (by decide) (fun hc10 => ?_) (fun hc10 => ?_)
  · have hf := if_t hf hc10
    refine lv_iconst (v := (0 : Int32)) hx hb dX7_isWord_18 (by decide) ?_
    refine lv_istore_n (lv' := [(2, .int (0 : Int32)), (0, .ref a_this), (1, .ref (KV.1 0))]) hx hb dX7_isWord_19 rfl hl (by decide) rfl (fun ls hl => ?_)
    exact j20 zF ((0 : Int32)) ls (lv_sub hl [1, 2, 0] rfl) hf
  · have hf := if_f hf hc10
    refine lv_iconst (v := (0 : Int32)) hx hb dX7_isWord_16 (by decide) ?_
    have hr0 := so1 hf
    subst hr0
    rw [← hQ]
    exact W.zret (v := (0 : Int32)) hx hb hr rfl (fun t ht hW => ⟨rfl, ht⟩) (fun _ h => by cases h) dX7_isWord_17
def f_X7_isWord_s1_b20 (v_place : Int32) (v_bytes : (Nat → Int32))   : Nat → Int32 → Option (Int32)
  | 0, _ => none
  | n20 + 1, x2 => if (4 : Int32) ≤ x2 then (some ((1 : Int32))) else (gd (inB (v_place + x2) 300) (gd (inB x2 4) (if (v_bytes ((v_place + x2)).toNatClampNeg) = (zch 1 x2) then (f_X7_isWord_s1_b20 v_place v_bytes n20 ((x2 + (1 : Int32)))) else (some ((0 : Int32))))))
def f_X7_isWord_s1  (v_place : Int32) (v_next : Int32) (v_bytes : (Nat → Int32))  : Option (Int32) := if (v_next - v_place) = (4 : Int32) then (f_X7_isWord_s1_b20 v_place v_bytes zF ((0 : Int32))) else (some ((0 : Int32)))
abbrev rm_X7_isWord_s1 : Room := { frames := 5, cells := 0, slots := 0, locals := 85 }
set_option maxHeartbeats 4000000 in
set_option maxRecDepth 100000 in
theorem c_X7_isWord_s1 (l : Launch) (G : zG) (KV : zKV) (a_this : Nat) (a_this_bytes : Nat) (v_length : Int32) (v_token : Int32) (v_place : Int32) (v_number : Int32) (v_next : Int32) (v_bytes : (Nat → Int32)) (R0 : Int32) (hf : f_X7_isWord_s1 v_place v_next v_bytes = some R0) : Met l yX7_isWord wsX7_isWord rm_X7_isWord_s1 (va_Pc [.ref a_this, .ref (KV.1 1)] (zRs G KV [(a_this, .inr (7, [.ref a_this_bytes, .int v_length, .int v_token, .int v_place, .int v_number, .int v_next])), (a_this_bytes, .inl (G.2.2.1, 300, .inl v_bytes))])) (zSv (some (.int R0))) 0 0 (fun _ => False) := by
  refine Met.ofW (cc := cX7_isWord) (maxL := 3) (ret := (some .boolean)) (by decide) rfl ?_
  intro p e s m args below meth c s₁ B hml hv
  obtain ⟨hargs, ⟨hP, hE⟩, hZ⟩ := hv
  have hS : va_S (fun _ => False) s.heap s.heap [] := va_S.rf
  have hx := B.exec
  have hb := B.bytes
  have hr := B.returns
  have hts := atoms_spec (ws := wsX7_isWord) B.pre
  have hown : s.vm.findClass RX7 = some m.cls := findClass_of_methodNamed B.named
  have hlocks := B.notSynchronized
  have hK := hE.1
  have hC : CallFix p m c cX7_isWord 3 s args wsX7_isWord RX7 := ⟨hx, hb, hml, hown, hts⟩
  have inX7 : ∀ w ∈ wsX70, w ∈ wsX7_isWord := by decide +kernel
  have lk9 := hts (.fieldLink RX7 9 "SkyLeases$Text" "bytes" "[C") (by decide +kernel)
  have lk22 := hts (.fieldLink RX7 22 "SkyLeases$Text" "place" "I") (by decide +kernel)
  have lk28 := hts (.fieldLink RX7 28 "SkyLeases$Text" "next" "I") (by decide +kernel)
  have hl := lv_entry ([.ref a_this, .ref (KV.1 1)]) (n := 3) (Nat.le_of_ble_eq_true rfl)
  have hent : entryFrame m args 3 = F0 m 0 ((lg_sl ([.ref a_this, .ref (KV.1 1)]) ++ List.replicate (3 - (lg_sl ([.ref a_this, .ref (KV.1 1)])).length) Slot.unset).toArray) [] := by rw [hargs]; exact lg_entry_eq m [.ref a_this, .ref (KV.1 1)] 3
  refine W.eq hent ?_
  clear hent
  generalize (lg_sl ([.ref a_this, .ref (KV.1 1)]) ++ List.replicate (3 - (lg_sl ([.ref a_this, .ref (KV.1 1)])).length) Slot.unset).toArray = ls at hl ⊢
  have hl : lv_has ls 3 [(0, .ref a_this), (1, .ref (KV.1 1))] := hl
  generalize hQ : MQ below _ args s 0 0 _ = QQ
  change W p l e rm_X7_isWord_s1 s m args below meth c s.heap [] 0 0 QQ _
  have j20 : ∀ (nn : Nat), ∀ (x2 : Int32), ∀ (ls : Array Slot), lv_has ls 3 [(0, .ref a_this), (1, .ref (KV.1 1)), (2, .int x2)] → f_X7_isWord_s1_b20 v_place v_bytes nn x2 = some R0 → W p l e rm_X7_isWord_s1 s m args below meth c s.heap [] 0 0 QQ (F0 m 20 ls []) := by
    intro nn
    induction nn with
    | zero =>
      intro x2 ls hl hf
      rw [f_X7_isWord_s1_b20] at hf
      cases hf
    | succ n20 ih =>
      intro x2 ls hl hf
      rw [f_X7_isWord_s1_b20] at hf
      refine lv_iload_n hx hb dX7_isWord_20 rfl (lv_at hl 2 rfl) ?_
      refine lv_aload_n hx hb dX7_isWord_21 rfl (lv_at hl 1 rfl) ?_
      refine zRi (va_runV (As := []) (rest := [.int x2]) hC (c_len l G KV 1 (by decide) (4 : Int32) (by decide)) (cwV 0 hts gX7_isWord_J0_length_8abf5 rfl rfl rfl hd_J0_length_8abf5 ⟨(Nat.le_of_ble_eq_true rfl), (Nat.le_of_ble_eq_true rfl)⟩) (zPVk hE hZ hS (by decide)) rfl rfl hl.1 rfl (lv_room (Nat.le_of_ble_eq_true rfl)) dX7_isWord_22 ⟨Nat.zero_le _, Nat.zero_le _⟩) ?_
      refine lv_icmp_ge (tgt := 55) hx hb dX7_isWord_25 (by decide) (fun hc6 => ?_) (fun hc6 => ?_)
      · have hf := if_t hf hc6
        refine lv_iconst (v := (1 : Int32)) hx hb dX7_isWord_55 (by decide) ?_
        have hr0 := so1 hf
        subst hr0
        rw [← hQ]
        exact W.zret (v := (1 : Int32)) hx hb hr rfl (fun t ht hW => ⟨rfl, ht⟩) (fun _ h => by cases h) dX7_isWord_56
      · have hf := if_f hf hc6
        refine lv_aload_n hx hb dX7_isWord_28 rfl (lv_at hl 0 rfl) ?_
        refine va_get (D := G.1) (ci := 7) (v := .ref a_this_bytes) (C := RX7) (T := TX7) (N := 6) hx hb hts inX7 hown hK hP 0 rfl rfl 0 (by decide) lk9 (fun _ h9 => h9) rfl dX7_isWord_29 ?_
        refine lv_aload_n hx hb dX7_isWord_32 rfl (lv_at hl 0 rfl) ?_
        refine va_get (D := G.1) (ci := 7) (v := .int v_place) (C := RX7) (T := TX7) (N := 6) hx hb hts inX7 hown hK hP 0 rfl rfl 3 (by decide) lk22 (fun _ h9 => h9) rfl dX7_isWord_33 ?_
        refine lv_iload_n hx hb dX7_isWord_36 rfl (lv_at hl 2 rfl) ?_
        refine lv_iadd hx hb dX7_isWord_37 ?_
        obtain ⟨hg7, hf⟩ := gd_some hf
        refine va_cald hx hb hK hP 1 1 rfl rfl (inB_in hg7) dX7_isWord_38 ?_
        refine lv_aload_n hx hb dX7_isWord_39 rfl (lv_at hl 1 rfl) ?_
        refine lv_iload_n hx hb dX7_isWord_40 rfl (lv_at hl 2 rfl) ?_
        obtain ⟨hg8, hf⟩ := gd_some hf
        refine zRi (va_runV (As := [.int x2]) (rest := [.int (v_bytes ((v_place + x2)).toNatClampNeg)]) hC (c_chr l G KV 1 (by decide) x2 (inB_in hg8)) (cwV 1 hts gX7_isWord_J0_charAt_5068e rfl rfl rfl hd_J0_charAt_5068e ⟨(Nat.le_of_ble_eq_true rfl), (Nat.le_of_ble_eq_true rfl)⟩) (zPVk hE hZ hS (by decide)) rfl rfl hl.1 rfl (lv_room (Nat.le_of_ble_eq_true rfl)) dX7_isWord_41 ⟨Nat.zero_le _, Nat.zero_le _⟩) ?_
        refine lv_icmp_eq (tgt := 49) hx hb dX7_isWord_44 (by decide) (fun hc9 => ?_) (fun hc9 => ?_)
        · have hf := if_t hf hc9
          refine lv_iinc (v := (x2 + (1 : Int32))) (lv' := [(2, .int (x2 + (1 : Int32))), (0, .ref a_this), (1, .ref (KV.1 1))]) hx hb dX7_isWord_49 hl (k := 2) rfl rfl (by decide) rfl (fun ls hl => ?_)
          refine lv_goto (tgt := 20) hx hb dX7_isWord_52 (by decide) ?_
          exact ih ((x2 + (1 : Int32))) ls (lv_sub hl [1, 2, 0] rfl) hf
        · have hf := if_f hf hc9
          refine lv_iconst (v := (0 : Int32)) hx hb dX7_isWord_47 (by decide) ?_
          have hr0 := so1 hf
          subst hr0
          rw [← hQ]
          exact W.zret (v := (0 : Int32)) hx hb hr rfl (fun t ht hW => ⟨rfl, ht⟩) (fun _ h => by cases h) dX7_isWord_48
  unfold f_X7_isWord_s1 at hf
  refine lv_aload_n hx hb dX7_isWord_0 rfl (lv_at hl 0 rfl) ?_
  refine va_get (D := G.1) (ci := 7) (v := .int v_next) (C := RX7) (T := TX7) (N := 6) hx hb hts inX7 hown hK hP 0 rfl rfl 5 (by decide) lk28 (fun _ h9 => h9) rfl dX7_isWord_1 ?_
  refine lv_aload_n hx hb dX7_isWord_4 rfl (lv_at hl 0 rfl) ?_
  refine va_get (D := G.1) (ci := 7) (v := .int v_place) (C := RX7) (T := TX7) (N := 6) hx hb hts inX7 hown hK hP 0 rfl rfl 3 (by decide) lk22 (fun _ h9 => h9) rfl dX7_isWord_5 ?_
  refine lv_isub hx hb dX7_isWord_8 ?_
  refine lv_aload_n hx hb dX7_isWord_9 rfl (lv_at hl 1 rfl) ?_
  refine zRi (va_runV (As := []) (rest := [.int (v_next - v_place)]) hC (c_len l G KV 1 (by decide) (4 : Int32) (by decide)) (cwV 0 hts gX7_isWord_J0_length_8abf5 rfl rfl rfl hd_J0_length_8abf5 ⟨(Nat.le_of_ble_eq_true rfl), (Nat.le_of_ble_eq_true rfl)⟩) (zPVk hE hZ hS (by decide)) rfl rfl hl.1 rfl (lv_room (Nat.le_of_ble_eq_true rfl)) dX7_isWord_10 ⟨Nat.zero_le _, Nat.zero_le _⟩) ?_
  refine lv_icmp_eq (tgt := 18) hx hb dX7_isWord_13 (by decide) (fun hc10 => ?_) (fun hc10 => ?_)
  · have hf := if_t hf hc10
    refine lv_iconst (v := (0 : Int32)) hx hb dX7_isWord_18 (by decide) ?_
    refine lv_istore_n (lv' := [(2, .int (0 : Int32)), (0, .ref a_this), (1, .ref (KV.1 1))]) hx hb dX7_isWord_19 rfl hl (by decide) rfl (fun ls hl => ?_)
    exact j20 zF ((0 : Int32)) ls (lv_sub hl [1, 2, 0] rfl) hf
  · have hf := if_f hf hc10
    refine lv_iconst (v := (0 : Int32)) hx hb dX7_isWord_16 (by decide) ?_
    have hr0 := so1 hf
    subst hr0
    rw [← hQ]
    exact W.zret (v := (0 : Int32)) hx hb hr rfl (fun t ht hW => ⟨rfl, ht⟩) (fun _ h => by cases h) dX7_isWord_17
def f_X7_isWord_s2_b20 (v_place : Int32) (v_bytes : (Nat → Int32))   : Nat → Int32 → Option (Int32)
  | 0, _ => none
  | n20 + 1, x2 => if (6 : Int32) ≤ x2 then (some ((1 : Int32))) else (gd (inB (v_place + x2) 300) (gd (inB x2 6) (if (v_bytes ((v_place + x2)).toNatClampNeg) = (zch 2 x2) then (f_X7_isWord_s2_b20 v_place v_bytes n20 ((x2 + (1 : Int32)))) else (some ((0 : Int32))))))
def f_X7_isWord_s2  (v_place : Int32) (v_next : Int32) (v_bytes : (Nat → Int32))  : Option (Int32) := if (v_next - v_place) = (6 : Int32) then (f_X7_isWord_s2_b20 v_place v_bytes zF ((0 : Int32))) else (some ((0 : Int32)))
abbrev rm_X7_isWord_s2 : Room := { frames := 5, cells := 0, slots := 0, locals := 85 }
set_option maxHeartbeats 4000000 in
set_option maxRecDepth 100000 in
theorem c_X7_isWord_s2 (l : Launch) (G : zG) (KV : zKV) (a_this : Nat) (a_this_bytes : Nat) (v_length : Int32) (v_token : Int32) (v_place : Int32) (v_number : Int32) (v_next : Int32) (v_bytes : (Nat → Int32)) (R0 : Int32) (hf : f_X7_isWord_s2 v_place v_next v_bytes = some R0) : Met l yX7_isWord wsX7_isWord rm_X7_isWord_s2 (va_Pc [.ref a_this, .ref (KV.1 2)] (zRs G KV [(a_this, .inr (7, [.ref a_this_bytes, .int v_length, .int v_token, .int v_place, .int v_number, .int v_next])), (a_this_bytes, .inl (G.2.2.1, 300, .inl v_bytes))])) (zSv (some (.int R0))) 0 0 (fun _ => False) := by
  refine Met.ofW (cc := cX7_isWord) (maxL := 3) (ret := (some .boolean)) (by decide) rfl ?_
  intro p e s m args below meth c s₁ B hml hv
  obtain ⟨hargs, ⟨hP, hE⟩, hZ⟩ := hv
  have hS : va_S (fun _ => False) s.heap s.heap [] := va_S.rf
  have hx := B.exec
  have hb := B.bytes
  have hr := B.returns
  have hts := atoms_spec (ws := wsX7_isWord) B.pre
  have hown : s.vm.findClass RX7 = some m.cls := findClass_of_methodNamed B.named
  have hlocks := B.notSynchronized
  have hK := hE.1
  have hC : CallFix p m c cX7_isWord 3 s args wsX7_isWord RX7 := ⟨hx, hb, hml, hown, hts⟩
  have inX7 : ∀ w ∈ wsX70, w ∈ wsX7_isWord := by decide +kernel
  have lk9 := hts (.fieldLink RX7 9 "SkyLeases$Text" "bytes" "[C") (by decide +kernel)
  have lk22 := hts (.fieldLink RX7 22 "SkyLeases$Text" "place" "I") (by decide +kernel)
  have lk28 := hts (.fieldLink RX7 28 "SkyLeases$Text" "next" "I") (by decide +kernel)
  have hl := lv_entry ([.ref a_this, .ref (KV.1 2)]) (n := 3) (Nat.le_of_ble_eq_true rfl)
  have hent : entryFrame m args 3 = F0 m 0 ((lg_sl ([.ref a_this, .ref (KV.1 2)]) ++ List.replicate (3 - (lg_sl ([.ref a_this, .ref (KV.1 2)])).length) Slot.unset).toArray) [] := by rw [hargs]; exact lg_entry_eq m [.ref a_this, .ref (KV.1 2)] 3
  refine W.eq hent ?_
  clear hent
  generalize (lg_sl ([.ref a_this, .ref (KV.1 2)]) ++ List.replicate (3 - (lg_sl ([.ref a_this, .ref (KV.1 2)])).length) Slot.unset).toArray = ls at hl ⊢
  have hl : lv_has ls 3 [(0, .ref a_this), (1, .ref (KV.1 2))] := hl
  generalize hQ : MQ below _ args s 0 0 _ = QQ
  change W p l e rm_X7_isWord_s2 s m args below meth c s.heap [] 0 0 QQ _
  have j20 : ∀ (nn : Nat), ∀ (x2 : Int32), ∀ (ls : Array Slot), lv_has ls 3 [(0, .ref a_this), (1, .ref (KV.1 2)), (2, .int x2)] → f_X7_isWord_s2_b20 v_place v_bytes nn x2 = some R0 → W p l e rm_X7_isWord_s2 s m args below meth c s.heap [] 0 0 QQ (F0 m 20 ls []) := by
    intro nn
    induction nn with
    | zero =>
      intro x2 ls hl hf
      rw [f_X7_isWord_s2_b20] at hf
      cases hf
    | succ n20 ih =>
      intro x2 ls hl hf
      rw [f_X7_isWord_s2_b20] at hf
      refine lv_iload_n hx hb dX7_isWord_20 rfl (lv_at hl 2 rfl) ?_
      refine lv_aload_n hx hb dX7_isWord_21 rfl (lv_at hl 1 rfl) ?_
      refine zRi (va_runV (As := []) (rest := [.int x2]) hC (c_len l G KV 2 (by decide) (6 : Int32) (by decide)) (cwV 0 hts gX7_isWord_J0_length_8abf5 rfl rfl rfl hd_J0_length_8abf5 ⟨(Nat.le_of_ble_eq_true rfl), (Nat.le_of_ble_eq_true rfl)⟩) (zPVk hE hZ hS (by decide)) rfl rfl hl.1 rfl (lv_room (Nat.le_of_ble_eq_true rfl)) dX7_isWord_22 ⟨Nat.zero_le _, Nat.zero_le _⟩) ?_
      refine lv_icmp_ge (tgt := 55) hx hb dX7_isWord_25 (by decide) (fun hc6 => ?_) (fun hc6 => ?_)
      · have hf := if_t hf hc6
        refine lv_iconst (v := (1 : Int32)) hx hb dX7_isWord_55 (by decide) ?_
        have hr0 := so1 hf
        subst hr0
        rw [← hQ]
        exact W.zret (v := (1 : Int32)) hx hb hr rfl (fun t ht hW => ⟨rfl, ht⟩) (fun _ h => by cases h) dX7_isWord_56
      · have hf := if_f hf hc6
        refine lv_aload_n hx hb dX7_isWord_28 rfl (lv_at hl 0 rfl) ?_
        refine va_get (D := G.1) (ci := 7) (v := .ref a_this_bytes) (C := RX7) (T := TX7) (N := 6) hx hb hts inX7 hown hK hP 0 rfl rfl 0 (by decide) lk9 (fun _ h9 => h9) rfl dX7_isWord_29 ?_
        refine lv_aload_n hx hb dX7_isWord_32 rfl (lv_at hl 0 rfl) ?_
        refine va_get (D := G.1) (ci := 7) (v := .int v_place) (C := RX7) (T := TX7) (N := 6) hx hb hts inX7 hown hK hP 0 rfl rfl 3 (by decide) lk22 (fun _ h9 => h9) rfl dX7_isWord_33 ?_
        refine lv_iload_n hx hb dX7_isWord_36 rfl (lv_at hl 2 rfl) ?_
        refine lv_iadd hx hb dX7_isWord_37 ?_
        obtain ⟨hg7, hf⟩ := gd_some hf
        refine va_cald hx hb hK hP 1 1 rfl rfl (inB_in hg7) dX7_isWord_38 ?_
        refine lv_aload_n hx hb dX7_isWord_39 rfl (lv_at hl 1 rfl) ?_
        refine lv_iload_n hx hb dX7_isWord_40 rfl (lv_at hl 2 rfl) ?_
        obtain ⟨hg8, hf⟩ := gd_some hf
        refine zRi (va_runV (As := [.int x2]) (rest := [.int (v_bytes ((v_place + x2)).toNatClampNeg)]) hC (c_chr l G KV 2 (by decide) x2 (inB_in hg8)) (cwV 1 hts gX7_isWord_J0_charAt_5068e rfl rfl rfl hd_J0_charAt_5068e ⟨(Nat.le_of_ble_eq_true rfl), (Nat.le_of_ble_eq_true rfl)⟩) (zPVk hE hZ hS (by decide)) rfl rfl hl.1 rfl (lv_room (Nat.le_of_ble_eq_true rfl)) dX7_isWord_41 ⟨Nat.zero_le _, Nat.zero_le _⟩) ?_
        refine lv_icmp_eq (tgt := 49) hx hb dX7_isWord_44 (by decide) (fun hc9 => ?_) (fun hc9 => ?_)
        · have hf := if_t hf hc9
          refine lv_iinc (v := (x2 + (1 : Int32))) (lv' := [(2, .int (x2 + (1 : Int32))), (0, .ref a_this), (1, .ref (KV.1 2))]) hx hb dX7_isWord_49 hl (k := 2) rfl rfl (by decide) rfl (fun ls hl => ?_)
          refine lv_goto (tgt := 20) hx hb dX7_isWord_52 (by decide) ?_
          exact ih ((x2 + (1 : Int32))) ls (lv_sub hl [1, 2, 0] rfl) hf
        · have hf := if_f hf hc9
          refine lv_iconst (v := (0 : Int32)) hx hb dX7_isWord_47 (by decide) ?_
          have hr0 := so1 hf
          subst hr0
          rw [← hQ]
          exact W.zret (v := (0 : Int32)) hx hb hr rfl (fun t ht hW => ⟨rfl, ht⟩) (fun _ h => by cases h) dX7_isWord_48
  unfold f_X7_isWord_s2 at hf
  refine lv_aload_n hx hb dX7_isWord_0 rfl (lv_at hl 0 rfl) ?_
  refine va_get (D := G.1) (ci := 7) (v := .int v_next) (C := RX7) (T := TX7) (N := 6) hx hb hts inX7 hown hK hP 0 rfl rfl 5 (by decide) lk28 (fun _ h9 => h9) rfl dX7_isWord_1 ?_
  refine lv_aload_n hx hb dX7_isWord_4 rfl (lv_at hl 0 rfl) ?_
  refine va_get (D := G.1) (ci := 7) (v := .int v_place) (C := RX7) (T := TX7) (N := 6) hx hb hts inX7 hown hK hP 0 rfl rfl 3 (by decide) lk22 (fun _ h9 => h9) rfl dX7_isWord_5 ?_
  refine lv_isub hx hb dX7_isWord_8 ?_
  refine lv_aload_n hx hb dX7_isWord_9 rfl (lv_at hl 1 rfl) ?_
  refine zRi (va_runV (As := []) (rest := [.int (v_next - v_place)]) hC (c_len l G KV 2 (by decide) (6 : Int32) (by decide)) (cwV 0 hts gX7_isWord_J0_length_8abf5 rfl rfl rfl hd_J0_length_8abf5 ⟨(Nat.le_of_ble_eq_true rfl), (Nat.le_of_ble_eq_true rfl)⟩) (zPVk hE hZ hS (by decide)) rfl rfl hl.1 rfl (lv_room (Nat.le_of_ble_eq_true rfl)) dX7_isWord_10 ⟨Nat.zero_le _, Nat.zero_le _⟩) ?_
  refine lv_icmp_eq (tgt := 18) hx hb dX7_isWord_13 (by decide) (fun hc10 => ?_) (fun hc10 => ?_)
  · have hf := if_t hf hc10
    refine lv_iconst (v := (0 : Int32)) hx hb dX7_isWord_18 (by decide) ?_
    refine lv_istore_n (lv' := [(2, .int (0 : Int32)), (0, .ref a_this), (1, .ref (KV.1 2))]) hx hb dX7_isWord_19 rfl hl (by decide) rfl (fun ls hl => ?_)
    exact j20 zF ((0 : Int32)) ls (lv_sub hl [1, 2, 0] rfl) hf
  · have hf := if_f hf hc10
    refine lv_iconst (v := (0 : Int32)) hx hb dX7_isWord_16 (by decide) ?_
    have hr0 := so1 hf
    subst hr0
    rw [← hQ]
    exact W.zret (v := (0 : Int32)) hx hb hr rfl (fun t ht hW => ⟨rfl, ht⟩) (fun _ h => by cases h) dX7_isWord_17
def f_X7_isWord_s3_b20 (v_place : Int32) (v_bytes : (Nat → Int32))   : Nat → Int32 → Option (Int32)
  | 0, _ => none
  | n20 + 1, x2 => if (5 : Int32) ≤ x2 then (some ((1 : Int32))) else (gd (inB (v_place + x2) 300) (gd (inB x2 5) (if (v_bytes ((v_place + x2)).toNatClampNeg) = (zch 3 x2) then (f_X7_isWord_s3_b20 v_place v_bytes n20 ((x2 + (1 : Int32)))) else (some ((0 : Int32))))))
def f_X7_isWord_s3  (v_place : Int32) (v_next : Int32) (v_bytes : (Nat → Int32))  : Option (Int32) := if (v_next - v_place) = (5 : Int32) then (f_X7_isWord_s3_b20 v_place v_bytes zF ((0 : Int32))) else (some ((0 : Int32)))
abbrev rm_X7_isWord_s3 : Room := { frames := 5, cells := 0, slots := 0, locals := 85 }
set_option maxHeartbeats 4000000 in
set_option maxRecDepth 100000 in
theorem c_X7_isWord_s3 (l : Launch) (G : zG) (KV : zKV) (a_this : Nat) (a_this_bytes : Nat) (v_length : Int32) (v_token : Int32) (v_place : Int32) (v_number : Int32) (v_next : Int32) (v_bytes : (Nat → Int32)) (R0 : Int32) (hf : f_X7_isWord_s3 v_place v_next v_bytes = some R0) : Met l yX7_isWord wsX7_isWord rm_X7_isWord_s3 (va_Pc [.ref a_this, .ref (KV.1 3)] (zRs G KV [(a_this, .inr (7, [.ref a_this_bytes, .int v_length, .int v_token, .int v_place, .int v_number, .int v_next])), (a_this_bytes, .inl (G.2.2.1, 300, .inl v_bytes))])) (zSv (some (.int R0))) 0 0 (fun _ => False) := by
  refine Met.ofW (cc := cX7_isWord) (maxL := 3) (ret := (some .boolean)) (by decide) rfl ?_
  intro p e s m args below meth c s₁ B hml hv
  obtain ⟨hargs, ⟨hP, hE⟩, hZ⟩ := hv
  have hS : va_S (fun _ => False) s.heap s.heap [] := va_S.rf
  have hx := B.exec
  have hb := B.bytes
  have hr := B.returns
  have hts := atoms_spec (ws := wsX7_isWord) B.pre
  have hown : s.vm.findClass RX7 = some m.cls := findClass_of_methodNamed B.named
  have hlocks := B.notSynchronized
  have hK := hE.1
  have hC : CallFix p m c cX7_isWord 3 s args wsX7_isWord RX7 := ⟨hx, hb, hml, hown, hts⟩
  have inX7 : ∀ w ∈ wsX70, w ∈ wsX7_isWord := by decide +kernel
  have lk9 := hts (.fieldLink RX7 9 "SkyLeases$Text" "bytes" "[C") (by decide +kernel)
  have lk22 := hts (.fieldLink RX7 22 "SkyLeases$Text" "place" "I") (by decide +kernel)
  have lk28 := hts (.fieldLink RX7 28 "SkyLeases$Text" "next" "I") (by decide +kernel)
  have hl := lv_entry ([.ref a_this, .ref (KV.1 3)]) (n := 3) (Nat.le_of_ble_eq_true rfl)
  have hent : entryFrame m args 3 = F0 m 0 ((lg_sl ([.ref a_this, .ref (KV.1 3)]) ++ List.replicate (3 - (lg_sl ([.ref a_this, .ref (KV.1 3)])).length) Slot.unset).toArray) [] := by rw [hargs]; exact lg_entry_eq m [.ref a_this, .ref (KV.1 3)] 3
  refine W.eq hent ?_
  clear hent
  generalize (lg_sl ([.ref a_this, .ref (KV.1 3)]) ++ List.replicate (3 - (lg_sl ([.ref a_this, .ref (KV.1 3)])).length) Slot.unset).toArray = ls at hl ⊢
  have hl : lv_has ls 3 [(0, .ref a_this), (1, .ref (KV.1 3))] := hl
  generalize hQ : MQ below _ args s 0 0 _ = QQ
  change W p l e rm_X7_isWord_s3 s m args below meth c s.heap [] 0 0 QQ _
  have j20 : ∀ (nn : Nat), ∀ (x2 : Int32), ∀ (ls : Array Slot), lv_has ls 3 [(0, .ref a_this), (1, .ref (KV.1 3)), (2, .int x2)] → f_X7_isWord_s3_b20 v_place v_bytes nn x2 = some R0 → W p l e rm_X7_isWord_s3 s m args below meth c s.heap [] 0 0 QQ (F0 m 20 ls []) := by
    intro nn
    induction nn with
    | zero =>
      intro x2 ls hl hf
      rw [f_X7_isWord_s3_b20] at hf
      cases hf
    | succ n20 ih =>
      intro x2 ls hl hf
      rw [f_X7_isWord_s3_b20] at hf
      refine lv_iload_n hx hb dX7_isWord_20 rfl (lv_at hl 2 rfl) ?_
      refine lv_aload_n hx hb dX7_isWord_21 rfl (lv_at hl 1 rfl) ?_
      refine zRi (va_runV (As := []) (rest := [.int x2]) hC (c_len l G KV 3 (by decide) (5 : Int32) (by decide)) (cwV 0 hts gX7_isWord_J0_length_8abf5 rfl rfl rfl hd_J0_length_8abf5 ⟨(Nat.le_of_ble_eq_true rfl), (Nat.le_of_ble_eq_true rfl)⟩) (zPVk hE hZ hS (by decide)) rfl rfl hl.1 rfl (lv_room (Nat.le_of_ble_eq_true rfl)) dX7_isWord_22 ⟨Nat.zero_le _, Nat.zero_le _⟩) ?_
      refine lv_icmp_ge (tgt := 55) hx hb dX7_isWord_25 (by decide) (fun hc6 => ?_) (fun hc6 => ?_)
      · have hf := if_t hf hc6
        refine lv_iconst (v := (1 : Int32)) hx hb dX7_isWord_55 (by decide) ?_
        have hr0 := so1 hf
        subst hr0
        rw [← hQ]
        exact W.zret (v := (1 : Int32)) hx hb hr rfl (fun t ht hW => ⟨rfl, ht⟩) (fun _ h => by cases h) dX7_isWord_56
      · have hf := if_f hf hc6
        refine lv_aload_n hx hb dX7_isWord_28 rfl (lv_at hl 0 rfl) ?_
        refine va_get (D := G.1) (ci := 7) (v := .ref a_this_bytes) (C := RX7) (T := TX7) (N := 6) hx hb hts inX7 hown hK hP 0 rfl rfl 0 (by decide) lk9 (fun _ h9 => h9) rfl dX7_isWord_29 ?_
        refine lv_aload_n hx hb dX7_isWord_32 rfl (lv_at hl 0 rfl) ?_
        refine va_get (D := G.1) (ci := 7) (v := .int v_place) (C := RX7) (T := TX7) (N := 6) hx hb hts inX7 hown hK hP 0 rfl rfl 3 (by decide) lk22 (fun _ h9 => h9) rfl dX7_isWord_33 ?_
        refine lv_iload_n hx hb dX7_isWord_36 rfl (lv_at hl 2 rfl) ?_
        refine lv_iadd hx hb dX7_isWord_37 ?_
        obtain ⟨hg7, hf⟩ := gd_some hf
        refine va_cald hx hb hK hP 1 1 rfl rfl (inB_in hg7) dX7_isWord_38 ?_
        refine lv_aload_n hx hb dX7_isWord_39 rfl (lv_at hl 1 rfl) ?_
        refine lv_iload_n hx hb dX7_isWord_40 rfl (lv_at hl 2 rfl) ?_
        obtain ⟨hg8, hf⟩ := gd_some hf
        refine zRi (va_runV (As := [.int x2]) (rest := [.int (v_bytes ((v_place + x2)).toNatClampNeg)]) hC (c_chr l G KV 3 (by decide) x2 (inB_in hg8)) (cwV 1 hts gX7_isWord_J0_charAt_5068e rfl rfl rfl hd_J0_charAt_5068e ⟨(Nat.le_of_ble_eq_true rfl), (Nat.le_of_ble_eq_true rfl)⟩) (zPVk hE hZ hS (by decide)) rfl rfl hl.1 rfl (lv_room (Nat.le_of_ble_eq_true rfl)) dX7_isWord_41 ⟨Nat.zero_le _, Nat.zero_le _⟩) ?_
        refine lv_icmp_eq (tgt := 49) hx hb dX7_isWord_44 (by decide) (fun hc9 => ?_) (fun hc9 => ?_)
        · have hf := if_t hf hc9
          refine lv_iinc (v := (x2 + (1 : Int32))) (lv' := [(2, .int (x2 + (1 : Int32))), (0, .ref a_this), (1, .ref (KV.1 3))]) hx hb dX7_isWord_49 hl (k := 2) rfl rfl (by decide) rfl (fun ls hl => ?_)
          refine lv_goto (tgt := 20) hx hb dX7_isWord_52 (by decide) ?_
          exact ih ((x2 + (1 : Int32))) ls (lv_sub hl [1, 2, 0] rfl) hf
        · have hf := if_f hf hc9
          refine lv_iconst (v := (0 : Int32)) hx hb dX7_isWord_47 (by decide) ?_
          have hr0 := so1 hf
          subst hr0
          rw [← hQ]
          exact W.zret (v := (0 : Int32)) hx hb hr rfl (fun t ht hW => ⟨rfl, ht⟩) (fun _ h => by cases h) dX7_isWord_48
  unfold f_X7_isWord_s3 at hf
  refine lv_aload_n hx hb dX7_isWord_0 rfl (lv_at hl 0 rfl) ?_
  refine va_get (D := G.1) (ci := 7) (v := .int v_next) (C := RX7) (T := TX7) (N := 6) hx hb hts inX7 hown hK hP 0 rfl rfl 5 (by decide) lk28 (fun _ h9 => h9) rfl dX7_isWord_1 ?_
  refine lv_aload_n hx hb dX7_isWord_4 rfl (lv_at hl 0 rfl) ?_
  refine va_get (D := G.1) (ci := 7) (v := .int v_place) (C := RX7) (T := TX7) (N := 6) hx hb hts inX7 hown hK hP 0 rfl rfl 3 (by decide) lk22 (fun _ h9 => h9) rfl dX7_isWord_5 ?_
  refine lv_isub hx hb dX7_isWord_8 ?_
  refine lv_aload_n hx hb dX7_isWord_9 rfl (lv_at hl 1 rfl) ?_
  refine zRi (va_runV (As := []) (rest := [.int (v_next - v_place)]) hC (c_len l G KV 3 (by decide) (5 : Int32) (by decide)) (cwV 0 hts gX7_isWord_J0_length_8abf5 rfl rfl rfl hd_J0_length_8abf5 ⟨(Nat.le_of_ble_eq_true rfl), (Nat.le_of_ble_eq_true rfl)⟩) (zPVk hE hZ hS (by decide)) rfl rfl hl.1 rfl (lv_room (Nat.le_of_ble_eq_true rfl)) dX7_isWord_10 ⟨Nat.zero_le _, Nat.zero_le _⟩) ?_
  refine lv_icmp_eq (tgt := 18) hx hb dX7_isWord_13 (by decide) (fun hc10 => ?_) (fun hc10 => ?_)
  · have hf := if_t hf hc10
    refine lv_iconst (v := (0 : Int32)) hx hb dX7_isWord_18 (by decide) ?_
    refine lv_istore_n (lv' := [(2, .int (0 : Int32)), (0, .ref a_this), (1, .ref (KV.1 3))]) hx hb dX7_isWord_19 rfl hl (by decide) rfl (fun ls hl => ?_)
    exact j20 zF ((0 : Int32)) ls (lv_sub hl [1, 2, 0] rfl) hf
  · have hf := if_f hf hc10
    refine lv_iconst (v := (0 : Int32)) hx hb dX7_isWord_16 (by decide) ?_
    have hr0 := so1 hf
    subst hr0
    rw [← hQ]
    exact W.zret (v := (0 : Int32)) hx hb hr rfl (fun t ht hW => ⟨rfl, ht⟩) (fun _ h => by cases h) dX7_isWord_17
theorem hd_X7_isLetter : yX7_isLetter.cls = RX7 ∧ yX7_isLetter.cls ≠ "java/lang/invoke/MethodHandle" ∧ yX7_isLetter.cls ≠ "java/lang/invoke/VarHandle" ∧ (parseMethodDescriptor yX7_isLetter.desc).map (fun d => d.parameters.length) = some 1 := by decide +kernel
theorem hd_X7_isWord : yX7_isWord.cls = RX7 ∧ yX7_isWord.cls ≠ "java/lang/invoke/MethodHandle" ∧ yX7_isWord.cls ≠ "java/lang/invoke/VarHandle" ∧ (parseMethodDescriptor yX7_isWord.desc).map (fun d => d.parameters.length) = some 1 := by decide +kernel
def f_X7_readWord_b107    (t1 : Int32) (v_next : Int32) : Option (Int32 × Int32) := some (t1, v_next)
def f_X7_readWord_b39 (v_place : Int32) (v_bytes : (Nat → Int32))   (v_next : Int32) : Option (Int32 × Int32) := bd1 (f_X7_isWord_s0 (v_place) (v_next) (v_bytes)) fun r13 => if r13 = (0 : Int32) then (bd1 (f_X7_isWord_s1 (v_place) (v_next) (v_bytes)) fun r15 => if r15 = (0 : Int32) then (bd1 (f_X7_isWord_s2 (v_place) (v_next) (v_bytes)) fun r17 => if r17 = (0 : Int32) then (bd1 (f_X7_isWord_s3 (v_place) (v_next) (v_bytes)) fun r19 => if r19 = (0 : Int32) then (f_X7_readWord_b107 ((1 : Int32)) (v_next)) else (f_X7_readWord_b107 ((7 : Int32)) (v_next))) else (some ((6 : Int32), v_next))) else (some ((5 : Int32), v_next))) else (some ((4 : Int32), v_next))
def f_X7_readWord_b0 (v_length : Int32) (v_place : Int32) (v_bytes : (Nat → Int32))   : Nat → Int32 → Option (Int32 × Int32)
  | 0, _ => none
  | n0 + 1, v_next => if v_length ≤ v_next then (f_X7_readWord_b39 v_place v_bytes (v_next)) else (gd (inB v_next 300) (bd1 (f_X7_isLetter ((v_bytes (v_next).toNatClampNeg))) fun r23 => if r23 = (0 : Int32) then (f_X7_readWord_b39 v_place v_bytes (v_next)) else (f_X7_readWord_b0 v_length v_place v_bytes n0 ((v_next + (1 : Int32))))))
def f_X7_readWord  (v_length : Int32) (v_token : Int32) (v_place : Int32) (v_next : Int32) (v_bytes : (Nat → Int32))  : Option (Int32 × Int32) := f_X7_readWord_b0 v_length v_place v_bytes zF (v_next)
abbrev rm_X7_readWord : Room := { frames := 6, cells := 0, slots := 0, locals := 107 }
set_option maxHeartbeats 4000000 in
set_option maxRecDepth 100000 in
theorem c_X7_readWord (l : Launch) (G : zG) (KV : zKV) (sz : Nat) (a_this : Nat) (a_this_bytes : Nat) (v_length : Int32) (v_token : Int32) (v_place : Int32) (v_number : Int32) (v_next : Int32) (v_bytes : (Nat → Int32)) (R1 : Int32) (R2 : Int32) (hf : f_X7_readWord v_length v_token v_place v_next v_bytes = some (R1, R2)) : Met l yX7_readWord wsX7_readWord rm_X7_readWord (va_Pc [.ref a_this] (zBs G KV [(a_this, .inr (7, [.ref a_this_bytes, .int v_length, .int v_token, .int v_place, .int v_number, .int v_next])), (a_this_bytes, .inl (G.2.2.1, 300, .inl v_bytes))] sz)) (zQ G none [(a_this, .inr (7, [.ref a_this_bytes, .int v_length, .int R1, .int v_place, .int v_number, .int R2])), (a_this_bytes, .inl (G.2.2.1, 300, .inl v_bytes))] (va_A [(a_this, .inr (7, [.ref a_this_bytes, .int v_length, .int v_token, .int v_place, .int v_number, .int v_next])), (a_this_bytes, .inl (G.2.2.1, 300, .inl v_bytes))] sz)) 0 0 (va_A [(a_this, .inr (7, [.ref a_this_bytes, .int v_length, .int v_token, .int v_place, .int v_number, .int v_next])), (a_this_bytes, .inl (G.2.2.1, 300, .inl v_bytes))] sz) := by
  refine Met.ofW (cc := cX7_readWord) (maxL := 1) (ret := none) (by decide) rfl ?_
  intro p e s m args below meth c s₁ B hml hv
  obtain ⟨hargs, ⟨hsz, hP, hD0, hE⟩, hZ⟩ := hv
  have hx := B.exec
  have hb := B.bytes
  have hr := B.returns
  have hts := atoms_spec (ws := wsX7_readWord) B.pre
  have hown : s.vm.findClass RX7 = some m.cls := findClass_of_methodNamed B.named
  have hlocks := B.notSynchronized
  have hK := hE.1
  have hC : CallFix p m c cX7_readWord 1 s args wsX7_readWord RX7 := ⟨hx, hb, hml, hown, hts⟩
  have inX7 : ∀ w ∈ wsX70, w ∈ wsX7_readWord := by decide +kernel
  have lk9 := hts (.fieldLink RX7 9 "SkyLeases$Text" "bytes" "[C") (by decide +kernel)
  have lk15 := hts (.fieldLink RX7 15 "SkyLeases$Text" "length" "I") (by decide +kernel)
  have lk19 := hts (.fieldLink RX7 19 "SkyLeases$Text" "token" "I") (by decide +kernel)
  have lk28 := hts (.fieldLink RX7 28 "SkyLeases$Text" "next" "I") (by decide +kernel)
  subst hsz
  have hD := hD0.self (sz := s.heap.size)
  generalize hAe : va_A [(a_this, .inr (7, [.ref a_this_bytes, .int v_length, .int v_token, .int v_place, .int v_number, .int v_next])), (a_this_bytes, .inl (G.2.2.1, 300, .inl v_bytes))] s.heap.size = A at hD hZ ⊢
  have hA : ∀ q : Nat, s.heap.size ≤ q → A q := fun q h => by rw [← hAe]; exact Or.inr h
  have hS : va_S A s.heap s.heap [] := va_S.rf
  have hP : va_P G.1 vwCl [(a_this, .inr (7, [.ref a_this_bytes, .int v_length, .int v_token, .int v_place, .int v_number, .int v_next])), (a_this_bytes, .inl (G.2.2.1, 300, .inl v_bytes))] s.heap := hP
  have hl := lv_entry ([.ref a_this]) (n := 1) (Nat.le_of_ble_eq_true rfl)
  have hent : entryFrame m args 1 = F0 m 0 ((lg_sl ([.ref a_this]) ++ List.replicate (1 - (lg_sl ([.ref a_this])).length) Slot.unset).toArray) [] := by rw [hargs]; exact lg_entry_eq m [.ref a_this] 1
  refine W.eq hent ?_
  clear hent
  generalize (lg_sl ([.ref a_this]) ++ List.replicate (1 - (lg_sl ([.ref a_this])).length) Slot.unset).toArray = ls at hl ⊢
  have hl : lv_has ls 1 [(0, .ref a_this)] := hl
  generalize hQ : MQ below _ args s 0 0 _ = QQ
  change W p l e rm_X7_readWord s m args below meth c s.heap [] 0 0 QQ _
  have j107 : ∀ (t1 : Int32), ∀ (v_token : Int32), ∀ (v_next : Int32), ∀ (ls : Array Slot), lv_has ls 1 [] → ∀ (H : Heap) (locs : List Loc), va_P G.1 vwCl [(a_this, .inr (7, [.ref a_this_bytes, .int v_length, .int v_token, .int v_place, .int v_number, .int v_next])), (a_this_bytes, .inl (G.2.2.1, 300, .inl v_bytes))] H → va_D A [(a_this, .inr (7, [.ref a_this_bytes, .int v_length, .int v_token, .int v_place, .int v_number, .int v_next])), (a_this_bytes, .inl (G.2.2.1, 300, .inl v_bytes))] → va_S A s.heap H locs → f_X7_readWord_b107 t1 v_next = some (R1, R2) → W p l e rm_X7_readWord s m args below meth c H locs 0 0 QQ (F0 m 107 ls [.int t1, .ref a_this]) := by
    intro t1 v_token v_next ls hl H locs hP hD hS hf
    unfold f_X7_readWord_b107 at hf
    refine va_put (D := G.1) (ci := 7) (v := .int t1) (ty := .int) (C := RX7) (T := TX7) (N := 6) hx hb hts inX7 tyX7 tyX7_ok nmX7 hown hK hP hD hS 0 rfl rfl 2 (by decide) lk19 (fun _ h9 => h9) rfl (by decide +kernel) rfl rfl (Nat.le_of_ble_eq_true rfl) dX7_readWord_107 (fun H locs hP hD hS => ?_)
    have hP : va_P G.1 vwCl [(a_this, .inr (7, [.ref a_this_bytes, .int v_length, .int t1, .int v_place, .int v_number, .int v_next])), (a_this_bytes, .inl (G.2.2.1, 300, .inl v_bytes))] H := hP
    have hD : va_D A [(a_this, .inr (7, [.ref a_this_bytes, .int v_length, .int t1, .int v_place, .int v_number, .int v_next])), (a_this_bytes, .inl (G.2.2.1, 300, .inl v_bytes))] := hD
    obtain ⟨hr0, hr1⟩ := so2 hf
    subst hr0
    subst hr1
    rw [← hQ]
    exact W.vret hx hb hr (fun t ht hW => ⟨⟨rfl, by rw [ht]; exact hP⟩, hS.F ht⟩) hS.2.2 dX7_readWord_110
  have j39 : ∀ (v_token : Int32), ∀ (v_next : Int32), ∀ (ls : Array Slot), lv_has ls 1 [(0, .ref a_this)] → ∀ (H : Heap) (locs : List Loc), va_P G.1 vwCl [(a_this, .inr (7, [.ref a_this_bytes, .int v_length, .int v_token, .int v_place, .int v_number, .int v_next])), (a_this_bytes, .inl (G.2.2.1, 300, .inl v_bytes))] H → va_D A [(a_this, .inr (7, [.ref a_this_bytes, .int v_length, .int v_token, .int v_place, .int v_number, .int v_next])), (a_this_bytes, .inl (G.2.2.1, 300, .inl v_bytes))] → va_S A s.heap H locs → f_X7_readWord_b39 v_place v_bytes v_next = some (R1, R2) → W p l e rm_X7_readWord s m args below meth c H locs 0 0 QQ (F0 m 39 ls []) := by
    intro v_token v_next ls hl H locs hP hD hS hf
    unfold f_X7_readWord_b39 at hf
    refine lv_aload_n hx hb dX7_readWord_39 rfl (lv_at hl 0 rfl) ?_
    refine va_ldcS hx hb hown hZ.2.2.2.1 dX7_readWord_40 ?_
    obtain ⟨r13, hu, hf⟩ := bd1_some hf
    refine zRi (va_runV (As := [.ref (KV.1 0)]) (rest := []) hC (c_X7_isWord_s0 l G KV a_this a_this_bytes (v_length) (v_token) (v_place) (v_number) (v_next) (v_bytes) r13 hu) (cwV 1 hts gX7_readWord_X7_isWord rfl rfl rfl hd_X7_isWord ⟨(Nat.le_of_ble_eq_true rfl), (Nat.le_of_ble_eq_true rfl)⟩) (zPVo hE hZ hS hP [0, 1] rfl 0 rfl rfl) rfl rfl hl.1 rfl (lv_room (Nat.le_of_ble_eq_true rfl)) dX7_readWord_42 ⟨Nat.zero_le _, Nat.zero_le _⟩) ?_
    refine lv_if_eq (tgt := 56) hx hb dX7_readWord_45 (by decide) (fun hc14 => ?_) (fun hc14 => ?_)
    · have hf := if_t hf hc14
      refine lv_aload_n hx hb dX7_readWord_56 rfl (lv_at hl 0 rfl) ?_
      refine va_ldcS hx hb hown hZ.2.2.2.2.1 dX7_readWord_57 ?_
      obtain ⟨r15, hu, hf⟩ := bd1_some hf
      refine zRi (va_runV (As := [.ref (KV.1 1)]) (rest := []) hC (c_X7_isWord_s1 l G KV a_this a_this_bytes (v_length) (v_token) (v_place) (v_number) (v_next) (v_bytes) r15 hu) (cwV 1 hts gX7_readWord_X7_isWord rfl rfl rfl hd_X7_isWord ⟨(Nat.le_of_ble_eq_true rfl), (Nat.le_of_ble_eq_true rfl)⟩) (zPVo hE hZ hS hP [0, 1] rfl 0 rfl rfl) rfl rfl hl.1 rfl (lv_room (Nat.le_of_ble_eq_true rfl)) dX7_readWord_59 ⟨Nat.zero_le _, Nat.zero_le _⟩) ?_
      refine lv_if_eq (tgt := 73) hx hb dX7_readWord_62 (by decide) (fun hc16 => ?_) (fun hc16 => ?_)
      · have hf := if_t hf hc16
        refine lv_aload_n hx hb dX7_readWord_73 rfl (lv_at hl 0 rfl) ?_
        refine va_ldcS hx hb hown hZ.2.2.2.2.2.1 dX7_readWord_74 ?_
        obtain ⟨r17, hu, hf⟩ := bd1_some hf
        refine zRi (va_runV (As := [.ref (KV.1 2)]) (rest := []) hC (c_X7_isWord_s2 l G KV a_this a_this_bytes (v_length) (v_token) (v_place) (v_number) (v_next) (v_bytes) r17 hu) (cwV 1 hts gX7_readWord_X7_isWord rfl rfl rfl hd_X7_isWord ⟨(Nat.le_of_ble_eq_true rfl), (Nat.le_of_ble_eq_true rfl)⟩) (zPVo hE hZ hS hP [0, 1] rfl 0 rfl rfl) rfl rfl hl.1 rfl (lv_room (Nat.le_of_ble_eq_true rfl)) dX7_readWord_76 ⟨Nat.zero_le _, Nat.zero_le _⟩) ?_
        refine lv_if_eq (tgt := 91) hx hb dX7_readWord_79 (by decide) (fun hc18 => ?_) (fun hc18 => ?_)
        · have hf := if_t hf hc18
          refine lv_aload_n hx hb dX7_readWord_91 rfl (lv_at hl 0 rfl) ?_
          refine lv_aload_n hx hb dX7_readWord_92 rfl (lv_at hl 0 rfl) ?_
          refine va_ldcS hx hb hown hZ.2.2.2.2.2.2 dX7_readWord_93 ?_
          obtain ⟨r19, hu, hf⟩ := bd1_some hf
          refine zRi (va_runV (As := [.ref (KV.1 3)]) (rest := [.ref a_this]) hC (c_X7_isWord_s3 l G KV a_this a_this_bytes (v_length) (v_token) (v_place) (v_number) (v_next) (v_bytes) r19 hu) (cwV 1 hts gX7_readWord_X7_isWord rfl rfl rfl hd_X7_isWord ⟨(Nat.le_of_ble_eq_true rfl), (Nat.le_of_ble_eq_true rfl)⟩) (zPVo hE hZ hS hP [0, 1] rfl 0 rfl rfl) rfl rfl hl.1 rfl (lv_room (Nat.le_of_ble_eq_true rfl)) dX7_readWord_95 ⟨Nat.zero_le _, Nat.zero_le _⟩) ?_
          refine lv_if_eq (tgt := 106) hx hb dX7_readWord_98 (by decide) (fun hc20 => ?_) (fun hc20 => ?_)
          · have hf := if_t hf hc20
            refine lv_iconst (v := (1 : Int32)) hx hb dX7_readWord_106 (by decide) ?_
            exact j107 ((1 : Int32)) (v_token) (v_next) ls (lv_sub hl [] rfl) _ _ hP hD hS hf
          · have hf := if_f hf hc20
            refine lv_bipush (v := (7 : Int32)) hx hb dX7_readWord_101 (by decide) ?_
            refine lv_goto (tgt := 107) hx hb dX7_readWord_103 (by decide) ?_
            exact j107 ((7 : Int32)) (v_token) (v_next) ls (lv_sub hl [] rfl) _ _ hP hD hS hf
        · have hf := if_f hf hc18
          refine lv_aload_n hx hb dX7_readWord_82 rfl (lv_at hl 0 rfl) ?_
          refine lv_bipush (v := (6 : Int32)) hx hb dX7_readWord_83 (by decide) ?_
          refine va_put (D := G.1) (ci := 7) (v := .int (6 : Int32)) (ty := .int) (C := RX7) (T := TX7) (N := 6) hx hb hts inX7 tyX7 tyX7_ok nmX7 hown hK hP hD hS 0 rfl rfl 2 (by decide) lk19 (fun _ h9 => h9) rfl (by decide +kernel) rfl rfl (Nat.le_of_ble_eq_true rfl) dX7_readWord_85 (fun H locs hP hD hS => ?_)
          have hP : va_P G.1 vwCl [(a_this, .inr (7, [.ref a_this_bytes, .int v_length, .int (6 : Int32), .int v_place, .int v_number, .int v_next])), (a_this_bytes, .inl (G.2.2.1, 300, .inl v_bytes))] H := hP
          have hD : va_D A [(a_this, .inr (7, [.ref a_this_bytes, .int v_length, .int (6 : Int32), .int v_place, .int v_number, .int v_next])), (a_this_bytes, .inl (G.2.2.1, 300, .inl v_bytes))] := hD
          refine lv_goto (tgt := 110) hx hb dX7_readWord_88 (by decide) ?_
          obtain ⟨hr0, hr1⟩ := so2 hf
          subst hr0
          subst hr1
          rw [← hQ]
          exact W.vret hx hb hr (fun t ht hW => ⟨⟨rfl, by rw [ht]; exact hP⟩, hS.F ht⟩) hS.2.2 dX7_readWord_110
      · have hf := if_f hf hc16
        refine lv_aload_n hx hb dX7_readWord_65 rfl (lv_at hl 0 rfl) ?_
        refine lv_iconst (v := (5 : Int32)) hx hb dX7_readWord_66 (by decide) ?_
        refine va_put (D := G.1) (ci := 7) (v := .int (5 : Int32)) (ty := .int) (C := RX7) (T := TX7) (N := 6) hx hb hts inX7 tyX7 tyX7_ok nmX7 hown hK hP hD hS 0 rfl rfl 2 (by decide) lk19 (fun _ h9 => h9) rfl (by decide +kernel) rfl rfl (Nat.le_of_ble_eq_true rfl) dX7_readWord_67 (fun H locs hP hD hS => ?_)
        have hP : va_P G.1 vwCl [(a_this, .inr (7, [.ref a_this_bytes, .int v_length, .int (5 : Int32), .int v_place, .int v_number, .int v_next])), (a_this_bytes, .inl (G.2.2.1, 300, .inl v_bytes))] H := hP
        have hD : va_D A [(a_this, .inr (7, [.ref a_this_bytes, .int v_length, .int (5 : Int32), .int v_place, .int v_number, .int v_next])), (a_this_bytes, .inl (G.2.2.1, 300, .inl v_bytes))] := hD
        refine lv_goto (tgt := 110) hx hb dX7_readWord_70 (by decide) ?_
        obtain ⟨hr0, hr1⟩ := so2 hf
        subst hr0
        subst hr1
        rw [← hQ]
        exact W.vret hx hb hr (fun t ht hW => ⟨⟨rfl, by rw [ht]; exact hP⟩, hS.F ht⟩) hS.2.2 dX7_readWord_110
    · have hf := if_f hf hc14
      refine lv_aload_n hx hb dX7_readWord_48 rfl (lv_at hl 0 rfl) ?_
      refine lv_iconst (v := (4 : Int32)) hx hb dX7_readWord_49 (by decide) ?_
      refine va_put (D := G.1) (ci := 7) (v := .int (4 : Int32)) (ty := .int) (C := RX7) (T := TX7) (N := 6) hx hb hts inX7 tyX7 tyX7_ok nmX7 hown hK hP hD hS 0 rfl rfl 2 (by decide) lk19 (fun _ h9 => h9) rfl (by decide +kernel) rfl rfl (Nat.le_of_ble_eq_true rfl) dX7_readWord_50 (fun H locs hP hD hS => ?_)
      have hP : va_P G.1 vwCl [(a_this, .inr (7, [.ref a_this_bytes, .int v_length, .int (4 : Int32), .int v_place, .int v_number, .int v_next])), (a_this_bytes, .inl (G.2.2.1, 300, .inl v_bytes))] H := hP
      have hD : va_D A [(a_this, .inr (7, [.ref a_this_bytes, .int v_length, .int (4 : Int32), .int v_place, .int v_number, .int v_next])), (a_this_bytes, .inl (G.2.2.1, 300, .inl v_bytes))] := hD
      refine lv_goto (tgt := 110) hx hb dX7_readWord_53 (by decide) ?_
      obtain ⟨hr0, hr1⟩ := so2 hf
      subst hr0
      subst hr1
      rw [← hQ]
      exact W.vret hx hb hr (fun t ht hW => ⟨⟨rfl, by rw [ht]; exact hP⟩, hS.F ht⟩) hS.2.2 dX7_readWord_110
  have j0 : ∀ (v_token : Int32), ∀ (nn : Nat), ∀ (v_next : Int32), ∀ (ls : Array Slot), lv_has ls 1 [(0, .ref a_this)] → ∀ (H : Heap) (locs : List Loc), va_P G.1 vwCl [(a_this, .inr (7, [.ref a_this_bytes, .int v_length, .int v_token, .int v_place, .int v_number, .int v_next])), (a_this_bytes, .inl (G.2.2.1, 300, .inl v_bytes))] H → va_D A [(a_this, .inr (7, [.ref a_this_bytes, .int v_length, .int v_token, .int v_place, .int v_number, .int v_next])), (a_this_bytes, .inl (G.2.2.1, 300, .inl v_bytes))] → va_S A s.heap H locs → f_X7_readWord_b0 v_length v_place v_bytes nn v_next = some (R1, R2) → W p l e rm_X7_readWord s m args below meth c H locs 0 0 QQ (F0 m 0 ls []) := by
    intro v_token
    intro nn
    induction nn with
    | zero =>
      intro v_next ls hl H locs hP hD hS hf
      rw [f_X7_readWord_b0] at hf
      cases hf
    | succ n0 ih =>
      intro v_next ls hl H locs hP hD hS hf
      rw [f_X7_readWord_b0] at hf
      refine lv_aload_n hx hb dX7_readWord_0 rfl (lv_at hl 0 rfl) ?_
      refine va_get (D := G.1) (ci := 7) (v := .int v_next) (C := RX7) (T := TX7) (N := 6) hx hb hts inX7 hown hK hP 0 rfl rfl 5 (by decide) lk28 (fun _ h9 => h9) rfl dX7_readWord_1 ?_
      refine lv_aload_n hx hb dX7_readWord_4 rfl (lv_at hl 0 rfl) ?_
      refine va_get (D := G.1) (ci := 7) (v := .int v_length) (C := RX7) (T := TX7) (N := 6) hx hb hts inX7 hown hK hP 0 rfl rfl 1 (by decide) lk15 (fun _ h9 => h9) rfl dX7_readWord_5 ?_
      refine lv_icmp_ge (tgt := 39) hx hb dX7_readWord_8 (by decide) (fun hc21 => ?_) (fun hc21 => ?_)
      · have hf := if_t hf hc21
        exact j39 (v_token) (v_next) ls (lv_sub hl [0] rfl) _ _ hP hD hS hf
      · have hf := if_f hf hc21
        refine lv_aload_n hx hb dX7_readWord_11 rfl (lv_at hl 0 rfl) ?_
        refine va_get (D := G.1) (ci := 7) (v := .ref a_this_bytes) (C := RX7) (T := TX7) (N := 6) hx hb hts inX7 hown hK hP 0 rfl rfl 0 (by decide) lk9 (fun _ h9 => h9) rfl dX7_readWord_12 ?_
        refine lv_aload_n hx hb dX7_readWord_15 rfl (lv_at hl 0 rfl) ?_
        refine va_get (D := G.1) (ci := 7) (v := .int v_next) (C := RX7) (T := TX7) (N := 6) hx hb hts inX7 hown hK hP 0 rfl rfl 5 (by decide) lk28 (fun _ h9 => h9) rfl dX7_readWord_16 ?_
        obtain ⟨hg22, hf⟩ := gd_some hf
        refine va_cald hx hb hK hP 1 1 rfl rfl (inB_in hg22) dX7_readWord_19 ?_
        obtain ⟨r23, hu, hf⟩ := bd1_some hf
        refine zRi (va_runS (As := [.int (v_bytes (v_next).toNatClampNeg)]) (rest := []) hC (c_X7_isLetter l G ((v_bytes (v_next).toNatClampNeg)) r23 hu) (va_cwS 1 hts gX7_readWord_X7_isLetter rfl rfl rfl hd_X7_isLetter.2 ⟨(Nat.le_of_ble_eq_true rfl), (Nat.le_of_ble_eq_true rfl)⟩) (zPS hE hP [] rfl) rfl rfl hl.1 rfl (lv_room (Nat.le_of_ble_eq_true rfl)) dX7_readWord_20 ⟨Nat.zero_le _, Nat.zero_le _⟩) ?_
        refine lv_if_eq (tgt := 39) hx hb dX7_readWord_23 (by decide) (fun hc24 => ?_) (fun hc24 => ?_)
        · have hf := if_t hf hc24
          exact j39 (v_token) (v_next) ls (lv_sub hl [0] rfl) _ _ hP hD hS hf
        · have hf := if_f hf hc24
          refine lv_aload_n hx hb dX7_readWord_26 rfl (lv_at hl 0 rfl) ?_
          refine lv_dup hx hb dX7_readWord_27 rfl ?_
          refine va_get (D := G.1) (ci := 7) (v := .int v_next) (C := RX7) (T := TX7) (N := 6) hx hb hts inX7 hown hK hP 0 rfl rfl 5 (by decide) lk28 (fun _ h9 => h9) rfl dX7_readWord_28 ?_
          refine lv_iconst (v := (1 : Int32)) hx hb dX7_readWord_31 (by decide) ?_
          refine lv_iadd hx hb dX7_readWord_32 ?_
          refine va_put (D := G.1) (ci := 7) (v := .int (v_next + (1 : Int32))) (ty := .int) (C := RX7) (T := TX7) (N := 6) hx hb hts inX7 tyX7 tyX7_ok nmX7 hown hK hP hD hS 0 rfl rfl 5 (by decide) lk28 (fun _ h9 => h9) rfl (by decide +kernel) rfl rfl (Nat.le_of_ble_eq_true rfl) dX7_readWord_33 (fun H locs hP hD hS => ?_)
          have hP : va_P G.1 vwCl [(a_this, .inr (7, [.ref a_this_bytes, .int v_length, .int v_token, .int v_place, .int v_number, .int (v_next + (1 : Int32))])), (a_this_bytes, .inl (G.2.2.1, 300, .inl v_bytes))] H := hP
          have hD : va_D A [(a_this, .inr (7, [.ref a_this_bytes, .int v_length, .int v_token, .int v_place, .int v_number, .int (v_next + (1 : Int32))])), (a_this_bytes, .inl (G.2.2.1, 300, .inl v_bytes))] := hD
          refine lv_goto (tgt := 0) hx hb dX7_readWord_36 (by decide) ?_
          exact ih ((v_next + (1 : Int32))) ls (lv_sub hl [0] rfl) _ _ hP hD hS hf
  have hSH := hS
  unfold f_X7_readWord at hf
  exact j0 (v_token) zF (v_next) ls (lv_sub hl [0] rfl) _ _ hP hD hS hf
theorem hd_X7_readNumber : yX7_readNumber.cls = RX7 ∧ yX7_readNumber.cls ≠ "java/lang/invoke/MethodHandle" ∧ yX7_readNumber.cls ≠ "java/lang/invoke/VarHandle" ∧ (parseMethodDescriptor yX7_readNumber.desc).map (fun d => d.parameters.length) = some 0 := by decide +kernel
theorem hd_X7_readWord : yX7_readWord.cls = RX7 ∧ yX7_readWord.cls ≠ "java/lang/invoke/MethodHandle" ∧ yX7_readWord.cls ≠ "java/lang/invoke/VarHandle" ∧ (parseMethodDescriptor yX7_readWord.desc).map (fun d => d.parameters.length) = some 0 := by decide +kernel
def f_X7_readToken_b129    (t1 : Int32) (v_place : Int32) (v_number : Int32) (v_next : Int32) : Option (Int32 × Int32 × Int32 × Int32) := some (t1, v_place, v_number, (v_next + (1 : Int32)))
def f_X7_readToken_b38 (v_length : Int32) (v_bytes : (Nat → Int32))   (v_token : Int32) (v_number : Int32) (v_next : Int32) : Option (Int32 × Int32 × Int32 × Int32) := if v_next < v_length then (gd (inB v_next 300) (bd1 (f_X7_isDigit ((v_bytes (v_next).toNatClampNeg))) fun r20 => if r20 = (0 : Int32) then (gd (inB v_next 300) (bd1 (f_X7_isLetter ((v_bytes (v_next).toNatClampNeg))) fun r23 => if r23 = (0 : Int32) then (gd (inB v_next 300) (if (v_bytes (v_next).toNatClampNeg) = (59 : Int32) then (f_X7_readToken_b129 ((3 : Int32)) (v_next) (v_number) (v_next)) else (f_X7_readToken_b129 ((1 : Int32)) (v_next) (v_number) (v_next)))) else (bd2 (f_X7_readWord (v_length) (v_token) (v_next) (v_next) (v_bytes)) fun w27 w28 => some (w27, v_next, v_number, w28)))) else (bd3 (f_X7_readNumber (v_length) (v_token) (v_next) (v_number) (v_next) (v_bytes)) fun w29 w30 w31 => some (w29, v_next, w30, w31)))) else (some ((0 : Int32), v_next, v_number, v_next))
def f_X7_readToken_b0 (v_length : Int32) (v_bytes : (Nat → Int32))  (v_token : Int32) (v_number : Int32) : Nat → Int32 → Option (Int32 × Int32 × Int32 × Int32)
  | 0, _ => none
  | n0 + 1, v_next => if v_length ≤ v_next then (f_X7_readToken_b38 v_length v_bytes (v_token) (v_number) (v_next)) else (gd (inB v_next 300) (if (v_bytes (v_next).toNatClampNeg) = (32 : Int32) then (f_X7_readToken_b0 v_length v_bytes v_token v_number n0 ((v_next + (1 : Int32)))) else (f_X7_readToken_b38 v_length v_bytes (v_token) (v_number) (v_next))))
def f_X7_readToken  (v_length : Int32) (v_token : Int32) (v_place : Int32) (v_number : Int32) (v_next : Int32) (v_bytes : (Nat → Int32))  : Option (Int32 × Int32 × Int32 × Int32) := f_X7_readToken_b0 v_length v_bytes (v_token) (v_number) zF (v_next)
abbrev rm_X7_readToken : Room := { frames := 7, cells := 0, slots := 0, locals := 127 }
set_option maxHeartbeats 4000000 in
set_option maxRecDepth 100000 in
theorem c_X7_readToken (l : Launch) (G : zG) (KV : zKV) (sz : Nat) (a_this : Nat) (a_this_bytes : Nat) (v_length : Int32) (v_token : Int32) (v_place : Int32) (v_number : Int32) (v_next : Int32) (v_bytes : (Nat → Int32)) (R1 : Int32) (R2 : Int32) (R3 : Int32) (R4 : Int32) (hf : f_X7_readToken v_length v_token v_place v_number v_next v_bytes = some (R1, R2, R3, R4)) : Met l yX7_readToken wsX7_readToken rm_X7_readToken (va_Pc [.ref a_this] (zBs G KV [(a_this, .inr (7, [.ref a_this_bytes, .int v_length, .int v_token, .int v_place, .int v_number, .int v_next])), (a_this_bytes, .inl (G.2.2.1, 300, .inl v_bytes))] sz)) (zQ G none [(a_this, .inr (7, [.ref a_this_bytes, .int v_length, .int R1, .int R2, .int R3, .int R4])), (a_this_bytes, .inl (G.2.2.1, 300, .inl v_bytes))] (va_A [(a_this, .inr (7, [.ref a_this_bytes, .int v_length, .int v_token, .int v_place, .int v_number, .int v_next])), (a_this_bytes, .inl (G.2.2.1, 300, .inl v_bytes))] sz)) 0 0 (va_A [(a_this, .inr (7, [.ref a_this_bytes, .int v_length, .int v_token, .int v_place, .int v_number, .int v_next])), (a_this_bytes, .inl (G.2.2.1, 300, .inl v_bytes))] sz) := by
  refine Met.ofW (cc := cX7_readToken) (maxL := 1) (ret := none) (by decide) rfl ?_
  intro p e s m args below meth c s₁ B hml hv
  obtain ⟨hargs, ⟨hsz, hP, hD0, hE⟩, hZ⟩ := hv
  have hx := B.exec
  have hb := B.bytes
  have hr := B.returns
  have hts := atoms_spec (ws := wsX7_readToken) B.pre
  have hown : s.vm.findClass RX7 = some m.cls := findClass_of_methodNamed B.named
  have hlocks := B.notSynchronized
  have hK := hE.1
  have hC : CallFix p m c cX7_readToken 1 s args wsX7_readToken RX7 := ⟨hx, hb, hml, hown, hts⟩
  have inX7 : ∀ w ∈ wsX70, w ∈ wsX7_readToken := by decide +kernel
  have lk9 := hts (.fieldLink RX7 9 "SkyLeases$Text" "bytes" "[C") (by decide +kernel)
  have lk15 := hts (.fieldLink RX7 15 "SkyLeases$Text" "length" "I") (by decide +kernel)
  have lk19 := hts (.fieldLink RX7 19 "SkyLeases$Text" "token" "I") (by decide +kernel)
  have lk22 := hts (.fieldLink RX7 22 "SkyLeases$Text" "place" "I") (by decide +kernel)
  have lk28 := hts (.fieldLink RX7 28 "SkyLeases$Text" "next" "I") (by decide +kernel)
  subst hsz
  have hD := hD0.self (sz := s.heap.size)
  generalize hAe : va_A [(a_this, .inr (7, [.ref a_this_bytes, .int v_length, .int v_token, .int v_place, .int v_number, .int v_next])), (a_this_bytes, .inl (G.2.2.1, 300, .inl v_bytes))] s.heap.size = A at hD hZ ⊢
  have hA : ∀ q : Nat, s.heap.size ≤ q → A q := fun q h => by rw [← hAe]; exact Or.inr h
  have hS : va_S A s.heap s.heap [] := va_S.rf
  have hP : va_P G.1 vwCl [(a_this, .inr (7, [.ref a_this_bytes, .int v_length, .int v_token, .int v_place, .int v_number, .int v_next])), (a_this_bytes, .inl (G.2.2.1, 300, .inl v_bytes))] s.heap := hP
  have hl := lv_entry ([.ref a_this]) (n := 1) (Nat.le_of_ble_eq_true rfl)
  have hent : entryFrame m args 1 = F0 m 0 ((lg_sl ([.ref a_this]) ++ List.replicate (1 - (lg_sl ([.ref a_this])).length) Slot.unset).toArray) [] := by rw [hargs]; exact lg_entry_eq m [.ref a_this] 1
  refine W.eq hent ?_
  clear hent
  generalize (lg_sl ([.ref a_this]) ++ List.replicate (1 - (lg_sl ([.ref a_this])).length) Slot.unset).toArray = ls at hl ⊢
  have hl : lv_has ls 1 [(0, .ref a_this)] := hl
  generalize hQ : MQ below _ args s 0 0 _ = QQ
  change W p l e rm_X7_readToken s m args below meth c s.heap [] 0 0 QQ _
  have j129 : ∀ (t1 : Int32), ∀ (v_token : Int32), ∀ (v_place : Int32), ∀ (v_number : Int32), ∀ (v_next : Int32), ∀ (ls : Array Slot), lv_has ls 1 [(0, .ref a_this)] → ∀ (H : Heap) (locs : List Loc), va_P G.1 vwCl [(a_this, .inr (7, [.ref a_this_bytes, .int v_length, .int v_token, .int v_place, .int v_number, .int v_next])), (a_this_bytes, .inl (G.2.2.1, 300, .inl v_bytes))] H → va_D A [(a_this, .inr (7, [.ref a_this_bytes, .int v_length, .int v_token, .int v_place, .int v_number, .int v_next])), (a_this_bytes, .inl (G.2.2.1, 300, .inl v_bytes))] → va_S A s.heap H locs → f_X7_readToken_b129 t1 v_place v_number v_next = some (R1, R2, R3, R4) → W p l e rm_X7_readToken s m args below meth c H locs 0 0 QQ (F0 m 129 ls [.int t1, .ref a_this]) := by
    intro t1 v_token v_place v_number v_next ls hl H locs hP hD hS hf
    unfold f_X7_readToken_b129 at hf
    refine va_put (D := G.1) (ci := 7) (v := .int t1) (ty := .int) (C := RX7) (T := TX7) (N := 6) hx hb hts inX7 tyX7 tyX7_ok nmX7 hown hK hP hD hS 0 rfl rfl 2 (by decide) lk19 (fun _ h9 => h9) rfl (by decide +kernel) rfl rfl (Nat.le_of_ble_eq_true rfl) dX7_readToken_129 (fun H locs hP hD hS => ?_)
    have hP : va_P G.1 vwCl [(a_this, .inr (7, [.ref a_this_bytes, .int v_length, .int t1, .int v_place, .int v_number, .int v_next])), (a_this_bytes, .inl (G.2.2.1, 300, .inl v_bytes))] H := hP
    have hD : va_D A [(a_this, .inr (7, [.ref a_this_bytes, .int v_length, .int t1, .int v_place, .int v_number, .int v_next])), (a_this_bytes, .inl (G.2.2.1, 300, .inl v_bytes))] := hD
    refine lv_aload_n hx hb dX7_readToken_132 rfl (lv_at hl 0 rfl) ?_
    refine lv_dup hx hb dX7_readToken_133 rfl ?_
    refine va_get (D := G.1) (ci := 7) (v := .int v_next) (C := RX7) (T := TX7) (N := 6) hx hb hts inX7 hown hK hP 0 rfl rfl 5 (by decide) lk28 (fun _ h9 => h9) rfl dX7_readToken_134 ?_
    refine lv_iconst (v := (1 : Int32)) hx hb dX7_readToken_137 (by decide) ?_
    refine lv_iadd hx hb dX7_readToken_138 ?_
    refine va_put (D := G.1) (ci := 7) (v := .int (v_next + (1 : Int32))) (ty := .int) (C := RX7) (T := TX7) (N := 6) hx hb hts inX7 tyX7 tyX7_ok nmX7 hown hK hP hD hS 0 rfl rfl 5 (by decide) lk28 (fun _ h9 => h9) rfl (by decide +kernel) rfl rfl (Nat.le_of_ble_eq_true rfl) dX7_readToken_139 (fun H locs hP hD hS => ?_)
    have hP : va_P G.1 vwCl [(a_this, .inr (7, [.ref a_this_bytes, .int v_length, .int t1, .int v_place, .int v_number, .int (v_next + (1 : Int32))])), (a_this_bytes, .inl (G.2.2.1, 300, .inl v_bytes))] H := hP
    have hD : va_D A [(a_this, .inr (7, [.ref a_this_bytes, .int v_length, .int t1, .int v_place, .int v_number, .int (v_next + (1 : Int32))])), (a_this_bytes, .inl (G.2.2.1, 300, .inl v_bytes))] := hD
    obtain ⟨hr0, hr1, hr2, hr3⟩ := so4 hf
    subst hr0
    subst hr1
    subst hr2
    subst hr3
    rw [← hQ]
    exact W.vret hx hb hr (fun t ht hW => ⟨⟨rfl, by rw [ht]; exact hP⟩, hS.F ht⟩) hS.2.2 dX7_readToken_142
  have j38 : ∀ (v_token : Int32), ∀ (v_place : Int32), ∀ (v_number : Int32), ∀ (v_next : Int32), ∀ (ls : Array Slot), lv_has ls 1 [(0, .ref a_this)] → ∀ (H : Heap) (locs : List Loc), va_P G.1 vwCl [(a_this, .inr (7, [.ref a_this_bytes, .int v_length, .int v_token, .int v_place, .int v_number, .int v_next])), (a_this_bytes, .inl (G.2.2.1, 300, .inl v_bytes))] H → va_D A [(a_this, .inr (7, [.ref a_this_bytes, .int v_length, .int v_token, .int v_place, .int v_number, .int v_next])), (a_this_bytes, .inl (G.2.2.1, 300, .inl v_bytes))] → va_S A s.heap H locs → f_X7_readToken_b38 v_length v_bytes v_token v_number v_next = some (R1, R2, R3, R4) → W p l e rm_X7_readToken s m args below meth c H locs 0 0 QQ (F0 m 38 ls []) := by
    intro v_token v_place v_number v_next ls hl H locs hP hD hS hf
    unfold f_X7_readToken_b38 at hf
    refine lv_aload_n hx hb dX7_readToken_38 rfl (lv_at hl 0 rfl) ?_
    refine lv_aload_n hx hb dX7_readToken_39 rfl (lv_at hl 0 rfl) ?_
    refine va_get (D := G.1) (ci := 7) (v := .int v_next) (C := RX7) (T := TX7) (N := 6) hx hb hts inX7 hown hK hP 0 rfl rfl 5 (by decide) lk28 (fun _ h9 => h9) rfl dX7_readToken_40 ?_
    refine va_put (D := G.1) (ci := 7) (v := .int v_next) (ty := .int) (C := RX7) (T := TX7) (N := 6) hx hb hts inX7 tyX7 tyX7_ok nmX7 hown hK hP hD hS 0 rfl rfl 3 (by decide) lk22 (fun _ h9 => h9) rfl (by decide +kernel) rfl rfl (Nat.le_of_ble_eq_true rfl) dX7_readToken_43 (fun H locs hP hD hS => ?_)
    have hP : va_P G.1 vwCl [(a_this, .inr (7, [.ref a_this_bytes, .int v_length, .int v_token, .int v_next, .int v_number, .int v_next])), (a_this_bytes, .inl (G.2.2.1, 300, .inl v_bytes))] H := hP
    have hD : va_D A [(a_this, .inr (7, [.ref a_this_bytes, .int v_length, .int v_token, .int v_next, .int v_number, .int v_next])), (a_this_bytes, .inl (G.2.2.1, 300, .inl v_bytes))] := hD
    refine lv_aload_n hx hb dX7_readToken_46 rfl (lv_at hl 0 rfl) ?_
    refine va_get (D := G.1) (ci := 7) (v := .int v_next) (C := RX7) (T := TX7) (N := 6) hx hb hts inX7 hown hK hP 0 rfl rfl 5 (by decide) lk28 (fun _ h9 => h9) rfl dX7_readToken_47 ?_
    refine lv_aload_n hx hb dX7_readToken_50 rfl (lv_at hl 0 rfl) ?_
    refine va_get (D := G.1) (ci := 7) (v := .int v_length) (C := RX7) (T := TX7) (N := 6) hx hb hts inX7 hown hK hP 0 rfl rfl 1 (by decide) lk15 (fun _ h9 => h9) rfl dX7_readToken_51 ?_
    refine lv_icmp_lt (tgt := 65) hx hb dX7_readToken_54 (by decide) (fun hc18 => ?_) (fun hc18 => ?_)
    · have hf := if_t hf hc18
      refine lv_aload_n hx hb dX7_readToken_65 rfl (lv_at hl 0 rfl) ?_
      refine va_get (D := G.1) (ci := 7) (v := .ref a_this_bytes) (C := RX7) (T := TX7) (N := 6) hx hb hts inX7 hown hK hP 0 rfl rfl 0 (by decide) lk9 (fun _ h9 => h9) rfl dX7_readToken_66 ?_
      refine lv_aload_n hx hb dX7_readToken_69 rfl (lv_at hl 0 rfl) ?_
      refine va_get (D := G.1) (ci := 7) (v := .int v_next) (C := RX7) (T := TX7) (N := 6) hx hb hts inX7 hown hK hP 0 rfl rfl 5 (by decide) lk28 (fun _ h9 => h9) rfl dX7_readToken_70 ?_
      obtain ⟨hg19, hf⟩ := gd_some hf
      refine va_cald hx hb hK hP 1 1 rfl rfl (inB_in hg19) dX7_readToken_73 ?_
      obtain ⟨r20, hu, hf⟩ := bd1_some hf
      refine zRi (va_runS (As := [.int (v_bytes (v_next).toNatClampNeg)]) (rest := []) hC (c_X7_isDigit l G ((v_bytes (v_next).toNatClampNeg)) r20 hu) (va_cwS 1 hts gX7_readToken_X7_isDigit rfl rfl rfl hd_X7_isDigit.2 ⟨(Nat.le_of_ble_eq_true rfl), (Nat.le_of_ble_eq_true rfl)⟩) (zPS hE hP [] rfl) rfl rfl hl.1 rfl (lv_room (Nat.le_of_ble_eq_true rfl)) dX7_readToken_74 ⟨Nat.zero_le _, Nat.zero_le _⟩) ?_
      refine lv_if_eq (tgt := 87) hx hb dX7_readToken_77 (by decide) (fun hc21 => ?_) (fun hc21 => ?_)
      · have hf := if_t hf hc21
        refine lv_aload_n hx hb dX7_readToken_87 rfl (lv_at hl 0 rfl) ?_
        refine va_get (D := G.1) (ci := 7) (v := .ref a_this_bytes) (C := RX7) (T := TX7) (N := 6) hx hb hts inX7 hown hK hP 0 rfl rfl 0 (by decide) lk9 (fun _ h9 => h9) rfl dX7_readToken_88 ?_
        refine lv_aload_n hx hb dX7_readToken_91 rfl (lv_at hl 0 rfl) ?_
        refine va_get (D := G.1) (ci := 7) (v := .int v_next) (C := RX7) (T := TX7) (N := 6) hx hb hts inX7 hown hK hP 0 rfl rfl 5 (by decide) lk28 (fun _ h9 => h9) rfl dX7_readToken_92 ?_
        obtain ⟨hg22, hf⟩ := gd_some hf
        refine va_cald hx hb hK hP 1 1 rfl rfl (inB_in hg22) dX7_readToken_95 ?_
        obtain ⟨r23, hu, hf⟩ := bd1_some hf
        refine zRi (va_runS (As := [.int (v_bytes (v_next).toNatClampNeg)]) (rest := []) hC (c_X7_isLetter l G ((v_bytes (v_next).toNatClampNeg)) r23 hu) (va_cwS 1 hts gX7_readToken_X7_isLetter rfl rfl rfl hd_X7_isLetter.2 ⟨(Nat.le_of_ble_eq_true rfl), (Nat.le_of_ble_eq_true rfl)⟩) (zPS hE hP [] rfl) rfl rfl hl.1 rfl (lv_room (Nat.le_of_ble_eq_true rfl)) dX7_readToken_96 ⟨Nat.zero_le _, Nat.zero_le _⟩) ?_
        refine lv_if_eq (tgt := 109) hx hb dX7_readToken_99 (by decide) (fun hc24 => ?_) (fun hc24 => ?_)
        · have hf := if_t hf hc24
          refine lv_aload_n hx hb dX7_readToken_109 rfl (lv_at hl 0 rfl) ?_
          refine lv_aload_n hx hb dX7_readToken_110 rfl (lv_at hl 0 rfl) ?_
          refine va_get (D := G.1) (ci := 7) (v := .ref a_this_bytes) (C := RX7) (T := TX7) (N := 6) hx hb hts inX7 hown hK hP 0 rfl rfl 0 (by decide) lk9 (fun _ h9 => h9) rfl dX7_readToken_111 ?_
          refine lv_aload_n hx hb dX7_readToken_114 rfl (lv_at hl 0 rfl) ?_
          refine va_get (D := G.1) (ci := 7) (v := .int v_next) (C := RX7) (T := TX7) (N := 6) hx hb hts inX7 hown hK hP 0 rfl rfl 5 (by decide) lk28 (fun _ h9 => h9) rfl dX7_readToken_115 ?_
          obtain ⟨hg25, hf⟩ := gd_some hf
          refine va_cald hx hb hK hP 1 1 rfl rfl (inB_in hg25) dX7_readToken_118 ?_
          refine lv_bipush (v := (59 : Int32)) hx hb dX7_readToken_119 (by decide) ?_
          refine lv_icmp_ne (tgt := 128) hx hb dX7_readToken_121 (by decide) (fun hc26 => ?_) (fun hc26 => ?_)
          · have hf := if_f hf hc26
            refine lv_iconst (v := (1 : Int32)) hx hb dX7_readToken_128 (by decide) ?_
            exact j129 ((1 : Int32)) (v_token) (v_next) (v_number) (v_next) ls (lv_sub hl [0] rfl) _ _ hP hD hS hf
          · have hf := if_t hf hc26
            refine lv_iconst (v := (3 : Int32)) hx hb dX7_readToken_124 (by decide) ?_
            refine lv_goto (tgt := 129) hx hb dX7_readToken_125 (by decide) ?_
            exact j129 ((3 : Int32)) (v_token) (v_next) (v_number) (v_next) ls (lv_sub hl [0] rfl) _ _ hP hD hS hf
        · have hf := if_f hf hc24
          refine lv_aload_n hx hb dX7_readToken_102 rfl (lv_at hl 0 rfl) ?_
          obtain ⟨w27, w28, hu, hf⟩ := bd2_some hf
          refine zWn (wr := []) (ws2 := [(a_this, .inr (7, [.ref a_this_bytes, .int v_length, .int w27, .int v_next, .int v_number, .int w28])), (a_this_bytes, .inl (G.2.2.1, 300, .inl v_bytes))]) (va_runV (As := []) (rest := []) hC (c_X7_readWord l G KV _ a_this a_this_bytes (v_length) (v_token) (v_next) (v_number) (v_next) (v_bytes) w27 w28 hu) (cwV 0 hts gX7_readToken_X7_readWord rfl rfl rfl hd_X7_readWord ⟨(Nat.le_of_ble_eq_true rfl), (Nat.le_of_ble_eq_true rfl)⟩) (zPVwo hE hZ hS hA hP hD [0, 1] rfl rfl 0 rfl rfl) rfl rfl hl.1 rfl (lv_room (Nat.le_of_ble_eq_true rfl)) dX7_readToken_103 ⟨Nat.zero_le _, Nat.zero_le _⟩) hP hD hS hA [0, 1] [] [0, 1] rfl rfl rfl rfl (by decide) rfl rfl rfl (fun H locs hP hD hS => ?_)
          refine lv_goto (tgt := 142) hx hb dX7_readToken_106 (by decide) ?_
          obtain ⟨hr0, hr1, hr2, hr3⟩ := so4 hf
          subst hr0
          subst hr1
          subst hr2
          subst hr3
          rw [← hQ]
          exact W.vret hx hb hr (fun t ht hW => ⟨⟨rfl, by rw [ht]; exact hP⟩, hS.F ht⟩) hS.2.2 dX7_readToken_142
      · have hf := if_f hf hc21
        refine lv_aload_n hx hb dX7_readToken_80 rfl (lv_at hl 0 rfl) ?_
        obtain ⟨w29, w30, w31, hu, hf⟩ := bd3_some hf
        refine zWn (wr := []) (ws2 := [(a_this, .inr (7, [.ref a_this_bytes, .int v_length, .int w29, .int v_next, .int w30, .int w31])), (a_this_bytes, .inl (G.2.2.1, 300, .inl v_bytes))]) (va_runV (As := []) (rest := []) hC (c_X7_readNumber l G _ a_this a_this_bytes (v_length) (v_token) (v_next) (v_number) (v_next) (v_bytes) w29 w30 w31 hu) (cwV 0 hts gX7_readToken_X7_readNumber rfl rfl rfl hd_X7_readNumber ⟨(Nat.le_of_ble_eq_true rfl), (Nat.le_of_ble_eq_true rfl)⟩) (zPVw hE hP hD [0, 1] rfl rfl 0 rfl rfl) rfl rfl hl.1 rfl (lv_room (Nat.le_of_ble_eq_true rfl)) dX7_readToken_81 ⟨Nat.zero_le _, Nat.zero_le _⟩) hP hD hS hA [0, 1] [] [0, 1] rfl rfl rfl rfl (by decide) rfl rfl rfl (fun H locs hP hD hS => ?_)
        refine lv_goto (tgt := 142) hx hb dX7_readToken_84 (by decide) ?_
        obtain ⟨hr0, hr1, hr2, hr3⟩ := so4 hf
        subst hr0
        subst hr1
        subst hr2
        subst hr3
        rw [← hQ]
        exact W.vret hx hb hr (fun t ht hW => ⟨⟨rfl, by rw [ht]; exact hP⟩, hS.F ht⟩) hS.2.2 dX7_readToken_142
    · have hf := if_f hf hc18
      refine lv_aload_n hx hb dX7_readToken_57 rfl (lv_at hl 0 rfl) ?_
      refine lv_iconst (v := (0 : Int32)) hx hb dX7_readToken_58 (by decide) ?_
      refine va_put (D := G.1) (ci := 7) (v := .int (0 : Int32)) (ty := .int) (C := RX7) (T := TX7) (N := 6) hx hb hts inX7 tyX7 tyX7_ok nmX7 hown hK hP hD hS 0 rfl rfl 2 (by decide) lk19 (fun _ h9 => h9) rfl (by decide +kernel) rfl rfl (Nat.le_of_ble_eq_true rfl) dX7_readToken_59 (fun H locs hP hD hS => ?_)
      have hP : va_P G.1 vwCl [(a_this, .inr (7, [.ref a_this_bytes, .int v_length, .int (0 : Int32), .int v_next, .int v_number, .int v_next])), (a_this_bytes, .inl (G.2.2.1, 300, .inl v_bytes))] H := hP
      have hD : va_D A [(a_this, .inr (7, [.ref a_this_bytes, .int v_length, .int (0 : Int32), .int v_next, .int v_number, .int v_next])), (a_this_bytes, .inl (G.2.2.1, 300, .inl v_bytes))] := hD
      refine lv_goto (tgt := 142) hx hb dX7_readToken_62 (by decide) ?_
      obtain ⟨hr0, hr1, hr2, hr3⟩ := so4 hf
      subst hr0
      subst hr1
      subst hr2
      subst hr3
      rw [← hQ]
      exact W.vret hx hb hr (fun t ht hW => ⟨⟨rfl, by rw [ht]; exact hP⟩, hS.F ht⟩) hS.2.2 dX7_readToken_142
  have j0 : ∀ (v_token : Int32), ∀ (v_place : Int32), ∀ (v_number : Int32), ∀ (nn : Nat), ∀ (v_next : Int32), ∀ (ls : Array Slot), lv_has ls 1 [(0, .ref a_this)] → ∀ (H : Heap) (locs : List Loc), va_P G.1 vwCl [(a_this, .inr (7, [.ref a_this_bytes, .int v_length, .int v_token, .int v_place, .int v_number, .int v_next])), (a_this_bytes, .inl (G.2.2.1, 300, .inl v_bytes))] H → va_D A [(a_this, .inr (7, [.ref a_this_bytes, .int v_length, .int v_token, .int v_place, .int v_number, .int v_next])), (a_this_bytes, .inl (G.2.2.1, 300, .inl v_bytes))] → va_S A s.heap H locs → f_X7_readToken_b0 v_length v_bytes v_token v_number nn v_next = some (R1, R2, R3, R4) → W p l e rm_X7_readToken s m args below meth c H locs 0 0 QQ (F0 m 0 ls []) := by
    intro v_token v_place v_number
    intro nn
    induction nn with
    | zero =>
      intro v_next ls hl H locs hP hD hS hf
      rw [f_X7_readToken_b0] at hf
      cases hf
    | succ n0 ih =>
      intro v_next ls hl H locs hP hD hS hf
      rw [f_X7_readToken_b0] at hf
      refine lv_aload_n hx hb dX7_readToken_0 rfl (lv_at hl 0 rfl) ?_
      refine va_get (D := G.1) (ci := 7) (v := .int v_next) (C := RX7) (T := TX7) (N := 6) hx hb hts inX7 hown hK hP 0 rfl rfl 5 (by decide) lk28 (fun _ h9 => h9) rfl dX7_readToken_1 ?_
      refine lv_aload_n hx hb dX7_readToken_4 rfl (lv_at hl 0 rfl) ?_
      refine va_get (D := G.1) (ci := 7) (v := .int v_length) (C := RX7) (T := TX7) (N := 6) hx hb hts inX7 hown hK hP 0 rfl rfl 1 (by decide) lk15 (fun _ h9 => h9) rfl dX7_readToken_5 ?_
      refine lv_icmp_ge (tgt := 38) hx hb dX7_readToken_8 (by decide) (fun hc32 => ?_) (fun hc32 => ?_)
      · have hf := if_t hf hc32
        exact j38 (v_token) (v_place) (v_number) (v_next) ls (lv_sub hl [0] rfl) _ _ hP hD hS hf
      · have hf := if_f hf hc32
        refine lv_aload_n hx hb dX7_readToken_11 rfl (lv_at hl 0 rfl) ?_
        refine va_get (D := G.1) (ci := 7) (v := .ref a_this_bytes) (C := RX7) (T := TX7) (N := 6) hx hb hts inX7 hown hK hP 0 rfl rfl 0 (by decide) lk9 (fun _ h9 => h9) rfl dX7_readToken_12 ?_
        refine lv_aload_n hx hb dX7_readToken_15 rfl (lv_at hl 0 rfl) ?_
        refine va_get (D := G.1) (ci := 7) (v := .int v_next) (C := RX7) (T := TX7) (N := 6) hx hb hts inX7 hown hK hP 0 rfl rfl 5 (by decide) lk28 (fun _ h9 => h9) rfl dX7_readToken_16 ?_
        obtain ⟨hg33, hf⟩ := gd_some hf
        refine va_cald hx hb hK hP 1 1 rfl rfl (inB_in hg33) dX7_readToken_19 ?_
        refine lv_bipush (v := (32 : Int32)) hx hb dX7_readToken_20 (by decide) ?_
        refine lv_icmp_ne (tgt := 38) hx hb dX7_readToken_22 (by decide) (fun hc34 => ?_) (fun hc34 => ?_)
        · have hf := if_f hf hc34
          exact j38 (v_token) (v_place) (v_number) (v_next) ls (lv_sub hl [0] rfl) _ _ hP hD hS hf
        · have hf := if_t hf hc34
          refine lv_aload_n hx hb dX7_readToken_25 rfl (lv_at hl 0 rfl) ?_
          refine lv_dup hx hb dX7_readToken_26 rfl ?_
          refine va_get (D := G.1) (ci := 7) (v := .int v_next) (C := RX7) (T := TX7) (N := 6) hx hb hts inX7 hown hK hP 0 rfl rfl 5 (by decide) lk28 (fun _ h9 => h9) rfl dX7_readToken_27 ?_
          refine lv_iconst (v := (1 : Int32)) hx hb dX7_readToken_30 (by decide) ?_
          refine lv_iadd hx hb dX7_readToken_31 ?_
          refine va_put (D := G.1) (ci := 7) (v := .int (v_next + (1 : Int32))) (ty := .int) (C := RX7) (T := TX7) (N := 6) hx hb hts inX7 tyX7 tyX7_ok nmX7 hown hK hP hD hS 0 rfl rfl 5 (by decide) lk28 (fun _ h9 => h9) rfl (by decide +kernel) rfl rfl (Nat.le_of_ble_eq_true rfl) dX7_readToken_32 (fun H locs hP hD hS => ?_)
          have hP : va_P G.1 vwCl [(a_this, .inr (7, [.ref a_this_bytes, .int v_length, .int v_token, .int v_place, .int v_number, .int (v_next + (1 : Int32))])), (a_this_bytes, .inl (G.2.2.1, 300, .inl v_bytes))] H := hP
          have hD : va_D A [(a_this, .inr (7, [.ref a_this_bytes, .int v_length, .int v_token, .int v_place, .int v_number, .int (v_next + (1 : Int32))])), (a_this_bytes, .inl (G.2.2.1, 300, .inl v_bytes))] := hD
          refine lv_goto (tgt := 0) hx hb dX7_readToken_35 (by decide) ?_
          exact ih ((v_next + (1 : Int32))) ls (lv_sub hl [0] rfl) _ _ hP hD hS hf
  have hSH := hS
  unfold f_X7_readToken at hf
  exact j0 (v_token) (v_place) (v_number) zF (v_next) ls (lv_sub hl [0] rfl) _ _ hP hD hS hf
