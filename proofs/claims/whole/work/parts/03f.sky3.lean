def f_X8_tenantRate  (v_traced : Int64) (v_now_purses : (Nat → Int32)) (g1 : Int32) : Option (Int32 × Int64) := nm ((v_traced + (1 : Int64))) fun y3 => gd (inB g1 4) (some ((v_now_purses (g1).toNatClampNeg), y3))
abbrev rm_X8_tenantRate : Room := { frames := 0, cells := 0, slots := 0, locals := 0 }
set_option maxHeartbeats 4000000 in
set_option maxRecDepth 100000 in
theorem c_X8_tenantRate (l : Launch) (G : zG) (sz : Nat) (a_this : Nat) (a_this_now : Nat) (a_this_now_purses : Nat) (a_this_text : Nat) (a_this_reader : Nat) (a_this_told : Nat) (a_this_draft : Nat) (a_this_firstImage : Nat) (a_this_secondImage : Nat) (a_this_kept : Nat) (a_this_offers : Nat) (a_this_seen : Nat) (a_this_rents : Nat) (a_this_now_leases : Nat) (a_this_now_past : Nat) (v_traced : Int64) (v_now_night : Int32) (v_now_lot : Int32) (v_now_purses : (Nat → Int32)) (g1 : Int32) (R0 : Int32) (R1 : Int64) (hf : f_X8_tenantRate v_traced v_now_purses g1 = some (R0, R1)) : Met l yX8_tenantRate wsX8_tenantRate rm_X8_tenantRate (va_Pc [.ref a_this, .int g1] (zB G [(a_this, .inr (8, [.ref a_this_text, .ref a_this_reader, .ref a_this_told, .ref a_this_draft, .ref a_this_now, .ref a_this_firstImage, .ref a_this_secondImage, .ref a_this_kept, .ref a_this_offers, .ref a_this_seen, .ref a_this_rents, .long v_traced])), (a_this_now, .inr (0, [.int v_now_night, .int v_now_lot, .ref a_this_now_purses, .ref a_this_now_leases, .ref a_this_now_past])), (a_this_now_purses, .inl (G.2.1, 4, .inl v_now_purses))] sz)) (zQ G (some (.int R0)) [(a_this, .inr (8, [.ref a_this_text, .ref a_this_reader, .ref a_this_told, .ref a_this_draft, .ref a_this_now, .ref a_this_firstImage, .ref a_this_secondImage, .ref a_this_kept, .ref a_this_offers, .ref a_this_seen, .ref a_this_rents, .long R1])), (a_this_now, .inr (0, [.int v_now_night, .int v_now_lot, .ref a_this_now_purses, .ref a_this_now_leases, .ref a_this_now_past])), (a_this_now_purses, .inl (G.2.1, 4, .inl v_now_purses))] (va_A [(a_this, .inr (8, [.ref a_this_text, .ref a_this_reader, .ref a_this_told, .ref a_this_draft, .ref a_this_now, .ref a_this_firstImage, .ref a_this_secondImage, .ref a_this_kept, .ref a_this_offers, .ref a_this_seen, .ref a_this_rents, .long v_traced])), (a_this_now, .inr (0, [.int v_now_night, .int v_now_lot, .ref a_this_now_purses, .ref a_this_now_leases, .ref a_this_now_past])), (a_this_now_purses, .inl (G.2.1, 4, .inl v_now_purses))] sz)) 0 0 (va_A [(a_this, .inr (8, [.ref a_this_text, .ref a_this_reader, .ref a_this_told, .ref a_this_draft, .ref a_this_now, .ref a_this_firstImage, .ref a_this_secondImage, .ref a_this_kept, .ref a_this_offers, .ref a_this_seen, .ref a_this_rents, .long v_traced])), (a_this_now, .inr (0, [.int v_now_night, .int v_now_lot, .ref a_this_now_purses, .ref a_this_now_leases, .ref a_this_now_past])), (a_this_now_purses, .inl (G.2.1, 4, .inl v_now_purses))] sz) := by
  refine Met.ofW (cc := cX8_tenantRate) (maxL := 2) (ret := (some .int)) (by decide) rfl ?_
  intro p e s m args below meth c s₁ B hml hv
  obtain ⟨hargs, hsz, hP, hD0, hE⟩ := hv
  have hx := B.exec
  have hb := B.bytes
  have hr := B.returns
  have hts := atoms_spec (ws := wsX8_tenantRate) B.pre
  have hown : s.vm.findClass RX8 = some m.cls := findClass_of_methodNamed B.named
  have hlocks := B.notSynchronized
  have hK := hE.1
  have hC : CallFix p m c cX8_tenantRate 2 s args wsX8_tenantRate RX8 := ⟨hx, hb, hml, hown, hts⟩
  have inX0 : ∀ w ∈ wsX00, w ∈ wsX8_tenantRate := by decide +kernel
  have inX8 : ∀ w ∈ wsX80, w ∈ wsX8_tenantRate := by decide +kernel
  have lk36 := hts (.fieldLink RX8 36 "SkyLeases" "now" "LSkyLeases$Now;") (by decide +kernel)
  have lk68 := hts (.fieldLink RX8 68 "SkyLeases" "traced" "J") (by decide +kernel)
  have lk153 := hts (.fieldLink RX8 153 "SkyLeases$Now" "purses" "[I") (by decide +kernel)
  subst hsz
  have hD := hD0.self (sz := s.heap.size)
  generalize hAe : va_A [(a_this, .inr (8, [.ref a_this_text, .ref a_this_reader, .ref a_this_told, .ref a_this_draft, .ref a_this_now, .ref a_this_firstImage, .ref a_this_secondImage, .ref a_this_kept, .ref a_this_offers, .ref a_this_seen, .ref a_this_rents, .long v_traced])), (a_this_now, .inr (0, [.int v_now_night, .int v_now_lot, .ref a_this_now_purses, .ref a_this_now_leases, .ref a_this_now_past])), (a_this_now_purses, .inl (G.2.1, 4, .inl v_now_purses))] s.heap.size = A at hD ⊢
  have hA : ∀ q : Nat, s.heap.size ≤ q → A q := fun q h => by rw [← hAe]; exact Or.inr h
  have hS : va_S A s.heap s.heap [] := va_S.rf
  have hP : va_P G.1 vwCl [(a_this, .inr (8, [.ref a_this_text, .ref a_this_reader, .ref a_this_told, .ref a_this_draft, .ref a_this_now, .ref a_this_firstImage, .ref a_this_secondImage, .ref a_this_kept, .ref a_this_offers, .ref a_this_seen, .ref a_this_rents, .long v_traced])), (a_this_now, .inr (0, [.int v_now_night, .int v_now_lot, .ref a_this_now_purses, .ref a_this_now_leases, .ref a_this_now_past])), (a_this_now_purses, .inl (G.2.1, 4, .inl v_now_purses))] s.heap := hP
  have hl := lv_entry ([.ref a_this, .int g1]) (n := 2) (Nat.le_of_ble_eq_true rfl)
  have hent : entryFrame m args 2 = F0 m 0 ((lg_sl ([.ref a_this, .int g1]) ++ List.replicate (2 - (lg_sl ([.ref a_this, .int g1])).length) Slot.unset).toArray) [] := by rw [hargs]; exact lg_entry_eq m [.ref a_this, .int g1] 2
  refine W.eq hent ?_
  clear hent
  generalize (lg_sl ([.ref a_this, .int g1]) ++ List.replicate (2 - (lg_sl ([.ref a_this, .int g1])).length) Slot.unset).toArray = ls at hl ⊢
  have hl : lv_has ls 2 [(0, .ref a_this), (1, .int g1)] := hl
  generalize hQ : MQ below _ args s 0 0 _ = QQ
  change W p l e rm_X8_tenantRate s m args below meth c s.heap [] 0 0 QQ _
  have hSH := hS
  unfold f_X8_tenantRate at hf
  refine lv_aload_n hx hb dX8_tenantRate_0 rfl (lv_at hl 0 rfl) ?_
  refine lv_dup hx hb dX8_tenantRate_1 rfl ?_
  refine va_get (D := G.1) (ci := 8) (v := .long v_traced) (C := RX8) (T := TX8) (N := 12) hx hb hts inX8 hown hK hP 0 rfl rfl 11 (by decide) lk68 (fun _ h9 => h9) rfl dX8_tenantRate_2 ?_
  refine lv_lconst (v := (1 : Int64)) hx hb dX8_tenantRate_5 (by decide) ?_
  refine lv_ladd hx hb dX8_tenantRate_6 ?_
  refine lv_topl (fun y3 ey3 => ?_)
  have hf := nm_to hf ey3
  refine va_put (D := G.1) (ci := 8) (v := .long y3) (ty := .long) (C := RX8) (T := TX8) (N := 12) hx hb hts inX8 tyX8 tyX8_ok nmX8 hown hK hP hD hS 0 rfl rfl 11 (by decide) lk68 (fun _ h9 => h9) rfl (by decide +kernel) rfl rfl (Nat.le_of_ble_eq_true rfl) dX8_tenantRate_7 (fun H locs hP hD hS => ?_)
  have hP : va_P G.1 vwCl [(a_this, .inr (8, [.ref a_this_text, .ref a_this_reader, .ref a_this_told, .ref a_this_draft, .ref a_this_now, .ref a_this_firstImage, .ref a_this_secondImage, .ref a_this_kept, .ref a_this_offers, .ref a_this_seen, .ref a_this_rents, .long y3])), (a_this_now, .inr (0, [.int v_now_night, .int v_now_lot, .ref a_this_now_purses, .ref a_this_now_leases, .ref a_this_now_past])), (a_this_now_purses, .inl (G.2.1, 4, .inl v_now_purses))] H := hP
  have hD : va_D A [(a_this, .inr (8, [.ref a_this_text, .ref a_this_reader, .ref a_this_told, .ref a_this_draft, .ref a_this_now, .ref a_this_firstImage, .ref a_this_secondImage, .ref a_this_kept, .ref a_this_offers, .ref a_this_seen, .ref a_this_rents, .long y3])), (a_this_now, .inr (0, [.int v_now_night, .int v_now_lot, .ref a_this_now_purses, .ref a_this_now_leases, .ref a_this_now_past])), (a_this_now_purses, .inl (G.2.1, 4, .inl v_now_purses))] := hD
  refine lv_aload_n hx hb dX8_tenantRate_10 rfl (lv_at hl 0 rfl) ?_
  refine va_get (D := G.1) (ci := 8) (v := .ref a_this_now) (C := RX8) (T := TX8) (N := 12) hx hb hts inX8 hown hK hP 0 rfl rfl 4 (by decide) lk36 (fun _ h9 => h9) rfl dX8_tenantRate_11 ?_
  refine va_get (D := G.1) (ci := 0) (v := .ref a_this_now_purses) (C := RX0) (T := TX0) (N := 5) hx hb hts inX0 hown hK hP 1 rfl rfl 2 (by decide) lk153 (fun _ h9 => h9) rfl dX8_tenantRate_14 ?_
  refine lv_iload_n hx hb dX8_tenantRate_17 rfl (lv_at hl 1 rfl) ?_
  obtain ⟨hg4, hf⟩ := gd_some hf
  refine va_iald hx hb hK hP 2 0 rfl rfl (inB_in hg4) dX8_tenantRate_18 ?_
  obtain ⟨hr0, hr1⟩ := so2 hf
  subst hr0
  subst hr1
  rw [← hQ]
  exact W.iret (v := (v_now_purses (g1).toNatClampNeg)) hx hb hr (fun t ht hW => ⟨⟨rfl, by rw [ht]; exact hP⟩, hS.F ht⟩) hS.2.2 dX8_tenantRate_19
theorem hd_X6_countOf : yX6_countOf.cls = RX6 ∧ yX6_countOf.cls ≠ "java/lang/invoke/MethodHandle" ∧ yX6_countOf.cls ≠ "java/lang/invoke/VarHandle" ∧ (parseMethodDescriptor yX6_countOf.desc).map (fun d => d.parameters.length) = some 1 := by decide +kernel
theorem hd_X8_tenantRate : yX8_tenantRate.cls = RX8 ∧ yX8_tenantRate.cls ≠ "java/lang/invoke/MethodHandle" ∧ yX8_tenantRate.cls ≠ "java/lang/invoke/VarHandle" ∧ (parseMethodDescriptor yX8_tenantRate.desc).map (fun d => d.parameters.length) = some 1 := by decide +kernel
def f_X8_cobblerRate  (v_traced : Int64) (v_now_purses : (Nat → Int32)) (v_now_leases_size : Int32) (v_now_leases_parts : (Nat → Int32)) (g1 : Int32) : Option (Int32 × Int64) := nm ((v_traced + (10 : Int64))) fun y5 => bd2 (f_X8_tenantRate (y5) (v_now_purses) (g1)) fun r6 w7 => bd1 (f_X6_countOf (v_now_leases_size) (v_now_leases_parts) (g1)) fun r8 => some ((r6 + r8), w7)
abbrev rm_X8_cobblerRate : Room := { frames := 3, cells := 0, slots := 0, locals := 67 }
set_option maxHeartbeats 4000000 in
set_option maxRecDepth 100000 in
theorem c_X8_cobblerRate (l : Launch) (G : zG) (sz : Nat) (a_this : Nat) (a_this_now : Nat) (a_this_now_purses : Nat) (a_this_now_leases : Nat) (a_this_now_leases_parts : Nat) (a_this_text : Nat) (a_this_reader : Nat) (a_this_told : Nat) (a_this_draft : Nat) (a_this_firstImage : Nat) (a_this_secondImage : Nat) (a_this_kept : Nat) (a_this_offers : Nat) (a_this_seen : Nat) (a_this_rents : Nat) (a_this_now_past : Nat) (v_traced : Int64) (v_now_night : Int32) (v_now_lot : Int32) (v_now_purses : (Nat → Int32)) (v_now_leases_most : Int32) (v_now_leases_size : Int32) (v_now_leases_parts : (Nat → Int32)) (g1 : Int32) (R0 : Int32) (R1 : Int64) (hf : f_X8_cobblerRate v_traced v_now_purses v_now_leases_size v_now_leases_parts g1 = some (R0, R1)) : Met l yX8_cobblerRate wsX8_cobblerRate rm_X8_cobblerRate (va_Pc [.ref a_this, .int g1] (zB G [(a_this, .inr (8, [.ref a_this_text, .ref a_this_reader, .ref a_this_told, .ref a_this_draft, .ref a_this_now, .ref a_this_firstImage, .ref a_this_secondImage, .ref a_this_kept, .ref a_this_offers, .ref a_this_seen, .ref a_this_rents, .long v_traced])), (a_this_now, .inr (0, [.int v_now_night, .int v_now_lot, .ref a_this_now_purses, .ref a_this_now_leases, .ref a_this_now_past])), (a_this_now_purses, .inl (G.2.1, 4, .inl v_now_purses)), (a_this_now_leases, .inr (6, [.int v_now_leases_most, .ref a_this_now_leases_parts, .int v_now_leases_size])), (a_this_now_leases_parts, .inl (G.2.1, 50, .inl v_now_leases_parts))] sz)) (zQ G (some (.int R0)) [(a_this, .inr (8, [.ref a_this_text, .ref a_this_reader, .ref a_this_told, .ref a_this_draft, .ref a_this_now, .ref a_this_firstImage, .ref a_this_secondImage, .ref a_this_kept, .ref a_this_offers, .ref a_this_seen, .ref a_this_rents, .long R1])), (a_this_now, .inr (0, [.int v_now_night, .int v_now_lot, .ref a_this_now_purses, .ref a_this_now_leases, .ref a_this_now_past])), (a_this_now_purses, .inl (G.2.1, 4, .inl v_now_purses)), (a_this_now_leases, .inr (6, [.int v_now_leases_most, .ref a_this_now_leases_parts, .int v_now_leases_size])), (a_this_now_leases_parts, .inl (G.2.1, 50, .inl v_now_leases_parts))] (va_A [(a_this, .inr (8, [.ref a_this_text, .ref a_this_reader, .ref a_this_told, .ref a_this_draft, .ref a_this_now, .ref a_this_firstImage, .ref a_this_secondImage, .ref a_this_kept, .ref a_this_offers, .ref a_this_seen, .ref a_this_rents, .long v_traced])), (a_this_now, .inr (0, [.int v_now_night, .int v_now_lot, .ref a_this_now_purses, .ref a_this_now_leases, .ref a_this_now_past])), (a_this_now_purses, .inl (G.2.1, 4, .inl v_now_purses)), (a_this_now_leases, .inr (6, [.int v_now_leases_most, .ref a_this_now_leases_parts, .int v_now_leases_size])), (a_this_now_leases_parts, .inl (G.2.1, 50, .inl v_now_leases_parts))] sz)) 0 0 (va_A [(a_this, .inr (8, [.ref a_this_text, .ref a_this_reader, .ref a_this_told, .ref a_this_draft, .ref a_this_now, .ref a_this_firstImage, .ref a_this_secondImage, .ref a_this_kept, .ref a_this_offers, .ref a_this_seen, .ref a_this_rents, .long v_traced])), (a_this_now, .inr (0, [.int v_now_night, .int v_now_lot, .ref a_this_now_purses, .ref a_this_now_leases, .ref a_this_now_past])), (a_this_now_purses, .inl (G.2.1, 4, .inl v_now_purses)), (a_this_now_leases, .inr (6, [.int v_now_leases_most, .ref a_this_now_leases_parts, .int v_now_leases_size])), (a_this_now_leases_parts, .inl (G.2.1, 50, .inl v_now_leases_parts))] sz) := by
  refine Met.ofW (cc := cX8_cobblerRate) (maxL := 2) (ret := (some .int)) (by decide) rfl ?_
  intro p e s m args below meth c s₁ B hml hv
  obtain ⟨hargs, hsz, hP, hD0, hE⟩ := hv
  have hx := B.exec
  have hb := B.bytes
  have hr := B.returns
  have hts := atoms_spec (ws := wsX8_cobblerRate) B.pre
  have hown : s.vm.findClass RX8 = some m.cls := findClass_of_methodNamed B.named
  have hlocks := B.notSynchronized
  have hK := hE.1
  have hC : CallFix p m c cX8_cobblerRate 2 s args wsX8_cobblerRate RX8 := ⟨hx, hb, hml, hown, hts⟩
  have inX0 : ∀ w ∈ wsX00, w ∈ wsX8_cobblerRate := by decide +kernel
  have inX8 : ∀ w ∈ wsX80, w ∈ wsX8_cobblerRate := by decide +kernel
  have lk36 := hts (.fieldLink RX8 36 "SkyLeases" "now" "LSkyLeases$Now;") (by decide +kernel)
  have lk68 := hts (.fieldLink RX8 68 "SkyLeases" "traced" "J") (by decide +kernel)
  have lk116 := hts (.fieldLink RX8 116 "SkyLeases$Now" "leases" "LSkyLeases$Terms;") (by decide +kernel)
  subst hsz
  have hD := hD0.self (sz := s.heap.size)
  generalize hAe : va_A [(a_this, .inr (8, [.ref a_this_text, .ref a_this_reader, .ref a_this_told, .ref a_this_draft, .ref a_this_now, .ref a_this_firstImage, .ref a_this_secondImage, .ref a_this_kept, .ref a_this_offers, .ref a_this_seen, .ref a_this_rents, .long v_traced])), (a_this_now, .inr (0, [.int v_now_night, .int v_now_lot, .ref a_this_now_purses, .ref a_this_now_leases, .ref a_this_now_past])), (a_this_now_purses, .inl (G.2.1, 4, .inl v_now_purses)), (a_this_now_leases, .inr (6, [.int v_now_leases_most, .ref a_this_now_leases_parts, .int v_now_leases_size])), (a_this_now_leases_parts, .inl (G.2.1, 50, .inl v_now_leases_parts))] s.heap.size = A at hD ⊢
  have hA : ∀ q : Nat, s.heap.size ≤ q → A q := fun q h => by rw [← hAe]; exact Or.inr h
  have hS : va_S A s.heap s.heap [] := va_S.rf
  have hP : va_P G.1 vwCl [(a_this, .inr (8, [.ref a_this_text, .ref a_this_reader, .ref a_this_told, .ref a_this_draft, .ref a_this_now, .ref a_this_firstImage, .ref a_this_secondImage, .ref a_this_kept, .ref a_this_offers, .ref a_this_seen, .ref a_this_rents, .long v_traced])), (a_this_now, .inr (0, [.int v_now_night, .int v_now_lot, .ref a_this_now_purses, .ref a_this_now_leases, .ref a_this_now_past])), (a_this_now_purses, .inl (G.2.1, 4, .inl v_now_purses)), (a_this_now_leases, .inr (6, [.int v_now_leases_most, .ref a_this_now_leases_parts, .int v_now_leases_size])), (a_this_now_leases_parts, .inl (G.2.1, 50, .inl v_now_leases_parts))] s.heap := hP
  have hl := lv_entry ([.ref a_this, .int g1]) (n := 2) (Nat.le_of_ble_eq_true rfl)
  have hent : entryFrame m args 2 = F0 m 0 ((lg_sl ([.ref a_this, .int g1]) ++ List.replicate (2 - (lg_sl ([.ref a_this, .int g1])).length) Slot.unset).toArray) [] := by rw [hargs]; exact lg_entry_eq m [.ref a_this, .int g1] 2
  refine W.eq hent ?_
  clear hent
  generalize (lg_sl ([.ref a_this, .int g1]) ++ List.replicate (2 - (lg_sl ([.ref a_this, .int g1])).length) Slot.unset).toArray = ls at hl ⊢
  have hl : lv_has ls 2 [(0, .ref a_this), (1, .int g1)] := hl
  generalize hQ : MQ below _ args s 0 0 _ = QQ
  change W p l e rm_X8_cobblerRate s m args below meth c s.heap [] 0 0 QQ _
  have hSH := hS
  unfold f_X8_cobblerRate at hf
  refine lv_aload_n hx hb dX8_cobblerRate_0 rfl (lv_at hl 0 rfl) ?_
  refine lv_dup hx hb dX8_cobblerRate_1 rfl ?_
  refine va_get (D := G.1) (ci := 8) (v := .long v_traced) (C := RX8) (T := TX8) (N := 12) hx hb hts inX8 hown hK hP 0 rfl rfl 11 (by decide) lk68 (fun _ h9 => h9) rfl dX8_cobblerRate_2 ?_
  refine lv_ldc2 (own := RX8) (index := 271) (v := (10 : Int64)) hx hb hown (hts (.constantLong RX8 271 (10)) (by decide +kernel)) dX8_cobblerRate_5 ?_
  refine lv_ladd hx hb dX8_cobblerRate_8 ?_
  refine lv_topl (fun y5 ey5 => ?_)
  have hf := nm_to hf ey5
  refine va_put (D := G.1) (ci := 8) (v := .long y5) (ty := .long) (C := RX8) (T := TX8) (N := 12) hx hb hts inX8 tyX8 tyX8_ok nmX8 hown hK hP hD hS 0 rfl rfl 11 (by decide) lk68 (fun _ h9 => h9) rfl (by decide +kernel) rfl rfl (Nat.le_of_ble_eq_true rfl) dX8_cobblerRate_9 (fun H locs hP hD hS => ?_)
  have hP : va_P G.1 vwCl [(a_this, .inr (8, [.ref a_this_text, .ref a_this_reader, .ref a_this_told, .ref a_this_draft, .ref a_this_now, .ref a_this_firstImage, .ref a_this_secondImage, .ref a_this_kept, .ref a_this_offers, .ref a_this_seen, .ref a_this_rents, .long y5])), (a_this_now, .inr (0, [.int v_now_night, .int v_now_lot, .ref a_this_now_purses, .ref a_this_now_leases, .ref a_this_now_past])), (a_this_now_purses, .inl (G.2.1, 4, .inl v_now_purses)), (a_this_now_leases, .inr (6, [.int v_now_leases_most, .ref a_this_now_leases_parts, .int v_now_leases_size])), (a_this_now_leases_parts, .inl (G.2.1, 50, .inl v_now_leases_parts))] H := hP
  have hD : va_D A [(a_this, .inr (8, [.ref a_this_text, .ref a_this_reader, .ref a_this_told, .ref a_this_draft, .ref a_this_now, .ref a_this_firstImage, .ref a_this_secondImage, .ref a_this_kept, .ref a_this_offers, .ref a_this_seen, .ref a_this_rents, .long y5])), (a_this_now, .inr (0, [.int v_now_night, .int v_now_lot, .ref a_this_now_purses, .ref a_this_now_leases, .ref a_this_now_past])), (a_this_now_purses, .inl (G.2.1, 4, .inl v_now_purses)), (a_this_now_leases, .inr (6, [.int v_now_leases_most, .ref a_this_now_leases_parts, .int v_now_leases_size])), (a_this_now_leases_parts, .inl (G.2.1, 50, .inl v_now_leases_parts))] := hD
  refine lv_aload_n hx hb dX8_cobblerRate_12 rfl (lv_at hl 0 rfl) ?_
  refine lv_iload_n hx hb dX8_cobblerRate_13 rfl (lv_at hl 1 rfl) ?_
  obtain ⟨r6, w7, hu, hf⟩ := bd2_some hf
  refine zWi (wr := [(a_this_now_leases, .inr (6, [.int v_now_leases_most, .ref a_this_now_leases_parts, .int v_now_leases_size])), (a_this_now_leases_parts, .inl (G.2.1, 50, .inl v_now_leases_parts))]) (ws2 := [(a_this, .inr (8, [.ref a_this_text, .ref a_this_reader, .ref a_this_told, .ref a_this_draft, .ref a_this_now, .ref a_this_firstImage, .ref a_this_secondImage, .ref a_this_kept, .ref a_this_offers, .ref a_this_seen, .ref a_this_rents, .long w7])), (a_this_now, .inr (0, [.int v_now_night, .int v_now_lot, .ref a_this_now_purses, .ref a_this_now_leases, .ref a_this_now_past])), (a_this_now_purses, .inl (G.2.1, 4, .inl v_now_purses)), (a_this_now_leases, .inr (6, [.int v_now_leases_most, .ref a_this_now_leases_parts, .int v_now_leases_size])), (a_this_now_leases_parts, .inl (G.2.1, 50, .inl v_now_leases_parts))]) (va_runV (As := [.int g1]) (rest := []) hC (c_X8_tenantRate l G _ a_this a_this_now a_this_now_purses a_this_text a_this_reader a_this_told a_this_draft a_this_firstImage a_this_secondImage a_this_kept a_this_offers a_this_seen a_this_rents a_this_now_leases a_this_now_past (y5) (v_now_night) (v_now_lot) (v_now_purses) (g1) r6 w7 hu) (cwV 1 hts gX8_cobblerRate_X8_tenantRate rfl rfl rfl hd_X8_tenantRate ⟨(Nat.le_of_ble_eq_true rfl), (Nat.le_of_ble_eq_true rfl)⟩) (zPVw hE hP hD [0, 1, 2] rfl rfl 0 rfl rfl) rfl rfl hl.1 rfl (lv_room (Nat.le_of_ble_eq_true rfl)) dX8_cobblerRate_14 ⟨Nat.zero_le _, Nat.zero_le _⟩) hP hD hS hA [0, 1, 2] [3, 4] [2, 3, 4, 0, 1] rfl rfl rfl rfl (by decide) rfl rfl rfl (fun H locs hP hD hS => ?_)
  refine lv_aload_n hx hb dX8_cobblerRate_17 rfl (lv_at hl 0 rfl) ?_
  refine va_get (D := G.1) (ci := 8) (v := .ref a_this_now) (C := RX8) (T := TX8) (N := 12) hx hb hts inX8 hown hK hP 0 rfl rfl 4 (by decide) lk36 (fun _ h9 => h9) rfl dX8_cobblerRate_18 ?_
  refine va_get (D := G.1) (ci := 0) (v := .ref a_this_now_leases) (C := RX0) (T := TX0) (N := 5) hx hb hts inX0 hown hK hP 1 rfl rfl 3 (by decide) lk116 (fun _ h9 => h9) rfl dX8_cobblerRate_21 ?_
  refine lv_iload_n hx hb dX8_cobblerRate_24 rfl (lv_at hl 1 rfl) ?_
  obtain ⟨r8, hu, hf⟩ := bd1_some hf
  refine zRi (va_runV (As := [.int g1]) (rest := [.int r6]) hC (c_X6_countOf l G a_this_now_leases a_this_now_leases_parts (v_now_leases_most) (v_now_leases_size) (v_now_leases_parts) (g1) r8 hu) (cwV 1 hts gX8_cobblerRate_X6_countOf rfl rfl rfl hd_X6_countOf ⟨(Nat.le_of_ble_eq_true rfl), (Nat.le_of_ble_eq_true rfl)⟩) (zPV hE hP [3, 4] rfl 3 rfl rfl) rfl rfl hl.1 rfl (lv_room (Nat.le_of_ble_eq_true rfl)) dX8_cobblerRate_25 ⟨Nat.zero_le _, Nat.zero_le _⟩) ?_
  refine lv_iadd hx hb dX8_cobblerRate_28 ?_
  obtain ⟨hr0, hr1⟩ := so2 hf
  subst hr0
  subst hr1
  rw [← hQ]
  exact W.iret (v := (r6 + r8)) hx hb hr (fun t ht hW => ⟨⟨rfl, by rw [ht]; exact hP⟩, hS.F ht⟩) hS.2.2 dX8_cobblerRate_29
def f_X8_widowRate_b46  (k16 : Int32 → Int32 → Option (Int32 × Int64))  (x2 : Int32) (x3 : Int32) : Option (Int32 × Int64) := k16 (x2) ((x3 + (1 : Int32)))
def f_X8_widowRate_b16 (v_told_squares : Int32) (v_now_night : Int32) (v_now_purses : (Nat → Int32)) (v_now_leases_size : Int32) (v_now_leases_parts : (Nat → Int32))  (x1 : Int32) (v_traced : Int64) : Nat → Int32 → Int32 → Option (Int32 × Int64)
  | 0, _, _ => none
  | n16 + 1, x2, x3 => if v_told_squares ≤ x3 then (bd2 (f_X8_tenantRate (v_traced) (v_now_purses) (x1)) fun r8 w9 => some ((r8 - x2), w9)) else (bd1 (f_X8_ownerOf (v_now_leases_size) (v_told_squares) (v_now_leases_parts) (x3) (v_now_night)) fun r10 => if r10 = x1 then (f_X8_widowRate_b46 (f_X8_widowRate_b16 v_told_squares v_now_night v_now_purses v_now_leases_size v_now_leases_parts x1 v_traced n16) ((x2 + (1 : Int32))) (x3)) else (f_X8_widowRate_b46 (f_X8_widowRate_b16 v_told_squares v_now_night v_now_purses v_now_leases_size v_now_leases_parts x1 v_traced n16) (x2) (x3)))
def f_X8_widowRate  (v_traced : Int64) (v_told_squares : Int32) (v_now_night : Int32) (v_now_purses : (Nat → Int32)) (v_now_leases_size : Int32) (v_now_leases_parts : (Nat → Int32)) (g1 : Int32) : Option (Int32 × Int64) := nm ((v_traced + (100 : Int64))) fun y12 => f_X8_widowRate_b16 v_told_squares v_now_night v_now_purses v_now_leases_size v_now_leases_parts (g1) (y12) zF ((0 : Int32)) ((0 : Int32))
abbrev rm_X8_widowRate : Room := { frames := 4, cells := 0, slots := 0, locals := 92 }
set_option maxHeartbeats 4000000 in
set_option maxRecDepth 100000 in
theorem c_X8_widowRate (l : Launch) (G : zG) (sz : Nat) (a_this : Nat) (a_this_told : Nat) (a_this_now : Nat) (a_this_now_purses : Nat) (a_this_now_leases : Nat) (a_this_now_leases_parts : Nat) (a_this_text : Nat) (a_this_reader : Nat) (a_this_draft : Nat) (a_this_firstImage : Nat) (a_this_secondImage : Nat) (a_this_kept : Nat) (a_this_offers : Nat) (a_this_seen : Nat) (a_this_rents : Nat) (a_this_told_starts : Nat) (a_this_told_paces : Nat) (a_this_told_brights : Nat) (a_this_told_purses : Nat) (a_this_told_leases : Nat) (a_this_now_past : Nat) (v_traced : Int64) (v_told_squares : Int32) (v_told_stars : Int32) (v_told_tenants : Int32) (v_now_night : Int32) (v_now_lot : Int32) (v_now_purses : (Nat → Int32)) (v_now_leases_most : Int32) (v_now_leases_size : Int32) (v_now_leases_parts : (Nat → Int32)) (g1 : Int32) (R0 : Int32) (R1 : Int64) (hf : f_X8_widowRate v_traced v_told_squares v_now_night v_now_purses v_now_leases_size v_now_leases_parts g1 = some (R0, R1)) : Met l yX8_widowRate wsX8_widowRate rm_X8_widowRate (va_Pc [.ref a_this, .int g1] (zB G [(a_this, .inr (8, [.ref a_this_text, .ref a_this_reader, .ref a_this_told, .ref a_this_draft, .ref a_this_now, .ref a_this_firstImage, .ref a_this_secondImage, .ref a_this_kept, .ref a_this_offers, .ref a_this_seen, .ref a_this_rents, .long v_traced])), (a_this_told, .inr (5, [.int v_told_squares, .int v_told_stars, .ref a_this_told_starts, .ref a_this_told_paces, .ref a_this_told_brights, .int v_told_tenants, .ref a_this_told_purses, .ref a_this_told_leases])), (a_this_now, .inr (0, [.int v_now_night, .int v_now_lot, .ref a_this_now_purses, .ref a_this_now_leases, .ref a_this_now_past])), (a_this_now_purses, .inl (G.2.1, 4, .inl v_now_purses)), (a_this_now_leases, .inr (6, [.int v_now_leases_most, .ref a_this_now_leases_parts, .int v_now_leases_size])), (a_this_now_leases_parts, .inl (G.2.1, 50, .inl v_now_leases_parts))] sz)) (zQ G (some (.int R0)) [(a_this, .inr (8, [.ref a_this_text, .ref a_this_reader, .ref a_this_told, .ref a_this_draft, .ref a_this_now, .ref a_this_firstImage, .ref a_this_secondImage, .ref a_this_kept, .ref a_this_offers, .ref a_this_seen, .ref a_this_rents, .long R1])), (a_this_told, .inr (5, [.int v_told_squares, .int v_told_stars, .ref a_this_told_starts, .ref a_this_told_paces, .ref a_this_told_brights, .int v_told_tenants, .ref a_this_told_purses, .ref a_this_told_leases])), (a_this_now, .inr (0, [.int v_now_night, .int v_now_lot, .ref a_this_now_purses, .ref a_this_now_leases, .ref a_this_now_past])), (a_this_now_purses, .inl (G.2.1, 4, .inl v_now_purses)), (a_this_now_leases, .inr (6, [.int v_now_leases_most, .ref a_this_now_leases_parts, .int v_now_leases_size])), (a_this_now_leases_parts, .inl (G.2.1, 50, .inl v_now_leases_parts))] (va_A [(a_this, .inr (8, [.ref a_this_text, .ref a_this_reader, .ref a_this_told, .ref a_this_draft, .ref a_this_now, .ref a_this_firstImage, .ref a_this_secondImage, .ref a_this_kept, .ref a_this_offers, .ref a_this_seen, .ref a_this_rents, .long v_traced])), (a_this_told, .inr (5, [.int v_told_squares, .int v_told_stars, .ref a_this_told_starts, .ref a_this_told_paces, .ref a_this_told_brights, .int v_told_tenants, .ref a_this_told_purses, .ref a_this_told_leases])), (a_this_now, .inr (0, [.int v_now_night, .int v_now_lot, .ref a_this_now_purses, .ref a_this_now_leases, .ref a_this_now_past])), (a_this_now_purses, .inl (G.2.1, 4, .inl v_now_purses)), (a_this_now_leases, .inr (6, [.int v_now_leases_most, .ref a_this_now_leases_parts, .int v_now_leases_size])), (a_this_now_leases_parts, .inl (G.2.1, 50, .inl v_now_leases_parts))] sz)) 0 0 (va_A [(a_this, .inr (8, [.ref a_this_text, .ref a_this_reader, .ref a_this_told, .ref a_this_draft, .ref a_this_now, .ref a_this_firstImage, .ref a_this_secondImage, .ref a_this_kept, .ref a_this_offers, .ref a_this_seen, .ref a_this_rents, .long v_traced])), (a_this_told, .inr (5, [.int v_told_squares, .int v_told_stars, .ref a_this_told_starts, .ref a_this_told_paces, .ref a_this_told_brights, .int v_told_tenants, .ref a_this_told_purses, .ref a_this_told_leases])), (a_this_now, .inr (0, [.int v_now_night, .int v_now_lot, .ref a_this_now_purses, .ref a_this_now_leases, .ref a_this_now_past])), (a_this_now_purses, .inl (G.2.1, 4, .inl v_now_purses)), (a_this_now_leases, .inr (6, [.int v_now_leases_most, .ref a_this_now_leases_parts, .int v_now_leases_size])), (a_this_now_leases_parts, .inl (G.2.1, 50, .inl v_now_leases_parts))] sz) := by
  refine Met.ofW (cc := cX8_widowRate) (maxL := 4) (ret := (some .int)) (by decide) rfl ?_
  intro p e s m args below meth c s₁ B hml hv
  obtain ⟨hargs, hsz, hP, hD0, hE⟩ := hv
  have hx := B.exec
  have hb := B.bytes
  have hr := B.returns
  have hts := atoms_spec (ws := wsX8_widowRate) B.pre
  have hown : s.vm.findClass RX8 = some m.cls := findClass_of_methodNamed B.named
  have hlocks := B.notSynchronized
  have hK := hE.1
  have hC : CallFix p m c cX8_widowRate 4 s args wsX8_widowRate RX8 := ⟨hx, hb, hml, hown, hts⟩
  have inX0 : ∀ w ∈ wsX00, w ∈ wsX8_widowRate := by decide +kernel
  have inX5 : ∀ w ∈ wsX50, w ∈ wsX8_widowRate := by decide +kernel
  have inX8 : ∀ w ∈ wsX80, w ∈ wsX8_widowRate := by decide +kernel
  have lk26 := hts (.fieldLink RX8 26 "SkyLeases" "told" "LSkyLeases$Sky;") (by decide +kernel)
  have lk36 := hts (.fieldLink RX8 36 "SkyLeases" "now" "LSkyLeases$Now;") (by decide +kernel)
  have lk68 := hts (.fieldLink RX8 68 "SkyLeases" "traced" "J") (by decide +kernel)
  have lk131 := hts (.fieldLink RX8 131 "SkyLeases$Sky" "squares" "I") (by decide +kernel)
  have lk142 := hts (.fieldLink RX8 142 "SkyLeases$Now" "night" "I") (by decide +kernel)
  subst hsz
  have hD := hD0.self (sz := s.heap.size)
  generalize hAe : va_A [(a_this, .inr (8, [.ref a_this_text, .ref a_this_reader, .ref a_this_told, .ref a_this_draft, .ref a_this_now, .ref a_this_firstImage, .ref a_this_secondImage, .ref a_this_kept, .ref a_this_offers, .ref a_this_seen, .ref a_this_rents, .long v_traced])), (a_this_told, .inr (5, [.int v_told_squares, .int v_told_stars, .ref a_this_told_starts, .ref a_this_told_paces, .ref a_this_told_brights, .int v_told_tenants, .ref a_this_told_purses, .ref a_this_told_leases])), (a_this_now, .inr (0, [.int v_now_night, .int v_now_lot, .ref a_this_now_purses, .ref a_this_now_leases, .ref a_this_now_past])), (a_this_now_purses, .inl (G.2.1, 4, .inl v_now_purses)), (a_this_now_leases, .inr (6, [.int v_now_leases_most, .ref a_this_now_leases_parts, .int v_now_leases_size])), (a_this_now_leases_parts, .inl (G.2.1, 50, .inl v_now_leases_parts))] s.heap.size = A at hD ⊢
  have hA : ∀ q : Nat, s.heap.size ≤ q → A q := fun q h => by rw [← hAe]; exact Or.inr h
  have hS : va_S A s.heap s.heap [] := va_S.rf
  have hP : va_P G.1 vwCl [(a_this, .inr (8, [.ref a_this_text, .ref a_this_reader, .ref a_this_told, .ref a_this_draft, .ref a_this_now, .ref a_this_firstImage, .ref a_this_secondImage, .ref a_this_kept, .ref a_this_offers, .ref a_this_seen, .ref a_this_rents, .long v_traced])), (a_this_told, .inr (5, [.int v_told_squares, .int v_told_stars, .ref a_this_told_starts, .ref a_this_told_paces, .ref a_this_told_brights, .int v_told_tenants, .ref a_this_told_purses, .ref a_this_told_leases])), (a_this_now, .inr (0, [.int v_now_night, .int v_now_lot, .ref a_this_now_purses, .ref a_this_now_leases, .ref a_this_now_past])), (a_this_now_purses, .inl (G.2.1, 4, .inl v_now_purses)), (a_this_now_leases, .inr (6, [.int v_now_leases_most, .ref a_this_now_leases_parts, .int v_now_leases_size])), (a_this_now_leases_parts, .inl (G.2.1, 50, .inl v_now_leases_parts))] s.heap := hP
  have hl := lv_entry ([.ref a_this, .int g1]) (n := 4) (Nat.le_of_ble_eq_true rfl)
  have hent : entryFrame m args 4 = F0 m 0 ((lg_sl ([.ref a_this, .int g1]) ++ List.replicate (4 - (lg_sl ([.ref a_this, .int g1])).length) Slot.unset).toArray) [] := by rw [hargs]; exact lg_entry_eq m [.ref a_this, .int g1] 4
  refine W.eq hent ?_
  clear hent
  generalize (lg_sl ([.ref a_this, .int g1]) ++ List.replicate (4 - (lg_sl ([.ref a_this, .int g1])).length) Slot.unset).toArray = ls at hl ⊢
  have hl : lv_has ls 4 [(0, .ref a_this), (1, .int g1)] := hl
  generalize hQ : MQ below _ args s 0 0 _ = QQ
  change W p l e rm_X8_widowRate s m args below meth c s.heap [] 0 0 QQ _
  have j46 : ∀ (x1 : Int32), ∀ (v_traced : Int64), ∀ (k16 : Int32 → Int32 → Option (Int32 × Int64)), (∀ (x2 : Int32), ∀ (x3 : Int32), ∀ (ls : Array Slot), lv_has ls 4 [(0, .ref a_this), (1, .int x1), (2, .int x2), (3, .int x3)] → ∀ (H : Heap) (locs : List Loc), va_P G.1 vwCl [(a_this, .inr (8, [.ref a_this_text, .ref a_this_reader, .ref a_this_told, .ref a_this_draft, .ref a_this_now, .ref a_this_firstImage, .ref a_this_secondImage, .ref a_this_kept, .ref a_this_offers, .ref a_this_seen, .ref a_this_rents, .long v_traced])), (a_this_told, .inr (5, [.int v_told_squares, .int v_told_stars, .ref a_this_told_starts, .ref a_this_told_paces, .ref a_this_told_brights, .int v_told_tenants, .ref a_this_told_purses, .ref a_this_told_leases])), (a_this_now, .inr (0, [.int v_now_night, .int v_now_lot, .ref a_this_now_purses, .ref a_this_now_leases, .ref a_this_now_past])), (a_this_now_purses, .inl (G.2.1, 4, .inl v_now_purses)), (a_this_now_leases, .inr (6, [.int v_now_leases_most, .ref a_this_now_leases_parts, .int v_now_leases_size])), (a_this_now_leases_parts, .inl (G.2.1, 50, .inl v_now_leases_parts))] H → va_D A [(a_this, .inr (8, [.ref a_this_text, .ref a_this_reader, .ref a_this_told, .ref a_this_draft, .ref a_this_now, .ref a_this_firstImage, .ref a_this_secondImage, .ref a_this_kept, .ref a_this_offers, .ref a_this_seen, .ref a_this_rents, .long v_traced])), (a_this_told, .inr (5, [.int v_told_squares, .int v_told_stars, .ref a_this_told_starts, .ref a_this_told_paces, .ref a_this_told_brights, .int v_told_tenants, .ref a_this_told_purses, .ref a_this_told_leases])), (a_this_now, .inr (0, [.int v_now_night, .int v_now_lot, .ref a_this_now_purses, .ref a_this_now_leases, .ref a_this_now_past])), (a_this_now_purses, .inl (G.2.1, 4, .inl v_now_purses)), (a_this_now_leases, .inr (6, [.int v_now_leases_most, .ref a_this_now_leases_parts, .int v_now_leases_size])), (a_this_now_leases_parts, .inl (G.2.1, 50, .inl v_now_leases_parts))] → va_S A s.heap H locs → k16 x2 x3 = some (R0, R1) → W p l e rm_X8_widowRate s m args below meth c H locs 0 0 QQ (F0 m 16 ls [])) → ∀ (x2 : Int32), ∀ (x3 : Int32), ∀ (ls : Array Slot), lv_has ls 4 [(0, .ref a_this), (1, .int x1), (2, .int x2), (3, .int x3)] → ∀ (H : Heap) (locs : List Loc), va_P G.1 vwCl [(a_this, .inr (8, [.ref a_this_text, .ref a_this_reader, .ref a_this_told, .ref a_this_draft, .ref a_this_now, .ref a_this_firstImage, .ref a_this_secondImage, .ref a_this_kept, .ref a_this_offers, .ref a_this_seen, .ref a_this_rents, .long v_traced])), (a_this_told, .inr (5, [.int v_told_squares, .int v_told_stars, .ref a_this_told_starts, .ref a_this_told_paces, .ref a_this_told_brights, .int v_told_tenants, .ref a_this_told_purses, .ref a_this_told_leases])), (a_this_now, .inr (0, [.int v_now_night, .int v_now_lot, .ref a_this_now_purses, .ref a_this_now_leases, .ref a_this_now_past])), (a_this_now_purses, .inl (G.2.1, 4, .inl v_now_purses)), (a_this_now_leases, .inr (6, [.int v_now_leases_most, .ref a_this_now_leases_parts, .int v_now_leases_size])), (a_this_now_leases_parts, .inl (G.2.1, 50, .inl v_now_leases_parts))] H → va_D A [(a_this, .inr (8, [.ref a_this_text, .ref a_this_reader, .ref a_this_told, .ref a_this_draft, .ref a_this_now, .ref a_this_firstImage, .ref a_this_secondImage, .ref a_this_kept, .ref a_this_offers, .ref a_this_seen, .ref a_this_rents, .long v_traced])), (a_this_told, .inr (5, [.int v_told_squares, .int v_told_stars, .ref a_this_told_starts, .ref a_this_told_paces, .ref a_this_told_brights, .int v_told_tenants, .ref a_this_told_purses, .ref a_this_told_leases])), (a_this_now, .inr (0, [.int v_now_night, .int v_now_lot, .ref a_this_now_purses, .ref a_this_now_leases, .ref a_this_now_past])), (a_this_now_purses, .inl (G.2.1, 4, .inl v_now_purses)), (a_this_now_leases, .inr (6, [.int v_now_leases_most, .ref a_this_now_leases_parts, .int v_now_leases_size])), (a_this_now_leases_parts, .inl (G.2.1, 50, .inl v_now_leases_parts))] → va_S A s.heap H locs → f_X8_widowRate_b46 k16 x2 x3 = some (R0, R1) → W p l e rm_X8_widowRate s m args below meth c H locs 0 0 QQ (F0 m 46 ls []) := by
    intro x1 v_traced k16 hk16 x2 x3 ls hl H locs hP hD hS hf
    unfold f_X8_widowRate_b46 at hf
    refine lv_iinc (v := (x3 + (1 : Int32))) (lv' := [(3, .int (x3 + (1 : Int32))), (0, .ref a_this), (1, .int x1), (2, .int x2)]) hx hb dX8_widowRate_46 hl (k := 3) rfl rfl (by decide) rfl (fun ls hl => ?_)
    refine lv_goto (tgt := 16) hx hb dX8_widowRate_49 (by decide) ?_
    exact hk16 (x2) ((x3 + (1 : Int32))) ls (lv_sub hl [1, 2, 3, 0] rfl) _ _ hP hD hS hf
  have j16 : ∀ (x1 : Int32), ∀ (v_traced : Int64), ∀ (nn : Nat), ∀ (x2 : Int32), ∀ (x3 : Int32), ∀ (ls : Array Slot), lv_has ls 4 [(0, .ref a_this), (1, .int x1), (2, .int x2), (3, .int x3)] → ∀ (H : Heap) (locs : List Loc), va_P G.1 vwCl [(a_this, .inr (8, [.ref a_this_text, .ref a_this_reader, .ref a_this_told, .ref a_this_draft, .ref a_this_now, .ref a_this_firstImage, .ref a_this_secondImage, .ref a_this_kept, .ref a_this_offers, .ref a_this_seen, .ref a_this_rents, .long v_traced])), (a_this_told, .inr (5, [.int v_told_squares, .int v_told_stars, .ref a_this_told_starts, .ref a_this_told_paces, .ref a_this_told_brights, .int v_told_tenants, .ref a_this_told_purses, .ref a_this_told_leases])), (a_this_now, .inr (0, [.int v_now_night, .int v_now_lot, .ref a_this_now_purses, .ref a_this_now_leases, .ref a_this_now_past])), (a_this_now_purses, .inl (G.2.1, 4, .inl v_now_purses)), (a_this_now_leases, .inr (6, [.int v_now_leases_most, .ref a_this_now_leases_parts, .int v_now_leases_size])), (a_this_now_leases_parts, .inl (G.2.1, 50, .inl v_now_leases_parts))] H → va_D A [(a_this, .inr (8, [.ref a_this_text, .ref a_this_reader, .ref a_this_told, .ref a_this_draft, .ref a_this_now, .ref a_this_firstImage, .ref a_this_secondImage, .ref a_this_kept, .ref a_this_offers, .ref a_this_seen, .ref a_this_rents, .long v_traced])), (a_this_told, .inr (5, [.int v_told_squares, .int v_told_stars, .ref a_this_told_starts, .ref a_this_told_paces, .ref a_this_told_brights, .int v_told_tenants, .ref a_this_told_purses, .ref a_this_told_leases])), (a_this_now, .inr (0, [.int v_now_night, .int v_now_lot, .ref a_this_now_purses, .ref a_this_now_leases, .ref a_this_now_past])), (a_this_now_purses, .inl (G.2.1, 4, .inl v_now_purses)), (a_this_now_leases, .inr (6, [.int v_now_leases_most, .ref a_this_now_leases_parts, .int v_now_leases_size])), (a_this_now_leases_parts, .inl (G.2.1, 50, .inl v_now_leases_parts))] → va_S A s.heap H locs → f_X8_widowRate_b16 v_told_squares v_now_night v_now_purses v_now_leases_size v_now_leases_parts x1 v_traced nn x2 x3 = some (R0, R1) → W p l e rm_X8_widowRate s m args below meth c H locs 0 0 QQ (F0 m 16 ls []) := by
    intro x1 v_traced
    intro nn
    induction nn with
    | zero =>
      intro x2 x3 ls hl H locs hP hD hS hf
      rw [f_X8_widowRate_b16] at hf
      cases hf
    | succ n16 ih =>
      intro x2 x3 ls hl H locs hP hD hS hf
      rw [f_X8_widowRate_b16] at hf
      refine lv_iload_n hx hb dX8_widowRate_16 rfl (lv_at hl 3 rfl) ?_
      refine lv_aload_n hx hb dX8_widowRate_17 rfl (lv_at hl 0 rfl) ?_
      refine va_get (D := G.1) (ci := 8) (v := .ref a_this_told) (C := RX8) (T := TX8) (N := 12) hx hb hts inX8 hown hK hP 0 rfl rfl 2 (by decide) lk26 (fun _ h9 => h9) rfl dX8_widowRate_18 ?_
      refine va_get (D := G.1) (ci := 5) (v := .int v_told_squares) (C := RX5) (T := TX5) (N := 8) hx hb hts inX5 hown hK hP 1 rfl rfl 0 (by decide) lk131 (fun _ h9 => h9) rfl dX8_widowRate_21 ?_
      refine lv_icmp_ge (tgt := 52) hx hb dX8_widowRate_24 (by decide) (fun hc7 => ?_) (fun hc7 => ?_)
      · have hf := if_t hf hc7
        refine lv_aload_n hx hb dX8_widowRate_52 rfl (lv_at hl 0 rfl) ?_
        refine lv_iload_n hx hb dX8_widowRate_53 rfl (lv_at hl 1 rfl) ?_
        obtain ⟨r8, w9, hu, hf⟩ := bd2_some hf
        refine zWi (wr := [(a_this_told, .inr (5, [.int v_told_squares, .int v_told_stars, .ref a_this_told_starts, .ref a_this_told_paces, .ref a_this_told_brights, .int v_told_tenants, .ref a_this_told_purses, .ref a_this_told_leases])), (a_this_now_leases, .inr (6, [.int v_now_leases_most, .ref a_this_now_leases_parts, .int v_now_leases_size])), (a_this_now_leases_parts, .inl (G.2.1, 50, .inl v_now_leases_parts))]) (ws2 := [(a_this, .inr (8, [.ref a_this_text, .ref a_this_reader, .ref a_this_told, .ref a_this_draft, .ref a_this_now, .ref a_this_firstImage, .ref a_this_secondImage, .ref a_this_kept, .ref a_this_offers, .ref a_this_seen, .ref a_this_rents, .long w9])), (a_this_told, .inr (5, [.int v_told_squares, .int v_told_stars, .ref a_this_told_starts, .ref a_this_told_paces, .ref a_this_told_brights, .int v_told_tenants, .ref a_this_told_purses, .ref a_this_told_leases])), (a_this_now, .inr (0, [.int v_now_night, .int v_now_lot, .ref a_this_now_purses, .ref a_this_now_leases, .ref a_this_now_past])), (a_this_now_purses, .inl (G.2.1, 4, .inl v_now_purses)), (a_this_now_leases, .inr (6, [.int v_now_leases_most, .ref a_this_now_leases_parts, .int v_now_leases_size])), (a_this_now_leases_parts, .inl (G.2.1, 50, .inl v_now_leases_parts))]) (va_runV (As := [.int x1]) (rest := []) hC (c_X8_tenantRate l G _ a_this a_this_now a_this_now_purses a_this_text a_this_reader a_this_told a_this_draft a_this_firstImage a_this_secondImage a_this_kept a_this_offers a_this_seen a_this_rents a_this_now_leases a_this_now_past (v_traced) (v_now_night) (v_now_lot) (v_now_purses) (x1) r8 w9 hu) (cwV 1 hts gX8_widowRate_X8_tenantRate rfl rfl rfl hd_X8_tenantRate ⟨(Nat.le_of_ble_eq_true rfl), (Nat.le_of_ble_eq_true rfl)⟩) (zPVw hE hP hD [0, 2, 3] rfl rfl 0 rfl rfl) rfl rfl hl.1 rfl (lv_room (Nat.le_of_ble_eq_true rfl)) dX8_widowRate_54 ⟨Nat.zero_le _, Nat.zero_le _⟩) hP hD hS hA [0, 2, 3] [1, 4, 5] [3, 0, 4, 5, 1, 2] rfl rfl rfl rfl (by decide) rfl rfl rfl (fun H locs hP hD hS => ?_)
        refine lv_iload_n hx hb dX8_widowRate_57 rfl (lv_at hl 2 rfl) ?_
        refine lv_isub hx hb dX8_widowRate_58 ?_
        obtain ⟨hr0, hr1⟩ := so2 hf
        subst hr0
        subst hr1
        rw [← hQ]
        exact W.iret (v := (r8 - x2)) hx hb hr (fun t ht hW => ⟨⟨rfl, by rw [ht]; exact hP⟩, hS.F ht⟩) hS.2.2 dX8_widowRate_59
      · have hf := if_f hf hc7
        refine lv_aload_n hx hb dX8_widowRate_27 rfl (lv_at hl 0 rfl) ?_
        refine lv_iload_n hx hb dX8_widowRate_28 rfl (lv_at hl 3 rfl) ?_
        refine lv_aload_n hx hb dX8_widowRate_29 rfl (lv_at hl 0 rfl) ?_
        refine va_get (D := G.1) (ci := 8) (v := .ref a_this_now) (C := RX8) (T := TX8) (N := 12) hx hb hts inX8 hown hK hP 0 rfl rfl 4 (by decide) lk36 (fun _ h9 => h9) rfl dX8_widowRate_30 ?_
        refine va_get (D := G.1) (ci := 0) (v := .int v_now_night) (C := RX0) (T := TX0) (N := 5) hx hb hts inX0 hown hK hP 2 rfl rfl 0 (by decide) lk142 (fun _ h9 => h9) rfl dX8_widowRate_33 ?_
        obtain ⟨r10, hu, hf⟩ := bd1_some hf
        refine zRi (va_runV (As := [.int x3, .int v_now_night]) (rest := []) hC (c_X8_ownerOf l G a_this a_this_now a_this_now_leases a_this_told a_this_now_leases_parts a_this_text a_this_reader a_this_draft a_this_firstImage a_this_secondImage a_this_kept a_this_offers a_this_seen a_this_rents a_this_now_purses a_this_now_past a_this_told_starts a_this_told_paces a_this_told_brights a_this_told_purses a_this_told_leases (v_traced) (v_now_night) (v_now_lot) (v_now_leases_most) (v_now_leases_size) (v_told_squares) (v_told_stars) (v_told_tenants) (v_now_leases_parts) (x3) (v_now_night) r10 hu) (cwV 2 hts gX8_widowRate_X8_ownerOf rfl rfl rfl hd_X8_ownerOf ⟨(Nat.le_of_ble_eq_true rfl), (Nat.le_of_ble_eq_true rfl)⟩) (zPV hE hP [0, 2, 4, 1, 5] rfl 0 rfl rfl) rfl rfl hl.1 rfl (lv_room (Nat.le_of_ble_eq_true rfl)) dX8_widowRate_36 ⟨Nat.zero_le _, Nat.zero_le _⟩) ?_
        refine lv_iload_n hx hb dX8_widowRate_39 rfl (lv_at hl 1 rfl) ?_
        refine lv_icmp_ne (tgt := 46) hx hb dX8_widowRate_40 (by decide) (fun hc11 => ?_) (fun hc11 => ?_)
        · have hf := if_f hf hc11
          exact j46 (x1) (v_traced) (f_X8_widowRate_b16 v_told_squares v_now_night v_now_purses v_now_leases_size v_now_leases_parts x1 v_traced n16) ih (x2) (x3) ls (lv_sub hl [0, 1, 2, 3] rfl) _ _ hP hD hS hf
        · have hf := if_t hf hc11
          refine lv_iinc (v := (x2 + (1 : Int32))) (lv' := [(2, .int (x2 + (1 : Int32))), (0, .ref a_this), (1, .int x1), (3, .int x3)]) hx hb dX8_widowRate_43 hl (k := 2) rfl rfl (by decide) rfl (fun ls hl => ?_)
          exact j46 (x1) (v_traced) (f_X8_widowRate_b16 v_told_squares v_now_night v_now_purses v_now_leases_size v_now_leases_parts x1 v_traced n16) ih ((x2 + (1 : Int32))) (x3) ls (lv_sub hl [1, 2, 0, 3] rfl) _ _ hP hD hS hf
  have hSH := hS
  unfold f_X8_widowRate at hf
  refine lv_aload_n hx hb dX8_widowRate_0 rfl (lv_at hl 0 rfl) ?_
  refine lv_dup hx hb dX8_widowRate_1 rfl ?_
  refine va_get (D := G.1) (ci := 8) (v := .long v_traced) (C := RX8) (T := TX8) (N := 12) hx hb hts inX8 hown hK hP 0 rfl rfl 11 (by decide) lk68 (fun _ h9 => h9) rfl dX8_widowRate_2 ?_
  refine lv_ldc2 (own := RX8) (index := 276) (v := (100 : Int64)) hx hb hown (hts (.constantLong RX8 276 (100)) (by decide +kernel)) dX8_widowRate_5 ?_
  refine lv_ladd hx hb dX8_widowRate_8 ?_
  refine lv_topl (fun y12 ey12 => ?_)
  have hf := nm_to hf ey12
  refine va_put (D := G.1) (ci := 8) (v := .long y12) (ty := .long) (C := RX8) (T := TX8) (N := 12) hx hb hts inX8 tyX8 tyX8_ok nmX8 hown hK hP hD hS 0 rfl rfl 11 (by decide) lk68 (fun _ h9 => h9) rfl (by decide +kernel) rfl rfl (Nat.le_of_ble_eq_true rfl) dX8_widowRate_9 (fun H locs hP hD hS => ?_)
  have hP : va_P G.1 vwCl [(a_this, .inr (8, [.ref a_this_text, .ref a_this_reader, .ref a_this_told, .ref a_this_draft, .ref a_this_now, .ref a_this_firstImage, .ref a_this_secondImage, .ref a_this_kept, .ref a_this_offers, .ref a_this_seen, .ref a_this_rents, .long y12])), (a_this_told, .inr (5, [.int v_told_squares, .int v_told_stars, .ref a_this_told_starts, .ref a_this_told_paces, .ref a_this_told_brights, .int v_told_tenants, .ref a_this_told_purses, .ref a_this_told_leases])), (a_this_now, .inr (0, [.int v_now_night, .int v_now_lot, .ref a_this_now_purses, .ref a_this_now_leases, .ref a_this_now_past])), (a_this_now_purses, .inl (G.2.1, 4, .inl v_now_purses)), (a_this_now_leases, .inr (6, [.int v_now_leases_most, .ref a_this_now_leases_parts, .int v_now_leases_size])), (a_this_now_leases_parts, .inl (G.2.1, 50, .inl v_now_leases_parts))] H := hP
  have hD : va_D A [(a_this, .inr (8, [.ref a_this_text, .ref a_this_reader, .ref a_this_told, .ref a_this_draft, .ref a_this_now, .ref a_this_firstImage, .ref a_this_secondImage, .ref a_this_kept, .ref a_this_offers, .ref a_this_seen, .ref a_this_rents, .long y12])), (a_this_told, .inr (5, [.int v_told_squares, .int v_told_stars, .ref a_this_told_starts, .ref a_this_told_paces, .ref a_this_told_brights, .int v_told_tenants, .ref a_this_told_purses, .ref a_this_told_leases])), (a_this_now, .inr (0, [.int v_now_night, .int v_now_lot, .ref a_this_now_purses, .ref a_this_now_leases, .ref a_this_now_past])), (a_this_now_purses, .inl (G.2.1, 4, .inl v_now_purses)), (a_this_now_leases, .inr (6, [.int v_now_leases_most, .ref a_this_now_leases_parts, .int v_now_leases_size])), (a_this_now_leases_parts, .inl (G.2.1, 50, .inl v_now_leases_parts))] := hD
  refine lv_iconst (v := (0 : Int32)) hx hb dX8_widowRate_12 (by decide) ?_
  refine lv_istore_n (lv' := [(2, .int (0 : Int32)), (0, .ref a_this), (1, .int g1)]) hx hb dX8_widowRate_13 rfl hl (by decide) rfl (fun ls hl => ?_)
  refine lv_iconst (v := (0 : Int32)) hx hb dX8_widowRate_14 (by decide) ?_
  refine lv_istore_n (lv' := [(3, .int (0 : Int32)), (2, .int (0 : Int32)), (0, .ref a_this), (1, .int g1)]) hx hb dX8_widowRate_15 rfl hl (by decide) rfl (fun ls hl => ?_)
  exact j16 (g1) (y12) zF ((0 : Int32)) ((0 : Int32)) ls (lv_sub hl [2, 3, 1, 0] rfl) _ _ hP hD hS hf
theorem hd_X8_cobblerRate : yX8_cobblerRate.cls = RX8 ∧ yX8_cobblerRate.cls ≠ "java/lang/invoke/MethodHandle" ∧ yX8_cobblerRate.cls ≠ "java/lang/invoke/VarHandle" ∧ (parseMethodDescriptor yX8_cobblerRate.desc).map (fun d => d.parameters.length) = some 1 := by decide +kernel
def f_X8_heirRate  (v_traced : Int64) (v_now_purses : (Nat → Int32)) (v_now_leases_size : Int32) (v_now_leases_parts : (Nat → Int32)) (g1 : Int32) : Option (Int32 × Int64) := nm ((v_traced + (1000 : Int64))) fun y4 => bd2 (f_X8_cobblerRate (y4) (v_now_purses) (v_now_leases_size) (v_now_leases_parts) (g1)) fun r5 w6 => some (((2 : Int32) * r5), w6)
abbrev rm_X8_heirRate : Room := { frames := 4, cells := 0, slots := 0, locals := 88 }
set_option maxHeartbeats 4000000 in
set_option maxRecDepth 100000 in
theorem c_X8_heirRate (l : Launch) (G : zG) (sz : Nat) (a_this : Nat) (a_this_now : Nat) (a_this_now_purses : Nat) (a_this_now_leases : Nat) (a_this_now_leases_parts : Nat) (a_this_text : Nat) (a_this_reader : Nat) (a_this_told : Nat) (a_this_draft : Nat) (a_this_firstImage : Nat) (a_this_secondImage : Nat) (a_this_kept : Nat) (a_this_offers : Nat) (a_this_seen : Nat) (a_this_rents : Nat) (a_this_now_past : Nat) (v_traced : Int64) (v_now_night : Int32) (v_now_lot : Int32) (v_now_purses : (Nat → Int32)) (v_now_leases_most : Int32) (v_now_leases_size : Int32) (v_now_leases_parts : (Nat → Int32)) (g1 : Int32) (R0 : Int32) (R1 : Int64) (hf : f_X8_heirRate v_traced v_now_purses v_now_leases_size v_now_leases_parts g1 = some (R0, R1)) : Met l yX8_heirRate wsX8_heirRate rm_X8_heirRate (va_Pc [.ref a_this, .int g1] (zB G [(a_this, .inr (8, [.ref a_this_text, .ref a_this_reader, .ref a_this_told, .ref a_this_draft, .ref a_this_now, .ref a_this_firstImage, .ref a_this_secondImage, .ref a_this_kept, .ref a_this_offers, .ref a_this_seen, .ref a_this_rents, .long v_traced])), (a_this_now, .inr (0, [.int v_now_night, .int v_now_lot, .ref a_this_now_purses, .ref a_this_now_leases, .ref a_this_now_past])), (a_this_now_purses, .inl (G.2.1, 4, .inl v_now_purses)), (a_this_now_leases, .inr (6, [.int v_now_leases_most, .ref a_this_now_leases_parts, .int v_now_leases_size])), (a_this_now_leases_parts, .inl (G.2.1, 50, .inl v_now_leases_parts))] sz)) (zQ G (some (.int R0)) [(a_this, .inr (8, [.ref a_this_text, .ref a_this_reader, .ref a_this_told, .ref a_this_draft, .ref a_this_now, .ref a_this_firstImage, .ref a_this_secondImage, .ref a_this_kept, .ref a_this_offers, .ref a_this_seen, .ref a_this_rents, .long R1])), (a_this_now, .inr (0, [.int v_now_night, .int v_now_lot, .ref a_this_now_purses, .ref a_this_now_leases, .ref a_this_now_past])), (a_this_now_purses, .inl (G.2.1, 4, .inl v_now_purses)), (a_this_now_leases, .inr (6, [.int v_now_leases_most, .ref a_this_now_leases_parts, .int v_now_leases_size])), (a_this_now_leases_parts, .inl (G.2.1, 50, .inl v_now_leases_parts))] (va_A [(a_this, .inr (8, [.ref a_this_text, .ref a_this_reader, .ref a_this_told, .ref a_this_draft, .ref a_this_now, .ref a_this_firstImage, .ref a_this_secondImage, .ref a_this_kept, .ref a_this_offers, .ref a_this_seen, .ref a_this_rents, .long v_traced])), (a_this_now, .inr (0, [.int v_now_night, .int v_now_lot, .ref a_this_now_purses, .ref a_this_now_leases, .ref a_this_now_past])), (a_this_now_purses, .inl (G.2.1, 4, .inl v_now_purses)), (a_this_now_leases, .inr (6, [.int v_now_leases_most, .ref a_this_now_leases_parts, .int v_now_leases_size])), (a_this_now_leases_parts, .inl (G.2.1, 50, .inl v_now_leases_parts))] sz)) 0 0 (va_A [(a_this, .inr (8, [.ref a_this_text, .ref a_this_reader, .ref a_this_told, .ref a_this_draft, .ref a_this_now, .ref a_this_firstImage, .ref a_this_secondImage, .ref a_this_kept, .ref a_this_offers, .ref a_this_seen, .ref a_this_rents, .long v_traced])), (a_this_now, .inr (0, [.int v_now_night, .int v_now_lot, .ref a_this_now_purses, .ref a_this_now_leases, .ref a_this_now_past])), (a_this_now_purses, .inl (G.2.1, 4, .inl v_now_purses)), (a_this_now_leases, .inr (6, [.int v_now_leases_most, .ref a_this_now_leases_parts, .int v_now_leases_size])), (a_this_now_leases_parts, .inl (G.2.1, 50, .inl v_now_leases_parts))] sz) := by
  refine Met.ofW (cc := cX8_heirRate) (maxL := 2) (ret := (some .int)) (by decide) rfl ?_
  intro p e s m args below meth c s₁ B hml hv
  obtain ⟨hargs, hsz, hP, hD0, hE⟩ := hv
  have hx := B.exec
  have hb := B.bytes
  have hr := B.returns
  have hts := atoms_spec (ws := wsX8_heirRate) B.pre
  have hown : s.vm.findClass RX8 = some m.cls := findClass_of_methodNamed B.named
  have hlocks := B.notSynchronized
  have hK := hE.1
  have hC : CallFix p m c cX8_heirRate 2 s args wsX8_heirRate RX8 := ⟨hx, hb, hml, hown, hts⟩
  have inX8 : ∀ w ∈ wsX80, w ∈ wsX8_heirRate := by decide +kernel
  have lk68 := hts (.fieldLink RX8 68 "SkyLeases" "traced" "J") (by decide +kernel)
  subst hsz
  have hD := hD0.self (sz := s.heap.size)
  generalize hAe : va_A [(a_this, .inr (8, [.ref a_this_text, .ref a_this_reader, .ref a_this_told, .ref a_this_draft, .ref a_this_now, .ref a_this_firstImage, .ref a_this_secondImage, .ref a_this_kept, .ref a_this_offers, .ref a_this_seen, .ref a_this_rents, .long v_traced])), (a_this_now, .inr (0, [.int v_now_night, .int v_now_lot, .ref a_this_now_purses, .ref a_this_now_leases, .ref a_this_now_past])), (a_this_now_purses, .inl (G.2.1, 4, .inl v_now_purses)), (a_this_now_leases, .inr (6, [.int v_now_leases_most, .ref a_this_now_leases_parts, .int v_now_leases_size])), (a_this_now_leases_parts, .inl (G.2.1, 50, .inl v_now_leases_parts))] s.heap.size = A at hD ⊢
  have hA : ∀ q : Nat, s.heap.size ≤ q → A q := fun q h => by rw [← hAe]; exact Or.inr h
  have hS : va_S A s.heap s.heap [] := va_S.rf
  have hP : va_P G.1 vwCl [(a_this, .inr (8, [.ref a_this_text, .ref a_this_reader, .ref a_this_told, .ref a_this_draft, .ref a_this_now, .ref a_this_firstImage, .ref a_this_secondImage, .ref a_this_kept, .ref a_this_offers, .ref a_this_seen, .ref a_this_rents, .long v_traced])), (a_this_now, .inr (0, [.int v_now_night, .int v_now_lot, .ref a_this_now_purses, .ref a_this_now_leases, .ref a_this_now_past])), (a_this_now_purses, .inl (G.2.1, 4, .inl v_now_purses)), (a_this_now_leases, .inr (6, [.int v_now_leases_most, .ref a_this_now_leases_parts, .int v_now_leases_size])), (a_this_now_leases_parts, .inl (G.2.1, 50, .inl v_now_leases_parts))] s.heap := hP
  have hl := lv_entry ([.ref a_this, .int g1]) (n := 2) (Nat.le_of_ble_eq_true rfl)
  have hent : entryFrame m args 2 = F0 m 0 ((lg_sl ([.ref a_this, .int g1]) ++ List.replicate (2 - (lg_sl ([.ref a_this, .int g1])).length) Slot.unset).toArray) [] := by rw [hargs]; exact lg_entry_eq m [.ref a_this, .int g1] 2
  refine W.eq hent ?_
  clear hent
  generalize (lg_sl ([.ref a_this, .int g1]) ++ List.replicate (2 - (lg_sl ([.ref a_this, .int g1])).length) Slot.unset).toArray = ls at hl ⊢
  have hl : lv_has ls 2 [(0, .ref a_this), (1, .int g1)] := hl
  generalize hQ : MQ below _ args s 0 0 _ = QQ
  change W p l e rm_X8_heirRate s m args below meth c s.heap [] 0 0 QQ _
  have hSH := hS
  unfold f_X8_heirRate at hf
  refine lv_aload_n hx hb dX8_heirRate_0 rfl (lv_at hl 0 rfl) ?_
  refine lv_dup hx hb dX8_heirRate_1 rfl ?_
  refine va_get (D := G.1) (ci := 8) (v := .long v_traced) (C := RX8) (T := TX8) (N := 12) hx hb hts inX8 hown hK hP 0 rfl rfl 11 (by decide) lk68 (fun _ h9 => h9) rfl dX8_heirRate_2 ?_
  refine lv_ldc2 (own := RX8) (index := 278) (v := (1000 : Int64)) hx hb hown (hts (.constantLong RX8 278 (1000)) (by decide +kernel)) dX8_heirRate_5 ?_
  refine lv_ladd hx hb dX8_heirRate_8 ?_
  refine lv_topl (fun y4 ey4 => ?_)
  have hf := nm_to hf ey4
  refine va_put (D := G.1) (ci := 8) (v := .long y4) (ty := .long) (C := RX8) (T := TX8) (N := 12) hx hb hts inX8 tyX8 tyX8_ok nmX8 hown hK hP hD hS 0 rfl rfl 11 (by decide) lk68 (fun _ h9 => h9) rfl (by decide +kernel) rfl rfl (Nat.le_of_ble_eq_true rfl) dX8_heirRate_9 (fun H locs hP hD hS => ?_)
  have hP : va_P G.1 vwCl [(a_this, .inr (8, [.ref a_this_text, .ref a_this_reader, .ref a_this_told, .ref a_this_draft, .ref a_this_now, .ref a_this_firstImage, .ref a_this_secondImage, .ref a_this_kept, .ref a_this_offers, .ref a_this_seen, .ref a_this_rents, .long y4])), (a_this_now, .inr (0, [.int v_now_night, .int v_now_lot, .ref a_this_now_purses, .ref a_this_now_leases, .ref a_this_now_past])), (a_this_now_purses, .inl (G.2.1, 4, .inl v_now_purses)), (a_this_now_leases, .inr (6, [.int v_now_leases_most, .ref a_this_now_leases_parts, .int v_now_leases_size])), (a_this_now_leases_parts, .inl (G.2.1, 50, .inl v_now_leases_parts))] H := hP
  have hD : va_D A [(a_this, .inr (8, [.ref a_this_text, .ref a_this_reader, .ref a_this_told, .ref a_this_draft, .ref a_this_now, .ref a_this_firstImage, .ref a_this_secondImage, .ref a_this_kept, .ref a_this_offers, .ref a_this_seen, .ref a_this_rents, .long y4])), (a_this_now, .inr (0, [.int v_now_night, .int v_now_lot, .ref a_this_now_purses, .ref a_this_now_leases, .ref a_this_now_past])), (a_this_now_purses, .inl (G.2.1, 4, .inl v_now_purses)), (a_this_now_leases, .inr (6, [.int v_now_leases_most, .ref a_this_now_leases_parts, .int v_now_leases_size])), (a_this_now_leases_parts, .inl (G.2.1, 50, .inl v_now_leases_parts))] := hD
  refine lv_iconst (v := (2 : Int32)) hx hb dX8_heirRate_12 (by decide) ?_
  refine lv_aload_n hx hb dX8_heirRate_13 rfl (lv_at hl 0 rfl) ?_
  refine lv_iload_n hx hb dX8_heirRate_14 rfl (lv_at hl 1 rfl) ?_
  obtain ⟨r5, w6, hu, hf⟩ := bd2_some hf
  refine zWi (wr := []) (ws2 := [(a_this, .inr (8, [.ref a_this_text, .ref a_this_reader, .ref a_this_told, .ref a_this_draft, .ref a_this_now, .ref a_this_firstImage, .ref a_this_secondImage, .ref a_this_kept, .ref a_this_offers, .ref a_this_seen, .ref a_this_rents, .long w6])), (a_this_now, .inr (0, [.int v_now_night, .int v_now_lot, .ref a_this_now_purses, .ref a_this_now_leases, .ref a_this_now_past])), (a_this_now_purses, .inl (G.2.1, 4, .inl v_now_purses)), (a_this_now_leases, .inr (6, [.int v_now_leases_most, .ref a_this_now_leases_parts, .int v_now_leases_size])), (a_this_now_leases_parts, .inl (G.2.1, 50, .inl v_now_leases_parts))]) (va_runV (As := [.int g1]) (rest := [.int (2 : Int32)]) hC (c_X8_cobblerRate l G _ a_this a_this_now a_this_now_purses a_this_now_leases a_this_now_leases_parts a_this_text a_this_reader a_this_told a_this_draft a_this_firstImage a_this_secondImage a_this_kept a_this_offers a_this_seen a_this_rents a_this_now_past (y4) (v_now_night) (v_now_lot) (v_now_purses) (v_now_leases_most) (v_now_leases_size) (v_now_leases_parts) (g1) r5 w6 hu) (cwV 1 hts gX8_heirRate_X8_cobblerRate rfl rfl rfl hd_X8_cobblerRate ⟨(Nat.le_of_ble_eq_true rfl), (Nat.le_of_ble_eq_true rfl)⟩) (zPVw hE hP hD [0, 1, 2, 3, 4] rfl rfl 0 rfl rfl) rfl rfl hl.1 rfl (lv_room (Nat.le_of_ble_eq_true rfl)) dX8_heirRate_15 ⟨Nat.zero_le _, Nat.zero_le _⟩) hP hD hS hA [0, 1, 2, 3, 4] [] [0, 1, 2, 3, 4] rfl rfl rfl rfl (by decide) rfl rfl rfl (fun H locs hP hD hS => ?_)
  refine lv_imul hx hb dX8_heirRate_18 ?_
  obtain ⟨hr0, hr1⟩ := so2 hf
  subst hr0
  subst hr1
  rw [← hQ]
  exact W.iret (v := ((2 : Int32) * r5)) hx hb hr (fun t ht hW => ⟨⟨rfl, by rw [ht]; exact hP⟩, hS.F ht⟩) hS.2.2 dX8_heirRate_19
theorem hd_X8_widowRate : yX8_widowRate.cls = RX8 ∧ yX8_widowRate.cls ≠ "java/lang/invoke/MethodHandle" ∧ yX8_widowRate.cls ≠ "java/lang/invoke/VarHandle" ∧ (parseMethodDescriptor yX8_widowRate.desc).map (fun d => d.parameters.length) = some 1 := by decide +kernel
def f_X8_abbessRate  (v_traced : Int64) (v_told_squares : Int32) (v_now_night : Int32) (v_now_purses : (Nat → Int32)) (v_now_leases_size : Int32) (v_now_leases_parts : (Nat → Int32)) (g1 : Int32) : Option (Int32 × Int64) := nm ((v_traced + (10000 : Int64))) fun y4 => bd2 (f_X8_widowRate (y4) (v_told_squares) (v_now_night) (v_now_purses) (v_now_leases_size) (v_now_leases_parts) (g1)) fun r5 w6 => some ((r5 + g1), w6)
abbrev rm_X8_abbessRate : Room := { frames := 5, cells := 0, slots := 0, locals := 115 }
set_option maxHeartbeats 4000000 in
set_option maxRecDepth 100000 in
theorem c_X8_abbessRate (l : Launch) (G : zG) (sz : Nat) (a_this : Nat) (a_this_told : Nat) (a_this_now : Nat) (a_this_now_purses : Nat) (a_this_now_leases : Nat) (a_this_now_leases_parts : Nat) (a_this_text : Nat) (a_this_reader : Nat) (a_this_draft : Nat) (a_this_firstImage : Nat) (a_this_secondImage : Nat) (a_this_kept : Nat) (a_this_offers : Nat) (a_this_seen : Nat) (a_this_rents : Nat) (a_this_told_starts : Nat) (a_this_told_paces : Nat) (a_this_told_brights : Nat) (a_this_told_purses : Nat) (a_this_told_leases : Nat) (a_this_now_past : Nat) (v_traced : Int64) (v_told_squares : Int32) (v_told_stars : Int32) (v_told_tenants : Int32) (v_now_night : Int32) (v_now_lot : Int32) (v_now_purses : (Nat → Int32)) (v_now_leases_most : Int32) (v_now_leases_size : Int32) (v_now_leases_parts : (Nat → Int32)) (g1 : Int32) (R0 : Int32) (R1 : Int64) (hf : f_X8_abbessRate v_traced v_told_squares v_now_night v_now_purses v_now_leases_size v_now_leases_parts g1 = some (R0, R1)) : Met l yX8_abbessRate wsX8_abbessRate rm_X8_abbessRate (va_Pc [.ref a_this, .int g1] (zB G [(a_this, .inr (8, [.ref a_this_text, .ref a_this_reader, .ref a_this_told, .ref a_this_draft, .ref a_this_now, .ref a_this_firstImage, .ref a_this_secondImage, .ref a_this_kept, .ref a_this_offers, .ref a_this_seen, .ref a_this_rents, .long v_traced])), (a_this_told, .inr (5, [.int v_told_squares, .int v_told_stars, .ref a_this_told_starts, .ref a_this_told_paces, .ref a_this_told_brights, .int v_told_tenants, .ref a_this_told_purses, .ref a_this_told_leases])), (a_this_now, .inr (0, [.int v_now_night, .int v_now_lot, .ref a_this_now_purses, .ref a_this_now_leases, .ref a_this_now_past])), (a_this_now_purses, .inl (G.2.1, 4, .inl v_now_purses)), (a_this_now_leases, .inr (6, [.int v_now_leases_most, .ref a_this_now_leases_parts, .int v_now_leases_size])), (a_this_now_leases_parts, .inl (G.2.1, 50, .inl v_now_leases_parts))] sz)) (zQ G (some (.int R0)) [(a_this, .inr (8, [.ref a_this_text, .ref a_this_reader, .ref a_this_told, .ref a_this_draft, .ref a_this_now, .ref a_this_firstImage, .ref a_this_secondImage, .ref a_this_kept, .ref a_this_offers, .ref a_this_seen, .ref a_this_rents, .long R1])), (a_this_told, .inr (5, [.int v_told_squares, .int v_told_stars, .ref a_this_told_starts, .ref a_this_told_paces, .ref a_this_told_brights, .int v_told_tenants, .ref a_this_told_purses, .ref a_this_told_leases])), (a_this_now, .inr (0, [.int v_now_night, .int v_now_lot, .ref a_this_now_purses, .ref a_this_now_leases, .ref a_this_now_past])), (a_this_now_purses, .inl (G.2.1, 4, .inl v_now_purses)), (a_this_now_leases, .inr (6, [.int v_now_leases_most, .ref a_this_now_leases_parts, .int v_now_leases_size])), (a_this_now_leases_parts, .inl (G.2.1, 50, .inl v_now_leases_parts))] (va_A [(a_this, .inr (8, [.ref a_this_text, .ref a_this_reader, .ref a_this_told, .ref a_this_draft, .ref a_this_now, .ref a_this_firstImage, .ref a_this_secondImage, .ref a_this_kept, .ref a_this_offers, .ref a_this_seen, .ref a_this_rents, .long v_traced])), (a_this_told, .inr (5, [.int v_told_squares, .int v_told_stars, .ref a_this_told_starts, .ref a_this_told_paces, .ref a_this_told_brights, .int v_told_tenants, .ref a_this_told_purses, .ref a_this_told_leases])), (a_this_now, .inr (0, [.int v_now_night, .int v_now_lot, .ref a_this_now_purses, .ref a_this_now_leases, .ref a_this_now_past])), (a_this_now_purses, .inl (G.2.1, 4, .inl v_now_purses)), (a_this_now_leases, .inr (6, [.int v_now_leases_most, .ref a_this_now_leases_parts, .int v_now_leases_size])), (a_this_now_leases_parts, .inl (G.2.1, 50, .inl v_now_leases_parts))] sz)) 0 0 (va_A [(a_this, .inr (8, [.ref a_this_text, .ref a_this_reader, .ref a_this_told, .ref a_this_draft, .ref a_this_now, .ref a_this_firstImage, .ref a_this_secondImage, .ref a_this_kept, .ref a_this_offers, .ref a_this_seen, .ref a_this_rents, .long v_traced])), (a_this_told, .inr (5, [.int v_told_squares, .int v_told_stars, .ref a_this_told_starts, .ref a_this_told_paces, .ref a_this_told_brights, .int v_told_tenants, .ref a_this_told_purses, .ref a_this_told_leases])), (a_this_now, .inr (0, [.int v_now_night, .int v_now_lot, .ref a_this_now_purses, .ref a_this_now_leases, .ref a_this_now_past])), (a_this_now_purses, .inl (G.2.1, 4, .inl v_now_purses)), (a_this_now_leases, .inr (6, [.int v_now_leases_most, .ref a_this_now_leases_parts, .int v_now_leases_size])), (a_this_now_leases_parts, .inl (G.2.1, 50, .inl v_now_leases_parts))] sz) := by
  refine Met.ofW (cc := cX8_abbessRate) (maxL := 2) (ret := (some .int)) (by decide) rfl ?_
  intro p e s m args below meth c s₁ B hml hv
  obtain ⟨hargs, hsz, hP, hD0, hE⟩ := hv
  have hx := B.exec
  have hb := B.bytes
  have hr := B.returns
  have hts := atoms_spec (ws := wsX8_abbessRate) B.pre
  have hown : s.vm.findClass RX8 = some m.cls := findClass_of_methodNamed B.named
  have hlocks := B.notSynchronized
  have hK := hE.1
  have hC : CallFix p m c cX8_abbessRate 2 s args wsX8_abbessRate RX8 := ⟨hx, hb, hml, hown, hts⟩
  have inX8 : ∀ w ∈ wsX80, w ∈ wsX8_abbessRate := by decide +kernel
  have lk68 := hts (.fieldLink RX8 68 "SkyLeases" "traced" "J") (by decide +kernel)
  subst hsz
  have hD := hD0.self (sz := s.heap.size)
  generalize hAe : va_A [(a_this, .inr (8, [.ref a_this_text, .ref a_this_reader, .ref a_this_told, .ref a_this_draft, .ref a_this_now, .ref a_this_firstImage, .ref a_this_secondImage, .ref a_this_kept, .ref a_this_offers, .ref a_this_seen, .ref a_this_rents, .long v_traced])), (a_this_told, .inr (5, [.int v_told_squares, .int v_told_stars, .ref a_this_told_starts, .ref a_this_told_paces, .ref a_this_told_brights, .int v_told_tenants, .ref a_this_told_purses, .ref a_this_told_leases])), (a_this_now, .inr (0, [.int v_now_night, .int v_now_lot, .ref a_this_now_purses, .ref a_this_now_leases, .ref a_this_now_past])), (a_this_now_purses, .inl (G.2.1, 4, .inl v_now_purses)), (a_this_now_leases, .inr (6, [.int v_now_leases_most, .ref a_this_now_leases_parts, .int v_now_leases_size])), (a_this_now_leases_parts, .inl (G.2.1, 50, .inl v_now_leases_parts))] s.heap.size = A at hD ⊢
  have hA : ∀ q : Nat, s.heap.size ≤ q → A q := fun q h => by rw [← hAe]; exact Or.inr h
  have hS : va_S A s.heap s.heap [] := va_S.rf
  have hP : va_P G.1 vwCl [(a_this, .inr (8, [.ref a_this_text, .ref a_this_reader, .ref a_this_told, .ref a_this_draft, .ref a_this_now, .ref a_this_firstImage, .ref a_this_secondImage, .ref a_this_kept, .ref a_this_offers, .ref a_this_seen, .ref a_this_rents, .long v_traced])), (a_this_told, .inr (5, [.int v_told_squares, .int v_told_stars, .ref a_this_told_starts, .ref a_this_told_paces, .ref a_this_told_brights, .int v_told_tenants, .ref a_this_told_purses, .ref a_this_told_leases])), (a_this_now, .inr (0, [.int v_now_night, .int v_now_lot, .ref a_this_now_purses, .ref a_this_now_leases, .ref a_this_now_past])), (a_this_now_purses, .inl (G.2.1, 4, .inl v_now_purses)), (a_this_now_leases, .inr (6, [.int v_now_leases_most, .ref a_this_now_leases_parts, .int v_now_leases_size])), (a_this_now_leases_parts, .inl (G.2.1, 50, .inl v_now_leases_parts))] s.heap := hP
  have hl := lv_entry ([.ref a_this, .int g1]) (n := 2) (Nat.le_of_ble_eq_true rfl)
  have hent : entryFrame m args 2 = F0 m 0 ((lg_sl ([.ref a_this, .int g1]) ++ List.replicate (2 - (lg_sl ([.ref a_this, .int g1])).length) Slot.unset).toArray) [] := by rw [hargs]; exact lg_entry_eq m [.ref a_this, .int g1] 2
  refine W.eq hent ?_
  clear hent
  generalize (lg_sl ([.ref a_this, .int g1]) ++ List.replicate (2 - (lg_sl ([.ref a_this, .int g1])).length) Slot.unset).toArray = ls at hl ⊢
  have hl : lv_has ls 2 [(0, .ref a_this), (1, .int g1)] := hl
  generalize hQ : MQ below _ args s 0 0 _ = QQ
  change W p l e rm_X8_abbessRate s m args below meth c s.heap [] 0 0 QQ _
  have hSH := hS
  unfold f_X8_abbessRate at hf
  refine lv_aload_n hx hb dX8_abbessRate_0 rfl (lv_at hl 0 rfl) ?_
  refine lv_dup hx hb dX8_abbessRate_1 rfl ?_
  refine va_get (D := G.1) (ci := 8) (v := .long v_traced) (C := RX8) (T := TX8) (N := 12) hx hb hts inX8 hown hK hP 0 rfl rfl 11 (by decide) lk68 (fun _ h9 => h9) rfl dX8_abbessRate_2 ?_
  refine lv_ldc2 (own := RX8) (index := 280) (v := (10000 : Int64)) hx hb hown (hts (.constantLong RX8 280 (10000)) (by decide +kernel)) dX8_abbessRate_5 ?_
  refine lv_ladd hx hb dX8_abbessRate_8 ?_
  refine lv_topl (fun y4 ey4 => ?_)
  have hf := nm_to hf ey4
  refine va_put (D := G.1) (ci := 8) (v := .long y4) (ty := .long) (C := RX8) (T := TX8) (N := 12) hx hb hts inX8 tyX8 tyX8_ok nmX8 hown hK hP hD hS 0 rfl rfl 11 (by decide) lk68 (fun _ h9 => h9) rfl (by decide +kernel) rfl rfl (Nat.le_of_ble_eq_true rfl) dX8_abbessRate_9 (fun H locs hP hD hS => ?_)
  have hP : va_P G.1 vwCl [(a_this, .inr (8, [.ref a_this_text, .ref a_this_reader, .ref a_this_told, .ref a_this_draft, .ref a_this_now, .ref a_this_firstImage, .ref a_this_secondImage, .ref a_this_kept, .ref a_this_offers, .ref a_this_seen, .ref a_this_rents, .long y4])), (a_this_told, .inr (5, [.int v_told_squares, .int v_told_stars, .ref a_this_told_starts, .ref a_this_told_paces, .ref a_this_told_brights, .int v_told_tenants, .ref a_this_told_purses, .ref a_this_told_leases])), (a_this_now, .inr (0, [.int v_now_night, .int v_now_lot, .ref a_this_now_purses, .ref a_this_now_leases, .ref a_this_now_past])), (a_this_now_purses, .inl (G.2.1, 4, .inl v_now_purses)), (a_this_now_leases, .inr (6, [.int v_now_leases_most, .ref a_this_now_leases_parts, .int v_now_leases_size])), (a_this_now_leases_parts, .inl (G.2.1, 50, .inl v_now_leases_parts))] H := hP
  have hD : va_D A [(a_this, .inr (8, [.ref a_this_text, .ref a_this_reader, .ref a_this_told, .ref a_this_draft, .ref a_this_now, .ref a_this_firstImage, .ref a_this_secondImage, .ref a_this_kept, .ref a_this_offers, .ref a_this_seen, .ref a_this_rents, .long y4])), (a_this_told, .inr (5, [.int v_told_squares, .int v_told_stars, .ref a_this_told_starts, .ref a_this_told_paces, .ref a_this_told_brights, .int v_told_tenants, .ref a_this_told_purses, .ref a_this_told_leases])), (a_this_now, .inr (0, [.int v_now_night, .int v_now_lot, .ref a_this_now_purses, .ref a_this_now_leases, .ref a_this_now_past])), (a_this_now_purses, .inl (G.2.1, 4, .inl v_now_purses)), (a_this_now_leases, .inr (6, [.int v_now_leases_most, .ref a_this_now_leases_parts, .int v_now_leases_size])), (a_this_now_leases_parts, .inl (G.2.1, 50, .inl v_now_leases_parts))] := hD
  refine lv_aload_n hx hb dX8_abbessRate_12 rfl (lv_at hl 0 rfl) ?_
  refine lv_iload_n hx hb dX8_abbessRate_13 rfl (lv_at hl 1 rfl) ?_
  obtain ⟨r5, w6, hu, hf⟩ := bd2_some hf
  refine zWi (wr := []) (ws2 := [(a_this, .inr (8, [.ref a_this_text, .ref a_this_reader, .ref a_this_told, .ref a_this_draft, .ref a_this_now, .ref a_this_firstImage, .ref a_this_secondImage, .ref a_this_kept, .ref a_this_offers, .ref a_this_seen, .ref a_this_rents, .long w6])), (a_this_told, .inr (5, [.int v_told_squares, .int v_told_stars, .ref a_this_told_starts, .ref a_this_told_paces, .ref a_this_told_brights, .int v_told_tenants, .ref a_this_told_purses, .ref a_this_told_leases])), (a_this_now, .inr (0, [.int v_now_night, .int v_now_lot, .ref a_this_now_purses, .ref a_this_now_leases, .ref a_this_now_past])), (a_this_now_purses, .inl (G.2.1, 4, .inl v_now_purses)), (a_this_now_leases, .inr (6, [.int v_now_leases_most, .ref a_this_now_leases_parts, .int v_now_leases_size])), (a_this_now_leases_parts, .inl (G.2.1, 50, .inl v_now_leases_parts))]) (va_runV (As := [.int g1]) (rest := []) hC (c_X8_widowRate l G _ a_this a_this_told a_this_now a_this_now_purses a_this_now_leases a_this_now_leases_parts a_this_text a_this_reader a_this_draft a_this_firstImage a_this_secondImage a_this_kept a_this_offers a_this_seen a_this_rents a_this_told_starts a_this_told_paces a_this_told_brights a_this_told_purses a_this_told_leases a_this_now_past (y4) (v_told_squares) (v_told_stars) (v_told_tenants) (v_now_night) (v_now_lot) (v_now_purses) (v_now_leases_most) (v_now_leases_size) (v_now_leases_parts) (g1) r5 w6 hu) (cwV 1 hts gX8_abbessRate_X8_widowRate rfl rfl rfl hd_X8_widowRate ⟨(Nat.le_of_ble_eq_true rfl), (Nat.le_of_ble_eq_true rfl)⟩) (zPVw hE hP hD [0, 1, 2, 3, 4, 5] rfl rfl 0 rfl rfl) rfl rfl hl.1 rfl (lv_room (Nat.le_of_ble_eq_true rfl)) dX8_abbessRate_14 ⟨Nat.zero_le _, Nat.zero_le _⟩) hP hD hS hA [0, 1, 2, 3, 4, 5] [] [0, 1, 2, 3, 4, 5] rfl rfl rfl rfl (by decide) rfl rfl rfl (fun H locs hP hD hS => ?_)
  refine lv_iload_n hx hb dX8_abbessRate_17 rfl (lv_at hl 1 rfl) ?_
  refine lv_iadd hx hb dX8_abbessRate_18 ?_
  obtain ⟨hr0, hr1⟩ := so2 hf
  subst hr0
  subst hr1
  rw [← hQ]
  exact W.iret (v := (r5 + g1)) hx hb hr (fun t ht hW => ⟨⟨rfl, by rw [ht]; exact hP⟩, hS.F ht⟩) hS.2.2 dX8_abbessRate_19
def f_X8_shepherdRate  (v_traced : Int64) (v_now_night : Int32) (v_now_purses : (Nat → Int32)) (g1 : Int32) : Option (Int32 × Int64) := nm ((v_traced + (100000 : Int64))) fun y4 => bd2 (f_X8_tenantRate (y4) (v_now_purses) (g1)) fun r5 w6 => some ((r5 + v_now_night), w6)
abbrev rm_X8_shepherdRate : Room := { frames := 1, cells := 0, slots := 0, locals := 21 }
set_option maxHeartbeats 4000000 in
set_option maxRecDepth 100000 in
theorem c_X8_shepherdRate (l : Launch) (G : zG) (sz : Nat) (a_this : Nat) (a_this_now : Nat) (a_this_now_purses : Nat) (a_this_text : Nat) (a_this_reader : Nat) (a_this_told : Nat) (a_this_draft : Nat) (a_this_firstImage : Nat) (a_this_secondImage : Nat) (a_this_kept : Nat) (a_this_offers : Nat) (a_this_seen : Nat) (a_this_rents : Nat) (a_this_now_leases : Nat) (a_this_now_past : Nat) (v_traced : Int64) (v_now_night : Int32) (v_now_lot : Int32) (v_now_purses : (Nat → Int32)) (g1 : Int32) (R0 : Int32) (R1 : Int64) (hf : f_X8_shepherdRate v_traced v_now_night v_now_purses g1 = some (R0, R1)) : Met l yX8_shepherdRate wsX8_shepherdRate rm_X8_shepherdRate (va_Pc [.ref a_this, .int g1] (zB G [(a_this, .inr (8, [.ref a_this_text, .ref a_this_reader, .ref a_this_told, .ref a_this_draft, .ref a_this_now, .ref a_this_firstImage, .ref a_this_secondImage, .ref a_this_kept, .ref a_this_offers, .ref a_this_seen, .ref a_this_rents, .long v_traced])), (a_this_now, .inr (0, [.int v_now_night, .int v_now_lot, .ref a_this_now_purses, .ref a_this_now_leases, .ref a_this_now_past])), (a_this_now_purses, .inl (G.2.1, 4, .inl v_now_purses))] sz)) (zQ G (some (.int R0)) [(a_this, .inr (8, [.ref a_this_text, .ref a_this_reader, .ref a_this_told, .ref a_this_draft, .ref a_this_now, .ref a_this_firstImage, .ref a_this_secondImage, .ref a_this_kept, .ref a_this_offers, .ref a_this_seen, .ref a_this_rents, .long R1])), (a_this_now, .inr (0, [.int v_now_night, .int v_now_lot, .ref a_this_now_purses, .ref a_this_now_leases, .ref a_this_now_past])), (a_this_now_purses, .inl (G.2.1, 4, .inl v_now_purses))] (va_A [(a_this, .inr (8, [.ref a_this_text, .ref a_this_reader, .ref a_this_told, .ref a_this_draft, .ref a_this_now, .ref a_this_firstImage, .ref a_this_secondImage, .ref a_this_kept, .ref a_this_offers, .ref a_this_seen, .ref a_this_rents, .long v_traced])), (a_this_now, .inr (0, [.int v_now_night, .int v_now_lot, .ref a_this_now_purses, .ref a_this_now_leases, .ref a_this_now_past])), (a_this_now_purses, .inl (G.2.1, 4, .inl v_now_purses))] sz)) 0 0 (va_A [(a_this, .inr (8, [.ref a_this_text, .ref a_this_reader, .ref a_this_told, .ref a_this_draft, .ref a_this_now, .ref a_this_firstImage, .ref a_this_secondImage, .ref a_this_kept, .ref a_this_offers, .ref a_this_seen, .ref a_this_rents, .long v_traced])), (a_this_now, .inr (0, [.int v_now_night, .int v_now_lot, .ref a_this_now_purses, .ref a_this_now_leases, .ref a_this_now_past])), (a_this_now_purses, .inl (G.2.1, 4, .inl v_now_purses))] sz) := by
  refine Met.ofW (cc := cX8_shepherdRate) (maxL := 2) (ret := (some .int)) (by decide) rfl ?_
  intro p e s m args below meth c s₁ B hml hv
  obtain ⟨hargs, hsz, hP, hD0, hE⟩ := hv
  have hx := B.exec
  have hb := B.bytes
  have hr := B.returns
  have hts := atoms_spec (ws := wsX8_shepherdRate) B.pre
  have hown : s.vm.findClass RX8 = some m.cls := findClass_of_methodNamed B.named
  have hlocks := B.notSynchronized
  have hK := hE.1
  have hC : CallFix p m c cX8_shepherdRate 2 s args wsX8_shepherdRate RX8 := ⟨hx, hb, hml, hown, hts⟩
  have inX0 : ∀ w ∈ wsX00, w ∈ wsX8_shepherdRate := by decide +kernel
  have inX8 : ∀ w ∈ wsX80, w ∈ wsX8_shepherdRate := by decide +kernel
  have lk36 := hts (.fieldLink RX8 36 "SkyLeases" "now" "LSkyLeases$Now;") (by decide +kernel)
  have lk68 := hts (.fieldLink RX8 68 "SkyLeases" "traced" "J") (by decide +kernel)
  have lk142 := hts (.fieldLink RX8 142 "SkyLeases$Now" "night" "I") (by decide +kernel)
  subst hsz
  have hD := hD0.self (sz := s.heap.size)
  generalize hAe : va_A [(a_this, .inr (8, [.ref a_this_text, .ref a_this_reader, .ref a_this_told, .ref a_this_draft, .ref a_this_now, .ref a_this_firstImage, .ref a_this_secondImage, .ref a_this_kept, .ref a_this_offers, .ref a_this_seen, .ref a_this_rents, .long v_traced])), (a_this_now, .inr (0, [.int v_now_night, .int v_now_lot, .ref a_this_now_purses, .ref a_this_now_leases, .ref a_this_now_past])), (a_this_now_purses, .inl (G.2.1, 4, .inl v_now_purses))] s.heap.size = A at hD ⊢
  have hA : ∀ q : Nat, s.heap.size ≤ q → A q := fun q h => by rw [← hAe]; exact Or.inr h
  have hS : va_S A s.heap s.heap [] := va_S.rf
  have hP : va_P G.1 vwCl [(a_this, .inr (8, [.ref a_this_text, .ref a_this_reader, .ref a_this_told, .ref a_this_draft, .ref a_this_now, .ref a_this_firstImage, .ref a_this_secondImage, .ref a_this_kept, .ref a_this_offers, .ref a_this_seen, .ref a_this_rents, .long v_traced])), (a_this_now, .inr (0, [.int v_now_night, .int v_now_lot, .ref a_this_now_purses, .ref a_this_now_leases, .ref a_this_now_past])), (a_this_now_purses, .inl (G.2.1, 4, .inl v_now_purses))] s.heap := hP
  have hl := lv_entry ([.ref a_this, .int g1]) (n := 2) (Nat.le_of_ble_eq_true rfl)
  have hent : entryFrame m args 2 = F0 m 0 ((lg_sl ([.ref a_this, .int g1]) ++ List.replicate (2 - (lg_sl ([.ref a_this, .int g1])).length) Slot.unset).toArray) [] := by rw [hargs]; exact lg_entry_eq m [.ref a_this, .int g1] 2
  refine W.eq hent ?_
  clear hent
  generalize (lg_sl ([.ref a_this, .int g1]) ++ List.replicate (2 - (lg_sl ([.ref a_this, .int g1])).length) Slot.unset).toArray = ls at hl ⊢
  have hl : lv_has ls 2 [(0, .ref a_this), (1, .int g1)] := hl
  generalize hQ : MQ below _ args s 0 0 _ = QQ
  change W p l e rm_X8_shepherdRate s m args below meth c s.heap [] 0 0 QQ _
  have hSH := hS
  unfold f_X8_shepherdRate at hf
  refine lv_aload_n hx hb dX8_shepherdRate_0 rfl (lv_at hl 0 rfl) ?_
  refine lv_dup hx hb dX8_shepherdRate_1 rfl ?_
  refine va_get (D := G.1) (ci := 8) (v := .long v_traced) (C := RX8) (T := TX8) (N := 12) hx hb hts inX8 hown hK hP 0 rfl rfl 11 (by decide) lk68 (fun _ h9 => h9) rfl dX8_shepherdRate_2 ?_
  refine lv_ldc2 (own := RX8) (index := 282) (v := (100000 : Int64)) hx hb hown (hts (.constantLong RX8 282 (100000)) (by decide +kernel)) dX8_shepherdRate_5 ?_
  refine lv_ladd hx hb dX8_shepherdRate_8 ?_
  refine lv_topl (fun y4 ey4 => ?_)
  have hf := nm_to hf ey4
  refine va_put (D := G.1) (ci := 8) (v := .long y4) (ty := .long) (C := RX8) (T := TX8) (N := 12) hx hb hts inX8 tyX8 tyX8_ok nmX8 hown hK hP hD hS 0 rfl rfl 11 (by decide) lk68 (fun _ h9 => h9) rfl (by decide +kernel) rfl rfl (Nat.le_of_ble_eq_true rfl) dX8_shepherdRate_9 (fun H locs hP hD hS => ?_)
  have hP : va_P G.1 vwCl [(a_this, .inr (8, [.ref a_this_text, .ref a_this_reader, .ref a_this_told, .ref a_this_draft, .ref a_this_now, .ref a_this_firstImage, .ref a_this_secondImage, .ref a_this_kept, .ref a_this_offers, .ref a_this_seen, .ref a_this_rents, .long y4])), (a_this_now, .inr (0, [.int v_now_night, .int v_now_lot, .ref a_this_now_purses, .ref a_this_now_leases, .ref a_this_now_past])), (a_this_now_purses, .inl (G.2.1, 4, .inl v_now_purses))] H := hP
  have hD : va_D A [(a_this, .inr (8, [.ref a_this_text, .ref a_this_reader, .ref a_this_told, .ref a_this_draft, .ref a_this_now, .ref a_this_firstImage, .ref a_this_secondImage, .ref a_this_kept, .ref a_this_offers, .ref a_this_seen, .ref a_this_rents, .long y4])), (a_this_now, .inr (0, [.int v_now_night, .int v_now_lot, .ref a_this_now_purses, .ref a_this_now_leases, .ref a_this_now_past])), (a_this_now_purses, .inl (G.2.1, 4, .inl v_now_purses))] := hD
  refine lv_aload_n hx hb dX8_shepherdRate_12 rfl (lv_at hl 0 rfl) ?_
  refine lv_iload_n hx hb dX8_shepherdRate_13 rfl (lv_at hl 1 rfl) ?_
  obtain ⟨r5, w6, hu, hf⟩ := bd2_some hf
  refine zWi (wr := []) (ws2 := [(a_this, .inr (8, [.ref a_this_text, .ref a_this_reader, .ref a_this_told, .ref a_this_draft, .ref a_this_now, .ref a_this_firstImage, .ref a_this_secondImage, .ref a_this_kept, .ref a_this_offers, .ref a_this_seen, .ref a_this_rents, .long w6])), (a_this_now, .inr (0, [.int v_now_night, .int v_now_lot, .ref a_this_now_purses, .ref a_this_now_leases, .ref a_this_now_past])), (a_this_now_purses, .inl (G.2.1, 4, .inl v_now_purses))]) (va_runV (As := [.int g1]) (rest := []) hC (c_X8_tenantRate l G _ a_this a_this_now a_this_now_purses a_this_text a_this_reader a_this_told a_this_draft a_this_firstImage a_this_secondImage a_this_kept a_this_offers a_this_seen a_this_rents a_this_now_leases a_this_now_past (y4) (v_now_night) (v_now_lot) (v_now_purses) (g1) r5 w6 hu) (cwV 1 hts gX8_shepherdRate_X8_tenantRate rfl rfl rfl hd_X8_tenantRate ⟨(Nat.le_of_ble_eq_true rfl), (Nat.le_of_ble_eq_true rfl)⟩) (zPVw hE hP hD [0, 1, 2] rfl rfl 0 rfl rfl) rfl rfl hl.1 rfl (lv_room (Nat.le_of_ble_eq_true rfl)) dX8_shepherdRate_14 ⟨Nat.zero_le _, Nat.zero_le _⟩) hP hD hS hA [0, 1, 2] [] [0, 1, 2] rfl rfl rfl rfl (by decide) rfl rfl rfl (fun H locs hP hD hS => ?_)
  refine lv_aload_n hx hb dX8_shepherdRate_17 rfl (lv_at hl 0 rfl) ?_
  refine va_get (D := G.1) (ci := 8) (v := .ref a_this_now) (C := RX8) (T := TX8) (N := 12) hx hb hts inX8 hown hK hP 0 rfl rfl 4 (by decide) lk36 (fun _ h9 => h9) rfl dX8_shepherdRate_18 ?_
  refine va_get (D := G.1) (ci := 0) (v := .int v_now_night) (C := RX0) (T := TX0) (N := 5) hx hb hts inX0 hown hK hP 1 rfl rfl 0 (by decide) lk142 (fun _ h9 => h9) rfl dX8_shepherdRate_21 ?_
  refine lv_iadd hx hb dX8_shepherdRate_24 ?_
  obtain ⟨hr0, hr1⟩ := so2 hf
  subst hr0
  subst hr1
  rw [← hQ]
  exact W.iret (v := (r5 + v_now_night)) hx hb hr (fun t ht hW => ⟨⟨rfl, by rw [ht]; exact hP⟩, hS.F ht⟩) hS.2.2 dX8_shepherdRate_25
theorem hd_X8_abbessRate : yX8_abbessRate.cls = RX8 ∧ yX8_abbessRate.cls ≠ "java/lang/invoke/MethodHandle" ∧ yX8_abbessRate.cls ≠ "java/lang/invoke/VarHandle" ∧ (parseMethodDescriptor yX8_abbessRate.desc).map (fun d => d.parameters.length) = some 1 := by decide +kernel
theorem hd_X8_heirRate : yX8_heirRate.cls = RX8 ∧ yX8_heirRate.cls ≠ "java/lang/invoke/MethodHandle" ∧ yX8_heirRate.cls ≠ "java/lang/invoke/VarHandle" ∧ (parseMethodDescriptor yX8_heirRate.desc).map (fun d => d.parameters.length) = some 1 := by decide +kernel
theorem hd_X8_shepherdRate : yX8_shepherdRate.cls = RX8 ∧ yX8_shepherdRate.cls ≠ "java/lang/invoke/MethodHandle" ∧ yX8_shepherdRate.cls ≠ "java/lang/invoke/VarHandle" ∧ (parseMethodDescriptor yX8_shepherdRate.desc).map (fun d => d.parameters.length) = some 1 := by decide +kernel
def f_X8_rate  (v_traced : Int64) (v_told_squares : Int32) (v_told_tenants : Int32) (v_now_night : Int32) (v_now_purses : (Nat → Int32)) (v_now_leases_size : Int32) (v_now_leases_parts : (Nat → Int32)) (g1 : Int32) (g2 : Int32) : Option (Int32 × Int64) := bd1 (f_X5_hasTenant (v_told_tenants) (g2)) fun r21 => if r21 = (0 : Int32) then (some ((-1000000 : Int32), v_traced)) else (if g1 = (0 : Int32) then (bd2 (f_X8_tenantRate (v_traced) (v_now_purses) (g2)) fun r24 w25 => some (r24, w25)) else (if g1 = (1 : Int32) then (bd2 (f_X8_cobblerRate (v_traced) (v_now_purses) (v_now_leases_size) (v_now_leases_parts) (g2)) fun r27 w28 => some (r27, w28)) else (if g1 = (2 : Int32) then (bd2 (f_X8_widowRate (v_traced) (v_told_squares) (v_now_night) (v_now_purses) (v_now_leases_size) (v_now_leases_parts) (g2)) fun r30 w31 => some (r30, w31)) else (if g1 = (3 : Int32) then (bd2 (f_X8_heirRate (v_traced) (v_now_purses) (v_now_leases_size) (v_now_leases_parts) (g2)) fun r33 w34 => some (r33, w34)) else (if g1 = (4 : Int32) then (bd2 (f_X8_abbessRate (v_traced) (v_told_squares) (v_now_night) (v_now_purses) (v_now_leases_size) (v_now_leases_parts) (g2)) fun r36 w37 => some (r36, w37)) else (if g1 = (5 : Int32) then (bd2 (f_X8_shepherdRate (v_traced) (v_now_night) (v_now_purses) (g2)) fun r39 w40 => some (r39, w40)) else (some ((-1000000 : Int32), v_traced))))))))
abbrev rm_X8_rate : Room := { frames := 6, cells := 0, slots := 0, locals := 136 }
set_option maxHeartbeats 4000000 in
set_option maxRecDepth 100000 in
theorem c_X8_rate (l : Launch) (G : zG) (sz : Nat) (a_this : Nat) (a_this_told : Nat) (a_this_now : Nat) (a_this_now_purses : Nat) (a_this_now_leases : Nat) (a_this_now_leases_parts : Nat) (a_this_text : Nat) (a_this_reader : Nat) (a_this_draft : Nat) (a_this_firstImage : Nat) (a_this_secondImage : Nat) (a_this_kept : Nat) (a_this_offers : Nat) (a_this_seen : Nat) (a_this_rents : Nat) (a_this_told_starts : Nat) (a_this_told_paces : Nat) (a_this_told_brights : Nat) (a_this_told_purses : Nat) (a_this_told_leases : Nat) (a_this_now_past : Nat) (v_traced : Int64) (v_told_squares : Int32) (v_told_stars : Int32) (v_told_tenants : Int32) (v_now_night : Int32) (v_now_lot : Int32) (v_now_purses : (Nat → Int32)) (v_now_leases_most : Int32) (v_now_leases_size : Int32) (v_now_leases_parts : (Nat → Int32)) (g1 : Int32) (g2 : Int32) (R0 : Int32) (R1 : Int64) (hf : f_X8_rate v_traced v_told_squares v_told_tenants v_now_night v_now_purses v_now_leases_size v_now_leases_parts g1 g2 = some (R0, R1)) : Met l yX8_rate wsX8_rate rm_X8_rate (va_Pc [.ref a_this, .int g1, .int g2] (zB G [(a_this, .inr (8, [.ref a_this_text, .ref a_this_reader, .ref a_this_told, .ref a_this_draft, .ref a_this_now, .ref a_this_firstImage, .ref a_this_secondImage, .ref a_this_kept, .ref a_this_offers, .ref a_this_seen, .ref a_this_rents, .long v_traced])), (a_this_told, .inr (5, [.int v_told_squares, .int v_told_stars, .ref a_this_told_starts, .ref a_this_told_paces, .ref a_this_told_brights, .int v_told_tenants, .ref a_this_told_purses, .ref a_this_told_leases])), (a_this_now, .inr (0, [.int v_now_night, .int v_now_lot, .ref a_this_now_purses, .ref a_this_now_leases, .ref a_this_now_past])), (a_this_now_purses, .inl (G.2.1, 4, .inl v_now_purses)), (a_this_now_leases, .inr (6, [.int v_now_leases_most, .ref a_this_now_leases_parts, .int v_now_leases_size])), (a_this_now_leases_parts, .inl (G.2.1, 50, .inl v_now_leases_parts))] sz)) (zQ G (some (.int R0)) [(a_this, .inr (8, [.ref a_this_text, .ref a_this_reader, .ref a_this_told, .ref a_this_draft, .ref a_this_now, .ref a_this_firstImage, .ref a_this_secondImage, .ref a_this_kept, .ref a_this_offers, .ref a_this_seen, .ref a_this_rents, .long R1])), (a_this_told, .inr (5, [.int v_told_squares, .int v_told_stars, .ref a_this_told_starts, .ref a_this_told_paces, .ref a_this_told_brights, .int v_told_tenants, .ref a_this_told_purses, .ref a_this_told_leases])), (a_this_now, .inr (0, [.int v_now_night, .int v_now_lot, .ref a_this_now_purses, .ref a_this_now_leases, .ref a_this_now_past])), (a_this_now_purses, .inl (G.2.1, 4, .inl v_now_purses)), (a_this_now_leases, .inr (6, [.int v_now_leases_most, .ref a_this_now_leases_parts, .int v_now_leases_size])), (a_this_now_leases_parts, .inl (G.2.1, 50, .inl v_now_leases_parts))] (va_A [(a_this, .inr (8, [.ref a_this_text, .ref a_this_reader, .ref a_this_told, .ref a_this_draft, .ref a_this_now, .ref a_this_firstImage, .ref a_this_secondImage, .ref a_this_kept, .ref a_this_offers, .ref a_this_seen, .ref a_this_rents, .long v_traced])), (a_this_told, .inr (5, [.int v_told_squares, .int v_told_stars, .ref a_this_told_starts, .ref a_this_told_paces, .ref a_this_told_brights, .int v_told_tenants, .ref a_this_told_purses, .ref a_this_told_leases])), (a_this_now, .inr (0, [.int v_now_night, .int v_now_lot, .ref a_this_now_purses, .ref a_this_now_leases, .ref a_this_now_past])), (a_this_now_purses, .inl (G.2.1, 4, .inl v_now_purses)), (a_this_now_leases, .inr (6, [.int v_now_leases_most, .ref a_this_now_leases_parts, .int v_now_leases_size])), (a_this_now_leases_parts, .inl (G.2.1, 50, .inl v_now_leases_parts))] sz)) 0 0 (va_A [(a_this, .inr (8, [.ref a_this_text, .ref a_this_reader, .ref a_this_told, .ref a_this_draft, .ref a_this_now, .ref a_this_firstImage, .ref a_this_secondImage, .ref a_this_kept, .ref a_this_offers, .ref a_this_seen, .ref a_this_rents, .long v_traced])), (a_this_told, .inr (5, [.int v_told_squares, .int v_told_stars, .ref a_this_told_starts, .ref a_this_told_paces, .ref a_this_told_brights, .int v_told_tenants, .ref a_this_told_purses, .ref a_this_told_leases])), (a_this_now, .inr (0, [.int v_now_night, .int v_now_lot, .ref a_this_now_purses, .ref a_this_now_leases, .ref a_this_now_past])), (a_this_now_purses, .inl (G.2.1, 4, .inl v_now_purses)), (a_this_now_leases, .inr (6, [.int v_now_leases_most, .ref a_this_now_leases_parts, .int v_now_leases_size])), (a_this_now_leases_parts, .inl (G.2.1, 50, .inl v_now_leases_parts))] sz) := by
  refine Met.ofW (cc := cX8_rate) (maxL := 3) (ret := (some .int)) (by decide) rfl ?_
  intro p e s m args below meth c s₁ B hml hv
  obtain ⟨hargs, hsz, hP, hD0, hE⟩ := hv
  have hx := B.exec
  have hb := B.bytes
  have hr := B.returns
  have hts := atoms_spec (ws := wsX8_rate) B.pre
  have hown : s.vm.findClass RX8 = some m.cls := findClass_of_methodNamed B.named
  have hlocks := B.notSynchronized
  have hK := hE.1
  have hC : CallFix p m c cX8_rate 3 s args wsX8_rate RX8 := ⟨hx, hb, hml, hown, hts⟩
  have inX8 : ∀ w ∈ wsX80, w ∈ wsX8_rate := by decide +kernel
  have lk26 := hts (.fieldLink RX8 26 "SkyLeases" "told" "LSkyLeases$Sky;") (by decide +kernel)
  subst hsz
  have hD := hD0.self (sz := s.heap.size)
  generalize hAe : va_A [(a_this, .inr (8, [.ref a_this_text, .ref a_this_reader, .ref a_this_told, .ref a_this_draft, .ref a_this_now, .ref a_this_firstImage, .ref a_this_secondImage, .ref a_this_kept, .ref a_this_offers, .ref a_this_seen, .ref a_this_rents, .long v_traced])), (a_this_told, .inr (5, [.int v_told_squares, .int v_told_stars, .ref a_this_told_starts, .ref a_this_told_paces, .ref a_this_told_brights, .int v_told_tenants, .ref a_this_told_purses, .ref a_this_told_leases])), (a_this_now, .inr (0, [.int v_now_night, .int v_now_lot, .ref a_this_now_purses, .ref a_this_now_leases, .ref a_this_now_past])), (a_this_now_purses, .inl (G.2.1, 4, .inl v_now_purses)), (a_this_now_leases, .inr (6, [.int v_now_leases_most, .ref a_this_now_leases_parts, .int v_now_leases_size])), (a_this_now_leases_parts, .inl (G.2.1, 50, .inl v_now_leases_parts))] s.heap.size = A at hD ⊢
  have hA : ∀ q : Nat, s.heap.size ≤ q → A q := fun q h => by rw [← hAe]; exact Or.inr h
  have hS : va_S A s.heap s.heap [] := va_S.rf
  have hP : va_P G.1 vwCl [(a_this, .inr (8, [.ref a_this_text, .ref a_this_reader, .ref a_this_told, .ref a_this_draft, .ref a_this_now, .ref a_this_firstImage, .ref a_this_secondImage, .ref a_this_kept, .ref a_this_offers, .ref a_this_seen, .ref a_this_rents, .long v_traced])), (a_this_told, .inr (5, [.int v_told_squares, .int v_told_stars, .ref a_this_told_starts, .ref a_this_told_paces, .ref a_this_told_brights, .int v_told_tenants, .ref a_this_told_purses, .ref a_this_told_leases])), (a_this_now, .inr (0, [.int v_now_night, .int v_now_lot, .ref a_this_now_purses, .ref a_this_now_leases, .ref a_this_now_past])), (a_this_now_purses, .inl (G.2.1, 4, .inl v_now_purses)), (a_this_now_leases, .inr (6, [.int v_now_leases_most, .ref a_this_now_leases_parts, .int v_now_leases_size])), (a_this_now_leases_parts, .inl (G.2.1, 50, .inl v_now_leases_parts))] s.heap := hP
  have hl := lv_entry ([.ref a_this, .int g1, .int g2]) (n := 3) (Nat.le_of_ble_eq_true rfl)
  have hent : entryFrame m args 3 = F0 m 0 ((lg_sl ([.ref a_this, .int g1, .int g2]) ++ List.replicate (3 - (lg_sl ([.ref a_this, .int g1, .int g2])).length) Slot.unset).toArray) [] := by rw [hargs]; exact lg_entry_eq m [.ref a_this, .int g1, .int g2] 3
  refine W.eq hent ?_
  clear hent
  generalize (lg_sl ([.ref a_this, .int g1, .int g2]) ++ List.replicate (3 - (lg_sl ([.ref a_this, .int g1, .int g2])).length) Slot.unset).toArray = ls at hl ⊢
  have hl : lv_has ls 3 [(0, .ref a_this), (1, .int g1), (2, .int g2)] := hl
  generalize hQ : MQ below _ args s 0 0 _ = QQ
  change W p l e rm_X8_rate s m args below meth c s.heap [] 0 0 QQ _
  have hSH := hS
  unfold f_X8_rate at hf
  refine lv_aload_n hx hb dX8_rate_0 rfl (lv_at hl 0 rfl) ?_
  refine va_get (D := G.1) (ci := 8) (v := .ref a_this_told) (C := RX8) (T := TX8) (N := 12) hx hb hts inX8 hown hK hP 0 rfl rfl 2 (by decide) lk26 (fun _ h9 => h9) rfl dX8_rate_1 ?_
  refine lv_iload_n hx hb dX8_rate_4 rfl (lv_at hl 2 rfl) ?_
  obtain ⟨r21, hu, hf⟩ := bd1_some hf
  refine zRi (va_runV (As := [.int g2]) (rest := []) hC (c_X5_hasTenant l G a_this_told a_this_told_starts a_this_told_paces a_this_told_brights a_this_told_purses a_this_told_leases (v_told_squares) (v_told_stars) (v_told_tenants) (g2) r21 hu) (cwV 1 hts gX8_rate_X5_hasTenant rfl rfl rfl hd_X5_hasTenant ⟨(Nat.le_of_ble_eq_true rfl), (Nat.le_of_ble_eq_true rfl)⟩) (zPV hE hP [1] rfl 1 rfl rfl) rfl rfl hl.1 rfl (lv_room (Nat.le_of_ble_eq_true rfl)) dX8_rate_5 ⟨Nat.zero_le _, Nat.zero_le _⟩) ?_
  refine lv_if_ne (tgt := 14) hx hb dX8_rate_8 (by decide) (fun hc22 => ?_) (fun hc22 => ?_)
  · have hf := if_f hf hc22
    refine lv_iload_n hx hb dX8_rate_14 rfl (lv_at hl 1 rfl) ?_
    by_cases hc23 : g1 = (0 : Int32)
    · have hf := if_t hf hc23
      refine lv_tableIn (x := g1) (off := 37) (tgt := 52) hx hb dX8_rate_15 (by rw [hc23]; decide) (by rw [hc23]; decide) (by rw [hc23]; decide) (by decide) ?_
      refine lv_aload_n hx hb dX8_rate_52 rfl (lv_at hl 0 rfl) ?_
      refine lv_iload_n hx hb dX8_rate_53 rfl (lv_at hl 2 rfl) ?_
      obtain ⟨r24, w25, hu, hf⟩ := bd2_some hf
      refine zWi (wr := [(a_this_told, .inr (5, [.int v_told_squares, .int v_told_stars, .ref a_this_told_starts, .ref a_this_told_paces, .ref a_this_told_brights, .int v_told_tenants, .ref a_this_told_purses, .ref a_this_told_leases])), (a_this_now_leases, .inr (6, [.int v_now_leases_most, .ref a_this_now_leases_parts, .int v_now_leases_size])), (a_this_now_leases_parts, .inl (G.2.1, 50, .inl v_now_leases_parts))]) (ws2 := [(a_this, .inr (8, [.ref a_this_text, .ref a_this_reader, .ref a_this_told, .ref a_this_draft, .ref a_this_now, .ref a_this_firstImage, .ref a_this_secondImage, .ref a_this_kept, .ref a_this_offers, .ref a_this_seen, .ref a_this_rents, .long w25])), (a_this_told, .inr (5, [.int v_told_squares, .int v_told_stars, .ref a_this_told_starts, .ref a_this_told_paces, .ref a_this_told_brights, .int v_told_tenants, .ref a_this_told_purses, .ref a_this_told_leases])), (a_this_now, .inr (0, [.int v_now_night, .int v_now_lot, .ref a_this_now_purses, .ref a_this_now_leases, .ref a_this_now_past])), (a_this_now_purses, .inl (G.2.1, 4, .inl v_now_purses)), (a_this_now_leases, .inr (6, [.int v_now_leases_most, .ref a_this_now_leases_parts, .int v_now_leases_size])), (a_this_now_leases_parts, .inl (G.2.1, 50, .inl v_now_leases_parts))]) (va_runV (As := [.int g2]) (rest := []) hC (c_X8_tenantRate l G _ a_this a_this_now a_this_now_purses a_this_text a_this_reader a_this_told a_this_draft a_this_firstImage a_this_secondImage a_this_kept a_this_offers a_this_seen a_this_rents a_this_now_leases a_this_now_past (v_traced) (v_now_night) (v_now_lot) (v_now_purses) (g2) r24 w25 hu) (cwV 1 hts gX8_rate_X8_tenantRate rfl rfl rfl hd_X8_tenantRate ⟨(Nat.le_of_ble_eq_true rfl), (Nat.le_of_ble_eq_true rfl)⟩) (zPVw hE hP hD [0, 2, 3] rfl rfl 0 rfl rfl) rfl rfl hl.1 rfl (lv_room (Nat.le_of_ble_eq_true rfl)) dX8_rate_54 ⟨Nat.zero_le _, Nat.zero_le _⟩) hP hD hS hA [0, 2, 3] [1, 4, 5] [3, 0, 4, 5, 1, 2] rfl rfl rfl rfl (by decide) rfl rfl rfl (fun H locs hP hD hS => ?_)
      obtain ⟨hr0, hr1⟩ := so2 hf
      subst hr0
      subst hr1
      rw [← hQ]
      exact W.iret (v := r24) hx hb hr (fun t ht hW => ⟨⟨rfl, by rw [ht]; exact hP⟩, hS.F ht⟩) hS.2.2 dX8_rate_57
    have hf := if_f hf hc23
    by_cases hc26 : g1 = (1 : Int32)
    · have hf := if_t hf hc26
      refine lv_tableIn (x := g1) (off := 43) (tgt := 58) hx hb dX8_rate_15 (by rw [hc26]; decide) (by rw [hc26]; decide) (by rw [hc26]; decide) (by decide) ?_
      refine lv_aload_n hx hb dX8_rate_58 rfl (lv_at hl 0 rfl) ?_
      refine lv_iload_n hx hb dX8_rate_59 rfl (lv_at hl 2 rfl) ?_
      obtain ⟨r27, w28, hu, hf⟩ := bd2_some hf
      refine zWi (wr := [(a_this_told, .inr (5, [.int v_told_squares, .int v_told_stars, .ref a_this_told_starts, .ref a_this_told_paces, .ref a_this_told_brights, .int v_told_tenants, .ref a_this_told_purses, .ref a_this_told_leases]))]) (ws2 := [(a_this, .inr (8, [.ref a_this_text, .ref a_this_reader, .ref a_this_told, .ref a_this_draft, .ref a_this_now, .ref a_this_firstImage, .ref a_this_secondImage, .ref a_this_kept, .ref a_this_offers, .ref a_this_seen, .ref a_this_rents, .long w28])), (a_this_told, .inr (5, [.int v_told_squares, .int v_told_stars, .ref a_this_told_starts, .ref a_this_told_paces, .ref a_this_told_brights, .int v_told_tenants, .ref a_this_told_purses, .ref a_this_told_leases])), (a_this_now, .inr (0, [.int v_now_night, .int v_now_lot, .ref a_this_now_purses, .ref a_this_now_leases, .ref a_this_now_past])), (a_this_now_purses, .inl (G.2.1, 4, .inl v_now_purses)), (a_this_now_leases, .inr (6, [.int v_now_leases_most, .ref a_this_now_leases_parts, .int v_now_leases_size])), (a_this_now_leases_parts, .inl (G.2.1, 50, .inl v_now_leases_parts))]) (va_runV (As := [.int g2]) (rest := []) hC (c_X8_cobblerRate l G _ a_this a_this_now a_this_now_purses a_this_now_leases a_this_now_leases_parts a_this_text a_this_reader a_this_told a_this_draft a_this_firstImage a_this_secondImage a_this_kept a_this_offers a_this_seen a_this_rents a_this_now_past (v_traced) (v_now_night) (v_now_lot) (v_now_purses) (v_now_leases_most) (v_now_leases_size) (v_now_leases_parts) (g2) r27 w28 hu) (cwV 1 hts gX8_rate_X8_cobblerRate rfl rfl rfl hd_X8_cobblerRate ⟨(Nat.le_of_ble_eq_true rfl), (Nat.le_of_ble_eq_true rfl)⟩) (zPVw hE hP hD [0, 2, 3, 4, 5] rfl rfl 0 rfl rfl) rfl rfl hl.1 rfl (lv_room (Nat.le_of_ble_eq_true rfl)) dX8_rate_60 ⟨Nat.zero_le _, Nat.zero_le _⟩) hP hD hS hA [0, 2, 3, 4, 5] [1] [1, 0, 2, 3, 4, 5] rfl rfl rfl rfl (by decide) rfl rfl rfl (fun H locs hP hD hS => ?_)
      obtain ⟨hr0, hr1⟩ := so2 hf
      subst hr0
      subst hr1
      rw [← hQ]
      exact W.iret (v := r27) hx hb hr (fun t ht hW => ⟨⟨rfl, by rw [ht]; exact hP⟩, hS.F ht⟩) hS.2.2 dX8_rate_63
    have hf := if_f hf hc26
    by_cases hc29 : g1 = (2 : Int32)
    · have hf := if_t hf hc29
      refine lv_tableIn (x := g1) (off := 49) (tgt := 64) hx hb dX8_rate_15 (by rw [hc29]; decide) (by rw [hc29]; decide) (by rw [hc29]; decide) (by decide) ?_
      refine lv_aload_n hx hb dX8_rate_64 rfl (lv_at hl 0 rfl) ?_
      refine lv_iload_n hx hb dX8_rate_65 rfl (lv_at hl 2 rfl) ?_
      obtain ⟨r30, w31, hu, hf⟩ := bd2_some hf
      refine zWi (wr := []) (ws2 := [(a_this, .inr (8, [.ref a_this_text, .ref a_this_reader, .ref a_this_told, .ref a_this_draft, .ref a_this_now, .ref a_this_firstImage, .ref a_this_secondImage, .ref a_this_kept, .ref a_this_offers, .ref a_this_seen, .ref a_this_rents, .long w31])), (a_this_told, .inr (5, [.int v_told_squares, .int v_told_stars, .ref a_this_told_starts, .ref a_this_told_paces, .ref a_this_told_brights, .int v_told_tenants, .ref a_this_told_purses, .ref a_this_told_leases])), (a_this_now, .inr (0, [.int v_now_night, .int v_now_lot, .ref a_this_now_purses, .ref a_this_now_leases, .ref a_this_now_past])), (a_this_now_purses, .inl (G.2.1, 4, .inl v_now_purses)), (a_this_now_leases, .inr (6, [.int v_now_leases_most, .ref a_this_now_leases_parts, .int v_now_leases_size])), (a_this_now_leases_parts, .inl (G.2.1, 50, .inl v_now_leases_parts))]) (va_runV (As := [.int g2]) (rest := []) hC (c_X8_widowRate l G _ a_this a_this_told a_this_now a_this_now_purses a_this_now_leases a_this_now_leases_parts a_this_text a_this_reader a_this_draft a_this_firstImage a_this_secondImage a_this_kept a_this_offers a_this_seen a_this_rents a_this_told_starts a_this_told_paces a_this_told_brights a_this_told_purses a_this_told_leases a_this_now_past (v_traced) (v_told_squares) (v_told_stars) (v_told_tenants) (v_now_night) (v_now_lot) (v_now_purses) (v_now_leases_most) (v_now_leases_size) (v_now_leases_parts) (g2) r30 w31 hu) (cwV 1 hts gX8_rate_X8_widowRate rfl rfl rfl hd_X8_widowRate ⟨(Nat.le_of_ble_eq_true rfl), (Nat.le_of_ble_eq_true rfl)⟩) (zPVw hE hP hD [0, 1, 2, 3, 4, 5] rfl rfl 0 rfl rfl) rfl rfl hl.1 rfl (lv_room (Nat.le_of_ble_eq_true rfl)) dX8_rate_66 ⟨Nat.zero_le _, Nat.zero_le _⟩) hP hD hS hA [0, 1, 2, 3, 4, 5] [] [0, 1, 2, 3, 4, 5] rfl rfl rfl rfl (by decide) rfl rfl rfl (fun H locs hP hD hS => ?_)
      obtain ⟨hr0, hr1⟩ := so2 hf
      subst hr0
      subst hr1
      rw [← hQ]
      exact W.iret (v := r30) hx hb hr (fun t ht hW => ⟨⟨rfl, by rw [ht]; exact hP⟩, hS.F ht⟩) hS.2.2 dX8_rate_69
    have hf := if_f hf hc29
    by_cases hc32 : g1 = (3 : Int32)
    · have hf := if_t hf hc32
      refine lv_tableIn (x := g1) (off := 55) (tgt := 70) hx hb dX8_rate_15 (by rw [hc32]; decide) (by rw [hc32]; decide) (by rw [hc32]; decide) (by decide) ?_
      refine lv_aload_n hx hb dX8_rate_70 rfl (lv_at hl 0 rfl) ?_
      refine lv_iload_n hx hb dX8_rate_71 rfl (lv_at hl 2 rfl) ?_
      obtain ⟨r33, w34, hu, hf⟩ := bd2_some hf
      refine zWi (wr := [(a_this_told, .inr (5, [.int v_told_squares, .int v_told_stars, .ref a_this_told_starts, .ref a_this_told_paces, .ref a_this_told_brights, .int v_told_tenants, .ref a_this_told_purses, .ref a_this_told_leases]))]) (ws2 := [(a_this, .inr (8, [.ref a_this_text, .ref a_this_reader, .ref a_this_told, .ref a_this_draft, .ref a_this_now, .ref a_this_firstImage, .ref a_this_secondImage, .ref a_this_kept, .ref a_this_offers, .ref a_this_seen, .ref a_this_rents, .long w34])), (a_this_told, .inr (5, [.int v_told_squares, .int v_told_stars, .ref a_this_told_starts, .ref a_this_told_paces, .ref a_this_told_brights, .int v_told_tenants, .ref a_this_told_purses, .ref a_this_told_leases])), (a_this_now, .inr (0, [.int v_now_night, .int v_now_lot, .ref a_this_now_purses, .ref a_this_now_leases, .ref a_this_now_past])), (a_this_now_purses, .inl (G.2.1, 4, .inl v_now_purses)), (a_this_now_leases, .inr (6, [.int v_now_leases_most, .ref a_this_now_leases_parts, .int v_now_leases_size])), (a_this_now_leases_parts, .inl (G.2.1, 50, .inl v_now_leases_parts))]) (va_runV (As := [.int g2]) (rest := []) hC (c_X8_heirRate l G _ a_this a_this_now a_this_now_purses a_this_now_leases a_this_now_leases_parts a_this_text a_this_reader a_this_told a_this_draft a_this_firstImage a_this_secondImage a_this_kept a_this_offers a_this_seen a_this_rents a_this_now_past (v_traced) (v_now_night) (v_now_lot) (v_now_purses) (v_now_leases_most) (v_now_leases_size) (v_now_leases_parts) (g2) r33 w34 hu) (cwV 1 hts gX8_rate_X8_heirRate rfl rfl rfl hd_X8_heirRate ⟨(Nat.le_of_ble_eq_true rfl), (Nat.le_of_ble_eq_true rfl)⟩) (zPVw hE hP hD [0, 2, 3, 4, 5] rfl rfl 0 rfl rfl) rfl rfl hl.1 rfl (lv_room (Nat.le_of_ble_eq_true rfl)) dX8_rate_72 ⟨Nat.zero_le _, Nat.zero_le _⟩) hP hD hS hA [0, 2, 3, 4, 5] [1] [1, 0, 2, 3, 4, 5] rfl rfl rfl rfl (by decide) rfl rfl rfl (fun H locs hP hD hS => ?_)
      obtain ⟨hr0, hr1⟩ := so2 hf
      subst hr0
      subst hr1
      rw [← hQ]
      exact W.iret (v := r33) hx hb hr (fun t ht hW => ⟨⟨rfl, by rw [ht]; exact hP⟩, hS.F ht⟩) hS.2.2 dX8_rate_75
    have hf := if_f hf hc32
    by_cases hc35 : g1 = (4 : Int32)
    · have hf := if_t hf hc35
      refine lv_tableIn (x := g1) (off := 61) (tgt := 76) hx hb dX8_rate_15 (by rw [hc35]; decide) (by rw [hc35]; decide) (by rw [hc35]; decide) (by decide) ?_
      refine lv_aload_n hx hb dX8_rate_76 rfl (lv_at hl 0 rfl) ?_
      refine lv_iload_n hx hb dX8_rate_77 rfl (lv_at hl 2 rfl) ?_
      obtain ⟨r36, w37, hu, hf⟩ := bd2_some hf
      refine zWi (wr := []) (ws2 := [(a_this, .inr (8, [.ref a_this_text, .ref a_this_reader, .ref a_this_told, .ref a_this_draft, .ref a_this_now, .ref a_this_firstImage, .ref a_this_secondImage, .ref a_this_kept, .ref a_this_offers, .ref a_this_seen, .ref a_this_rents, .long w37])), (a_this_told, .inr (5, [.int v_told_squares, .int v_told_stars, .ref a_this_told_starts, .ref a_this_told_paces, .ref a_this_told_brights, .int v_told_tenants, .ref a_this_told_purses, .ref a_this_told_leases])), (a_this_now, .inr (0, [.int v_now_night, .int v_now_lot, .ref a_this_now_purses, .ref a_this_now_leases, .ref a_this_now_past])), (a_this_now_purses, .inl (G.2.1, 4, .inl v_now_purses)), (a_this_now_leases, .inr (6, [.int v_now_leases_most, .ref a_this_now_leases_parts, .int v_now_leases_size])), (a_this_now_leases_parts, .inl (G.2.1, 50, .inl v_now_leases_parts))]) (va_runV (As := [.int g2]) (rest := []) hC (c_X8_abbessRate l G _ a_this a_this_told a_this_now a_this_now_purses a_this_now_leases a_this_now_leases_parts a_this_text a_this_reader a_this_draft a_this_firstImage a_this_secondImage a_this_kept a_this_offers a_this_seen a_this_rents a_this_told_starts a_this_told_paces a_this_told_brights a_this_told_purses a_this_told_leases a_this_now_past (v_traced) (v_told_squares) (v_told_stars) (v_told_tenants) (v_now_night) (v_now_lot) (v_now_purses) (v_now_leases_most) (v_now_leases_size) (v_now_leases_parts) (g2) r36 w37 hu) (cwV 1 hts gX8_rate_X8_abbessRate rfl rfl rfl hd_X8_abbessRate ⟨(Nat.le_of_ble_eq_true rfl), (Nat.le_of_ble_eq_true rfl)⟩) (zPVw hE hP hD [0, 1, 2, 3, 4, 5] rfl rfl 0 rfl rfl) rfl rfl hl.1 rfl (lv_room (Nat.le_of_ble_eq_true rfl)) dX8_rate_78 ⟨Nat.zero_le _, Nat.zero_le _⟩) hP hD hS hA [0, 1, 2, 3, 4, 5] [] [0, 1, 2, 3, 4, 5] rfl rfl rfl rfl (by decide) rfl rfl rfl (fun H locs hP hD hS => ?_)
      obtain ⟨hr0, hr1⟩ := so2 hf
      subst hr0
      subst hr1
      rw [← hQ]
      exact W.iret (v := r36) hx hb hr (fun t ht hW => ⟨⟨rfl, by rw [ht]; exact hP⟩, hS.F ht⟩) hS.2.2 dX8_rate_81
    have hf := if_f hf hc35
    by_cases hc38 : g1 = (5 : Int32)
    · have hf := if_t hf hc38
      refine lv_tableIn (x := g1) (off := 67) (tgt := 82) hx hb dX8_rate_15 (by rw [hc38]; decide) (by rw [hc38]; decide) (by rw [hc38]; decide) (by decide) ?_
      refine lv_aload_n hx hb dX8_rate_82 rfl (lv_at hl 0 rfl) ?_
      refine lv_iload_n hx hb dX8_rate_83 rfl (lv_at hl 2 rfl) ?_
      obtain ⟨r39, w40, hu, hf⟩ := bd2_some hf
      refine zWi (wr := [(a_this_told, .inr (5, [.int v_told_squares, .int v_told_stars, .ref a_this_told_starts, .ref a_this_told_paces, .ref a_this_told_brights, .int v_told_tenants, .ref a_this_told_purses, .ref a_this_told_leases])), (a_this_now_leases, .inr (6, [.int v_now_leases_most, .ref a_this_now_leases_parts, .int v_now_leases_size])), (a_this_now_leases_parts, .inl (G.2.1, 50, .inl v_now_leases_parts))]) (ws2 := [(a_this, .inr (8, [.ref a_this_text, .ref a_this_reader, .ref a_this_told, .ref a_this_draft, .ref a_this_now, .ref a_this_firstImage, .ref a_this_secondImage, .ref a_this_kept, .ref a_this_offers, .ref a_this_seen, .ref a_this_rents, .long w40])), (a_this_told, .inr (5, [.int v_told_squares, .int v_told_stars, .ref a_this_told_starts, .ref a_this_told_paces, .ref a_this_told_brights, .int v_told_tenants, .ref a_this_told_purses, .ref a_this_told_leases])), (a_this_now, .inr (0, [.int v_now_night, .int v_now_lot, .ref a_this_now_purses, .ref a_this_now_leases, .ref a_this_now_past])), (a_this_now_purses, .inl (G.2.1, 4, .inl v_now_purses)), (a_this_now_leases, .inr (6, [.int v_now_leases_most, .ref a_this_now_leases_parts, .int v_now_leases_size])), (a_this_now_leases_parts, .inl (G.2.1, 50, .inl v_now_leases_parts))]) (va_runV (As := [.int g2]) (rest := []) hC (c_X8_shepherdRate l G _ a_this a_this_now a_this_now_purses a_this_text a_this_reader a_this_told a_this_draft a_this_firstImage a_this_secondImage a_this_kept a_this_offers a_this_seen a_this_rents a_this_now_leases a_this_now_past (v_traced) (v_now_night) (v_now_lot) (v_now_purses) (g2) r39 w40 hu) (cwV 1 hts gX8_rate_X8_shepherdRate rfl rfl rfl hd_X8_shepherdRate ⟨(Nat.le_of_ble_eq_true rfl), (Nat.le_of_ble_eq_true rfl)⟩) (zPVw hE hP hD [0, 2, 3] rfl rfl 0 rfl rfl) rfl rfl hl.1 rfl (lv_room (Nat.le_of_ble_eq_true rfl)) dX8_rate_84 ⟨Nat.zero_le _, Nat.zero_le _⟩) hP hD hS hA [0, 2, 3] [1, 4, 5] [3, 0, 4, 5, 1, 2] rfl rfl rfl rfl (by decide) rfl rfl rfl (fun H locs hP hD hS => ?_)
      obtain ⟨hr0, hr1⟩ := so2 hf
      subst hr0
      subst hr1
      rw [← hQ]
      exact W.iret (v := r39) hx hb hr (fun t ht hW => ⟨⟨rfl, by rw [ht]; exact hP⟩, hS.F ht⟩) hS.2.2 dX8_rate_87
    have hf := if_f hf hc38
    have hthc23 : (g1).toInt ≠ 0 := fun h9 => hc23 (Int32.toInt_inj.mp (h9.trans (by decide)))
    have hthc26 : (g1).toInt ≠ 1 := fun h9 => hc26 (Int32.toInt_inj.mp (h9.trans (by decide)))
    have hthc29 : (g1).toInt ≠ 2 := fun h9 => hc29 (Int32.toInt_inj.mp (h9.trans (by decide)))
    have hthc32 : (g1).toInt ≠ 3 := fun h9 => hc32 (Int32.toInt_inj.mp (h9.trans (by decide)))
    have hthc35 : (g1).toInt ≠ 4 := fun h9 => hc35 (Int32.toInt_inj.mp (h9.trans (by decide)))
    have hthc38 : (g1).toInt ≠ 5 := fun h9 => hc38 (Int32.toInt_inj.mp (h9.trans (by decide)))
    refine lv_tableOut (x := g1) (tgt := 88) hx hb dX8_rate_15 (by omega) (by decide) ?_
    refine lv_ldc (own := RX8) (index := 238) (v := (-1000000 : Int32)) hx hb hown (hts (.constant RX8 238 (-1000000)) (by decide +kernel)) dX8_rate_88 ?_
    obtain ⟨hr0, hr1⟩ := so2 hf
    subst hr0
    subst hr1
    rw [← hQ]
    exact W.iret (v := (-1000000 : Int32)) hx hb hr (fun t ht hW => ⟨⟨rfl, by rw [ht]; exact hP⟩, hS.F ht⟩) hS.2.2 dX8_rate_90
  · have hf := if_t hf hc22
    refine lv_ldc (own := RX8) (index := 238) (v := (-1000000 : Int32)) hx hb hown (hts (.constant RX8 238 (-1000000)) (by decide +kernel)) dX8_rate_11 ?_
    obtain ⟨hr0, hr1⟩ := so2 hf
    subst hr0
    subst hr1
    rw [← hQ]
    exact W.iret (v := (-1000000 : Int32)) hx hb hr (fun t ht hW => ⟨⟨rfl, by rw [ht]; exact hP⟩, hS.F ht⟩) hS.2.2 dX8_rate_13
def f_X8_imageOf (a_this_firstImage : Nat) (a_this_secondImage : Nat)  (g1 : Int32) : Option (Nat) := if g1 = (0 : Int32) then (some (a_this_firstImage)) else (some (a_this_secondImage))
abbrev rm_X8_imageOf : Room := { frames := 0, cells := 0, slots := 0, locals := 0 }
set_option maxHeartbeats 4000000 in
set_option maxRecDepth 100000 in
theorem c_X8_imageOf (l : Launch) (G : zG) (a_this : Nat) (a_this_text : Nat) (a_this_reader : Nat) (a_this_told : Nat) (a_this_draft : Nat) (a_this_now : Nat) (a_this_firstImage : Nat) (a_this_secondImage : Nat) (a_this_kept : Nat) (a_this_offers : Nat) (a_this_seen : Nat) (a_this_rents : Nat) (v_traced : Int64) (g1 : Int32) (R0 : Nat) (hf : f_X8_imageOf a_this_firstImage a_this_secondImage g1 = some R0) : Met l yX8_imageOf wsX8_imageOf rm_X8_imageOf (va_Pc [.ref a_this, .int g1] (zR G [(a_this, .inr (8, [.ref a_this_text, .ref a_this_reader, .ref a_this_told, .ref a_this_draft, .ref a_this_now, .ref a_this_firstImage, .ref a_this_secondImage, .ref a_this_kept, .ref a_this_offers, .ref a_this_seen, .ref a_this_rents, .long v_traced]))])) (zSv (some (.ref R0))) 0 0 (fun _ => False) := by
  refine Met.ofW (cc := cX8_imageOf) (maxL := 2) (ret := (some (.object "SkyLeases$Now"))) (by decide) rfl ?_
  intro p e s m args below meth c s₁ B hml hv
  obtain ⟨hargs, hP, hE⟩ := hv
  have hx := B.exec
  have hb := B.bytes
  have hr := B.returns
  have hts := atoms_spec (ws := wsX8_imageOf) B.pre
  have hown : s.vm.findClass RX8 = some m.cls := findClass_of_methodNamed B.named
  have hlocks := B.notSynchronized
  have hK := hE.1
  have hC : CallFix p m c cX8_imageOf 2 s args wsX8_imageOf RX8 := ⟨hx, hb, hml, hown, hts⟩
  have inX8 : ∀ w ∈ wsX80, w ∈ wsX8_imageOf := by decide +kernel
  have lk40 := hts (.fieldLink RX8 40 "SkyLeases" "firstImage" "LSkyLeases$Now;") (by decide +kernel)
  have lk43 := hts (.fieldLink RX8 43 "SkyLeases" "secondImage" "LSkyLeases$Now;") (by decide +kernel)
  have hl := lv_entry ([.ref a_this, .int g1]) (n := 2) (Nat.le_of_ble_eq_true rfl)
  have hent : entryFrame m args 2 = F0 m 0 ((lg_sl ([.ref a_this, .int g1]) ++ List.replicate (2 - (lg_sl ([.ref a_this, .int g1])).length) Slot.unset).toArray) [] := by rw [hargs]; exact lg_entry_eq m [.ref a_this, .int g1] 2
  refine W.eq hent ?_
  clear hent
  generalize (lg_sl ([.ref a_this, .int g1]) ++ List.replicate (2 - (lg_sl ([.ref a_this, .int g1])).length) Slot.unset).toArray = ls at hl ⊢
  have hl : lv_has ls 2 [(0, .ref a_this), (1, .int g1)] := hl
  generalize hQ : MQ below _ args s 0 0 _ = QQ
  change W p l e rm_X8_imageOf s m args below meth c s.heap [] 0 0 QQ _
  unfold f_X8_imageOf at hf
  refine lv_iload_n hx hb dX8_imageOf_0 rfl (lv_at hl 1 rfl) ?_
  refine lv_if_ne (tgt := 11) hx hb dX8_imageOf_1 (by decide) (fun hc2 => ?_) (fun hc2 => ?_)
  · have hf := if_f hf hc2
    refine lv_aload_n hx hb dX8_imageOf_11 rfl (lv_at hl 0 rfl) ?_
    refine va_get (D := G.1) (ci := 8) (v := .ref a_this_secondImage) (C := RX8) (T := TX8) (N := 12) hx hb hts inX8 hown hK hP 0 rfl rfl 6 (by decide) lk43 (fun _ h9 => h9) rfl dX8_imageOf_12 ?_
    have hr0 := so1 hf
    subst hr0
    rw [← hQ]
    exact W.aret hx hb hr (Or.inl ⟨_, rfl⟩) (Or.inr ⟨_, rfl⟩) (fun t ht hW => ⟨rfl, ht⟩) (fun _ h => by cases h) dX8_imageOf_15
  · have hf := if_t hf hc2
    refine lv_aload_n hx hb dX8_imageOf_4 rfl (lv_at hl 0 rfl) ?_
    refine va_get (D := G.1) (ci := 8) (v := .ref a_this_firstImage) (C := RX8) (T := TX8) (N := 12) hx hb hts inX8 hown hK hP 0 rfl rfl 5 (by decide) lk40 (fun _ h9 => h9) rfl dX8_imageOf_5 ?_
    refine lv_goto (tgt := 15) hx hb dX8_imageOf_8 (by decide) ?_
    have hr0 := so1 hf
    subst hr0
    rw [← hQ]
    exact W.aret hx hb hr (Or.inl ⟨_, rfl⟩) (Or.inr ⟨_, rfl⟩) (fun t ht hW => ⟨rfl, ht⟩) (fun _ h => by cases h) dX8_imageOf_15
theorem hd_X0_become : yX0_become.cls = RX0 ∧ yX0_become.cls ≠ "java/lang/invoke/MethodHandle" ∧ yX0_become.cls ≠ "java/lang/invoke/VarHandle" ∧ (parseMethodDescriptor yX0_become.desc).map (fun d => d.parameters.length) = some 1 := by decide +kernel
theorem hd_X8_imageOf : yX8_imageOf.cls = RX8 ∧ yX8_imageOf.cls ≠ "java/lang/invoke/MethodHandle" ∧ yX8_imageOf.cls ≠ "java/lang/invoke/VarHandle" ∧ (parseMethodDescriptor yX8_imageOf.desc).map (fun d => d.parameters.length) = some 1 := by decide +kernel
def f_X8_keep  (v_firstImage_night : Int32) (v_firstImage_lot : Int32) (v_now_night : Int32) (v_now_lot : Int32) (v_now_purses : (Nat → Int32)) (v_firstImage_purses : (Nat → Int32)) (v_firstImage_leases_size : Int32) (v_now_leases_size : Int32) (v_firstImage_leases_parts : (Nat → Int32)) (v_now_leases_parts : (Nat → Int32)) (v_firstImage_past_rows_size : Int32) (v_now_past_rows_size : Int32) (v_firstImage_past_rows_parts : (Nat → Int32)) (v_now_past_rows_parts : (Nat → Int32)) (v_now_past_places : (Nat → Int32)) (v_firstImage_past_places : (Nat → Int32)) (v_kept : (Nat → Int32)) (v_secondImage_night : Int32) (v_secondImage_lot : Int32) (v_secondImage_purses : (Nat → Int32)) (v_secondImage_leases_size : Int32) (v_secondImage_leases_parts : (Nat → Int32)) (v_secondImage_past_rows_size : Int32) (v_secondImage_past_rows_parts : (Nat → Int32)) (v_secondImage_past_places : (Nat → Int32)) (g1 : Int32) : Option (Int32 × Int32 × Int32 × (Nat → Int32) × Int32 × (Nat → Int32) × Int32 × (Nat → Int32) × (Nat → Int32) × (Nat → Int32) × Int32 × Int32 × (Nat → Int32) × Int32 × (Nat → Int32) × Int32 × (Nat → Int32) × (Nat → Int32)) := bd1 (f_X8_isWithin (g1) ((0 : Int32)) ((1 : Int32))) fun r24 => if r24 = (0 : Int32) then (some ((-1 : Int32), v_firstImage_night, v_firstImage_lot, v_firstImage_purses, v_firstImage_leases_size, v_firstImage_leases_parts, v_firstImage_past_rows_size, v_firstImage_past_rows_parts, v_firstImage_past_places, v_kept, v_secondImage_night, v_secondImage_lot, v_secondImage_purses, v_secondImage_leases_size, v_secondImage_leases_parts, v_secondImage_past_rows_size, v_secondImage_past_rows_parts, v_secondImage_past_places)) else (if g1 = (0 : Int32) then (bd8 (f_X0_become (v_firstImage_night) (v_firstImage_lot) (v_now_night) (v_now_lot) (v_now_purses) (v_firstImage_purses) (v_firstImage_leases_size) (v_now_leases_size) (v_firstImage_leases_parts) (v_now_leases_parts) (v_firstImage_past_rows_size) (v_now_past_rows_size) (v_firstImage_past_rows_parts) (v_now_past_rows_parts) (v_now_past_places) (v_firstImage_past_places)) fun w27 w28 w29 w30 w31 w32 w33 w34 => gd (inB g1 2) (nm (upd v_kept (g1).toNatClampNeg (vp_nar .boolean (1 : Int32))) fun y36 => some (v_now_night, w27, w28, w29, w30, w31, w32, w33, w34, y36, v_secondImage_night, v_secondImage_lot, v_secondImage_purses, v_secondImage_leases_size, v_secondImage_leases_parts, v_secondImage_past_rows_size, v_secondImage_past_rows_parts, v_secondImage_past_places))) else (bd8 (f_X0_become (v_secondImage_night) (v_secondImage_lot) (v_now_night) (v_now_lot) (v_now_purses) (v_secondImage_purses) (v_secondImage_leases_size) (v_now_leases_size) (v_secondImage_leases_parts) (v_now_leases_parts) (v_secondImage_past_rows_size) (v_now_past_rows_size) (v_secondImage_past_rows_parts) (v_now_past_rows_parts) (v_now_past_places) (v_secondImage_past_places)) fun w37 w38 w39 w40 w41 w42 w43 w44 => gd (inB g1 2) (nm (upd v_kept (g1).toNatClampNeg (vp_nar .boolean (1 : Int32))) fun y46 => some (v_now_night, v_firstImage_night, v_firstImage_lot, v_firstImage_purses, v_firstImage_leases_size, v_firstImage_leases_parts, v_firstImage_past_rows_size, v_firstImage_past_rows_parts, v_firstImage_past_places, y46, w37, w38, w39, w40, w41, w42, w43, w44))))
abbrev rm_X8_keep : Room := { frames := 4, cells := 0, slots := 0, locals := 95 }
set_option maxHeartbeats 4000000 in
set_option maxRecDepth 100000 in
theorem c_X8_keep (l : Launch) (G : zG) (sz : Nat) (a_this : Nat) (a_this_firstImage : Nat) (a_this_now : Nat) (a_this_now_purses : Nat) (a_this_firstImage_purses : Nat) (a_this_firstImage_leases : Nat) (a_this_now_leases : Nat) (a_this_firstImage_leases_parts : Nat) (a_this_now_leases_parts : Nat) (a_this_firstImage_past : Nat) (a_this_now_past : Nat) (a_this_firstImage_past_rows : Nat) (a_this_now_past_rows : Nat) (a_this_firstImage_past_rows_parts : Nat) (a_this_now_past_rows_parts : Nat) (a_this_now_past_places : Nat) (a_this_firstImage_past_places : Nat) (a_this_kept : Nat) (a_this_secondImage : Nat) (a_this_secondImage_purses : Nat) (a_this_secondImage_leases : Nat) (a_this_secondImage_leases_parts : Nat) (a_this_secondImage_past : Nat) (a_this_secondImage_past_rows : Nat) (a_this_secondImage_past_rows_parts : Nat) (a_this_secondImage_past_places : Nat) (a_this_text : Nat) (a_this_reader : Nat) (a_this_told : Nat) (a_this_draft : Nat) (a_this_offers : Nat) (a_this_seen : Nat) (a_this_rents : Nat) (v_traced : Int64) (v_firstImage_night : Int32) (v_firstImage_lot : Int32) (v_now_night : Int32) (v_now_lot : Int32) (v_now_purses : (Nat → Int32)) (v_firstImage_purses : (Nat → Int32)) (v_firstImage_leases_most : Int32) (v_firstImage_leases_size : Int32) (v_now_leases_most : Int32) (v_now_leases_size : Int32) (v_firstImage_leases_parts : (Nat → Int32)) (v_now_leases_parts : (Nat → Int32)) (v_firstImage_past_rows_most : Int32) (v_firstImage_past_rows_size : Int32) (v_now_past_rows_most : Int32) (v_now_past_rows_size : Int32) (v_firstImage_past_rows_parts : (Nat → Int32)) (v_now_past_rows_parts : (Nat → Int32)) (v_now_past_places : (Nat → Int32)) (v_firstImage_past_places : (Nat → Int32)) (v_kept : (Nat → Int32)) (v_secondImage_night : Int32) (v_secondImage_lot : Int32) (v_secondImage_purses : (Nat → Int32)) (v_secondImage_leases_most : Int32) (v_secondImage_leases_size : Int32) (v_secondImage_leases_parts : (Nat → Int32)) (v_secondImage_past_rows_most : Int32) (v_secondImage_past_rows_size : Int32) (v_secondImage_past_rows_parts : (Nat → Int32)) (v_secondImage_past_places : (Nat → Int32)) (g1 : Int32) (R0 : Int32) (R1 : Int32) (R2 : Int32) (R3 : (Nat → Int32)) (R4 : Int32) (R5 : (Nat → Int32)) (R6 : Int32) (R7 : (Nat → Int32)) (R8 : (Nat → Int32)) (R9 : (Nat → Int32)) (R10 : Int32) (R11 : Int32) (R12 : (Nat → Int32)) (R13 : Int32) (R14 : (Nat → Int32)) (R15 : Int32) (R16 : (Nat → Int32)) (R17 : (Nat → Int32)) (hf : f_X8_keep v_firstImage_night v_firstImage_lot v_now_night v_now_lot v_now_purses v_firstImage_purses v_firstImage_leases_size v_now_leases_size v_firstImage_leases_parts v_now_leases_parts v_firstImage_past_rows_size v_now_past_rows_size v_firstImage_past_rows_parts v_now_past_rows_parts v_now_past_places v_firstImage_past_places v_kept v_secondImage_night v_secondImage_lot v_secondImage_purses v_secondImage_leases_size v_secondImage_leases_parts v_secondImage_past_rows_size v_secondImage_past_rows_parts v_secondImage_past_places g1 = some (R0, R1, R2, R3, R4, R5, R6, R7, R8, R9, R10, R11, R12, R13, R14, R15, R16, R17)) : Met l yX8_keep wsX8_keep rm_X8_keep (va_Pc [.ref a_this, .int g1] (zB G [(a_this, .inr (8, [.ref a_this_text, .ref a_this_reader, .ref a_this_told, .ref a_this_draft, .ref a_this_now, .ref a_this_firstImage, .ref a_this_secondImage, .ref a_this_kept, .ref a_this_offers, .ref a_this_seen, .ref a_this_rents, .long v_traced])), (a_this_firstImage, .inr (0, [.int v_firstImage_night, .int v_firstImage_lot, .ref a_this_firstImage_purses, .ref a_this_firstImage_leases, .ref a_this_firstImage_past])), (a_this_now, .inr (0, [.int v_now_night, .int v_now_lot, .ref a_this_now_purses, .ref a_this_now_leases, .ref a_this_now_past])), (a_this_now_purses, .inl (G.2.1, 4, .inl v_now_purses)), (a_this_firstImage_purses, .inl (G.2.1, 4, .inl v_firstImage_purses)), (a_this_firstImage_leases, .inr (6, [.int v_firstImage_leases_most, .ref a_this_firstImage_leases_parts, .int v_firstImage_leases_size])), (a_this_now_leases, .inr (6, [.int v_now_leases_most, .ref a_this_now_leases_parts, .int v_now_leases_size])), (a_this_firstImage_leases_parts, .inl (G.2.1, 50, .inl v_firstImage_leases_parts)), (a_this_now_leases_parts, .inl (G.2.1, 50, .inl v_now_leases_parts)), (a_this_firstImage_past, .inr (2, [.ref a_this_firstImage_past_rows, .ref a_this_firstImage_past_places])), (a_this_now_past, .inr (2, [.ref a_this_now_past_rows, .ref a_this_now_past_places])), (a_this_firstImage_past_rows, .inr (6, [.int v_firstImage_past_rows_most, .ref a_this_firstImage_past_rows_parts, .int v_firstImage_past_rows_size])), (a_this_now_past_rows, .inr (6, [.int v_now_past_rows_most, .ref a_this_now_past_rows_parts, .int v_now_past_rows_size])), (a_this_firstImage_past_rows_parts, .inl (G.2.1, 50, .inl v_firstImage_past_rows_parts)), (a_this_now_past_rows_parts, .inl (G.2.1, 50, .inl v_now_past_rows_parts)), (a_this_now_past_places, .inl (G.2.1, 6, .inl v_now_past_places)), (a_this_firstImage_past_places, .inl (G.2.1, 6, .inl v_firstImage_past_places)), (a_this_kept, .inl (G.2.2.2, 2, .inl v_kept)), (a_this_secondImage, .inr (0, [.int v_secondImage_night, .int v_secondImage_lot, .ref a_this_secondImage_purses, .ref a_this_secondImage_leases, .ref a_this_secondImage_past])), (a_this_secondImage_purses, .inl (G.2.1, 4, .inl v_secondImage_purses)), (a_this_secondImage_leases, .inr (6, [.int v_secondImage_leases_most, .ref a_this_secondImage_leases_parts, .int v_secondImage_leases_size])), (a_this_secondImage_leases_parts, .inl (G.2.1, 50, .inl v_secondImage_leases_parts)), (a_this_secondImage_past, .inr (2, [.ref a_this_secondImage_past_rows, .ref a_this_secondImage_past_places])), (a_this_secondImage_past_rows, .inr (6, [.int v_secondImage_past_rows_most, .ref a_this_secondImage_past_rows_parts, .int v_secondImage_past_rows_size])), (a_this_secondImage_past_rows_parts, .inl (G.2.1, 50, .inl v_secondImage_past_rows_parts)), (a_this_secondImage_past_places, .inl (G.2.1, 6, .inl v_secondImage_past_places))] sz)) (zQ G (some (.int R0)) [(a_this, .inr (8, [.ref a_this_text, .ref a_this_reader, .ref a_this_told, .ref a_this_draft, .ref a_this_now, .ref a_this_firstImage, .ref a_this_secondImage, .ref a_this_kept, .ref a_this_offers, .ref a_this_seen, .ref a_this_rents, .long v_traced])), (a_this_firstImage, .inr (0, [.int R1, .int R2, .ref a_this_firstImage_purses, .ref a_this_firstImage_leases, .ref a_this_firstImage_past])), (a_this_now, .inr (0, [.int v_now_night, .int v_now_lot, .ref a_this_now_purses, .ref a_this_now_leases, .ref a_this_now_past])), (a_this_now_purses, .inl (G.2.1, 4, .inl v_now_purses)), (a_this_firstImage_purses, .inl (G.2.1, 4, .inl R3)), (a_this_firstImage_leases, .inr (6, [.int v_firstImage_leases_most, .ref a_this_firstImage_leases_parts, .int R4])), (a_this_now_leases, .inr (6, [.int v_now_leases_most, .ref a_this_now_leases_parts, .int v_now_leases_size])), (a_this_firstImage_leases_parts, .inl (G.2.1, 50, .inl R5)), (a_this_now_leases_parts, .inl (G.2.1, 50, .inl v_now_leases_parts)), (a_this_firstImage_past, .inr (2, [.ref a_this_firstImage_past_rows, .ref a_this_firstImage_past_places])), (a_this_now_past, .inr (2, [.ref a_this_now_past_rows, .ref a_this_now_past_places])), (a_this_firstImage_past_rows, .inr (6, [.int v_firstImage_past_rows_most, .ref a_this_firstImage_past_rows_parts, .int R6])), (a_this_now_past_rows, .inr (6, [.int v_now_past_rows_most, .ref a_this_now_past_rows_parts, .int v_now_past_rows_size])), (a_this_firstImage_past_rows_parts, .inl (G.2.1, 50, .inl R7)), (a_this_now_past_rows_parts, .inl (G.2.1, 50, .inl v_now_past_rows_parts)), (a_this_now_past_places, .inl (G.2.1, 6, .inl v_now_past_places)), (a_this_firstImage_past_places, .inl (G.2.1, 6, .inl R8)), (a_this_kept, .inl (G.2.2.2, 2, .inl R9)), (a_this_secondImage, .inr (0, [.int R10, .int R11, .ref a_this_secondImage_purses, .ref a_this_secondImage_leases, .ref a_this_secondImage_past])), (a_this_secondImage_purses, .inl (G.2.1, 4, .inl R12)), (a_this_secondImage_leases, .inr (6, [.int v_secondImage_leases_most, .ref a_this_secondImage_leases_parts, .int R13])), (a_this_secondImage_leases_parts, .inl (G.2.1, 50, .inl R14)), (a_this_secondImage_past, .inr (2, [.ref a_this_secondImage_past_rows, .ref a_this_secondImage_past_places])), (a_this_secondImage_past_rows, .inr (6, [.int v_secondImage_past_rows_most, .ref a_this_secondImage_past_rows_parts, .int R15])), (a_this_secondImage_past_rows_parts, .inl (G.2.1, 50, .inl R16)), (a_this_secondImage_past_places, .inl (G.2.1, 6, .inl R17))] (va_A [(a_this, .inr (8, [.ref a_this_text, .ref a_this_reader, .ref a_this_told, .ref a_this_draft, .ref a_this_now, .ref a_this_firstImage, .ref a_this_secondImage, .ref a_this_kept, .ref a_this_offers, .ref a_this_seen, .ref a_this_rents, .long v_traced])), (a_this_firstImage, .inr (0, [.int v_firstImage_night, .int v_firstImage_lot, .ref a_this_firstImage_purses, .ref a_this_firstImage_leases, .ref a_this_firstImage_past])), (a_this_now, .inr (0, [.int v_now_night, .int v_now_lot, .ref a_this_now_purses, .ref a_this_now_leases, .ref a_this_now_past])), (a_this_now_purses, .inl (G.2.1, 4, .inl v_now_purses)), (a_this_firstImage_purses, .inl (G.2.1, 4, .inl v_firstImage_purses)), (a_this_firstImage_leases, .inr (6, [.int v_firstImage_leases_most, .ref a_this_firstImage_leases_parts, .int v_firstImage_leases_size])), (a_this_now_leases, .inr (6, [.int v_now_leases_most, .ref a_this_now_leases_parts, .int v_now_leases_size])), (a_this_firstImage_leases_parts, .inl (G.2.1, 50, .inl v_firstImage_leases_parts)), (a_this_now_leases_parts, .inl (G.2.1, 50, .inl v_now_leases_parts)), (a_this_firstImage_past, .inr (2, [.ref a_this_firstImage_past_rows, .ref a_this_firstImage_past_places])), (a_this_now_past, .inr (2, [.ref a_this_now_past_rows, .ref a_this_now_past_places])), (a_this_firstImage_past_rows, .inr (6, [.int v_firstImage_past_rows_most, .ref a_this_firstImage_past_rows_parts, .int v_firstImage_past_rows_size])), (a_this_now_past_rows, .inr (6, [.int v_now_past_rows_most, .ref a_this_now_past_rows_parts, .int v_now_past_rows_size])), (a_this_firstImage_past_rows_parts, .inl (G.2.1, 50, .inl v_firstImage_past_rows_parts)), (a_this_now_past_rows_parts, .inl (G.2.1, 50, .inl v_now_past_rows_parts)), (a_this_now_past_places, .inl (G.2.1, 6, .inl v_now_past_places)), (a_this_firstImage_past_places, .inl (G.2.1, 6, .inl v_firstImage_past_places)), (a_this_kept, .inl (G.2.2.2, 2, .inl v_kept)), (a_this_secondImage, .inr (0, [.int v_secondImage_night, .int v_secondImage_lot, .ref a_this_secondImage_purses, .ref a_this_secondImage_leases, .ref a_this_secondImage_past])), (a_this_secondImage_purses, .inl (G.2.1, 4, .inl v_secondImage_purses)), (a_this_secondImage_leases, .inr (6, [.int v_secondImage_leases_most, .ref a_this_secondImage_leases_parts, .int v_secondImage_leases_size])), (a_this_secondImage_leases_parts, .inl (G.2.1, 50, .inl v_secondImage_leases_parts)), (a_this_secondImage_past, .inr (2, [.ref a_this_secondImage_past_rows, .ref a_this_secondImage_past_places])), (a_this_secondImage_past_rows, .inr (6, [.int v_secondImage_past_rows_most, .ref a_this_secondImage_past_rows_parts, .int v_secondImage_past_rows_size])), (a_this_secondImage_past_rows_parts, .inl (G.2.1, 50, .inl v_secondImage_past_rows_parts)), (a_this_secondImage_past_places, .inl (G.2.1, 6, .inl v_secondImage_past_places))] sz)) 0 0 (va_A [(a_this, .inr (8, [.ref a_this_text, .ref a_this_reader, .ref a_this_told, .ref a_this_draft, .ref a_this_now, .ref a_this_firstImage, .ref a_this_secondImage, .ref a_this_kept, .ref a_this_offers, .ref a_this_seen, .ref a_this_rents, .long v_traced])), (a_this_firstImage, .inr (0, [.int v_firstImage_night, .int v_firstImage_lot, .ref a_this_firstImage_purses, .ref a_this_firstImage_leases, .ref a_this_firstImage_past])), (a_this_now, .inr (0, [.int v_now_night, .int v_now_lot, .ref a_this_now_purses, .ref a_this_now_leases, .ref a_this_now_past])), (a_this_now_purses, .inl (G.2.1, 4, .inl v_now_purses)), (a_this_firstImage_purses, .inl (G.2.1, 4, .inl v_firstImage_purses)), (a_this_firstImage_leases, .inr (6, [.int v_firstImage_leases_most, .ref a_this_firstImage_leases_parts, .int v_firstImage_leases_size])), (a_this_now_leases, .inr (6, [.int v_now_leases_most, .ref a_this_now_leases_parts, .int v_now_leases_size])), (a_this_firstImage_leases_parts, .inl (G.2.1, 50, .inl v_firstImage_leases_parts)), (a_this_now_leases_parts, .inl (G.2.1, 50, .inl v_now_leases_parts)), (a_this_firstImage_past, .inr (2, [.ref a_this_firstImage_past_rows, .ref a_this_firstImage_past_places])), (a_this_now_past, .inr (2, [.ref a_this_now_past_rows, .ref a_this_now_past_places])), (a_this_firstImage_past_rows, .inr (6, [.int v_firstImage_past_rows_most, .ref a_this_firstImage_past_rows_parts, .int v_firstImage_past_rows_size])), (a_this_now_past_rows, .inr (6, [.int v_now_past_rows_most, .ref a_this_now_past_rows_parts, .int v_now_past_rows_size])), (a_this_firstImage_past_rows_parts, .inl (G.2.1, 50, .inl v_firstImage_past_rows_parts)), (a_this_now_past_rows_parts, .inl (G.2.1, 50, .inl v_now_past_rows_parts)), (a_this_now_past_places, .inl (G.2.1, 6, .inl v_now_past_places)), (a_this_firstImage_past_places, .inl (G.2.1, 6, .inl v_firstImage_past_places)), (a_this_kept, .inl (G.2.2.2, 2, .inl v_kept)), (a_this_secondImage, .inr (0, [.int v_secondImage_night, .int v_secondImage_lot, .ref a_this_secondImage_purses, .ref a_this_secondImage_leases, .ref a_this_secondImage_past])), (a_this_secondImage_purses, .inl (G.2.1, 4, .inl v_secondImage_purses)), (a_this_secondImage_leases, .inr (6, [.int v_secondImage_leases_most, .ref a_this_secondImage_leases_parts, .int v_secondImage_leases_size])), (a_this_secondImage_leases_parts, .inl (G.2.1, 50, .inl v_secondImage_leases_parts)), (a_this_secondImage_past, .inr (2, [.ref a_this_secondImage_past_rows, .ref a_this_secondImage_past_places])), (a_this_secondImage_past_rows, .inr (6, [.int v_secondImage_past_rows_most, .ref a_this_secondImage_past_rows_parts, .int v_secondImage_past_rows_size])), (a_this_secondImage_past_rows_parts, .inl (G.2.1, 50, .inl v_secondImage_past_rows_parts)), (a_this_secondImage_past_places, .inl (G.2.1, 6, .inl v_secondImage_past_places))] sz) := by
  refine Met.ofW (cc := cX8_keep) (maxL := 2) (ret := (some .int)) (by decide) rfl ?_
  intro p e s m args below meth c s₁ B hml hv
  obtain ⟨hargs, hsz, hP, hD0, hE⟩ := hv
  have hx := B.exec
  have hb := B.bytes
  have hr := B.returns
  have hts := atoms_spec (ws := wsX8_keep) B.pre
  have hown : s.vm.findClass RX8 = some m.cls := findClass_of_methodNamed B.named
  have hlocks := B.notSynchronized
  have hK := hE.1
  have hC : CallFix p m c cX8_keep 2 s args wsX8_keep RX8 := ⟨hx, hb, hml, hown, hts⟩
  have inX0 : ∀ w ∈ wsX00, w ∈ wsX8_keep := by decide +kernel
  have inX8 : ∀ w ∈ wsX80, w ∈ wsX8_keep := by decide +kernel
  have lk36 := hts (.fieldLink RX8 36 "SkyLeases" "now" "LSkyLeases$Now;") (by decide +kernel)
  have lk46 := hts (.fieldLink RX8 46 "SkyLeases" "kept" "[Z") (by decide +kernel)
  have lk142 := hts (.fieldLink RX8 142 "SkyLeases$Now" "night" "I") (by decide +kernel)
  subst hsz
  have hD := hD0.self (sz := s.heap.size)
  generalize hAe : va_A [(a_this, .inr (8, [.ref a_this_text, .ref a_this_reader, .ref a_this_told, .ref a_this_draft, .ref a_this_now, .ref a_this_firstImage, .ref a_this_secondImage, .ref a_this_kept, .ref a_this_offers, .ref a_this_seen, .ref a_this_rents, .long v_traced])), (a_this_firstImage, .inr (0, [.int v_firstImage_night, .int v_firstImage_lot, .ref a_this_firstImage_purses, .ref a_this_firstImage_leases, .ref a_this_firstImage_past])), (a_this_now, .inr (0, [.int v_now_night, .int v_now_lot, .ref a_this_now_purses, .ref a_this_now_leases, .ref a_this_now_past])), (a_this_now_purses, .inl (G.2.1, 4, .inl v_now_purses)), (a_this_firstImage_purses, .inl (G.2.1, 4, .inl v_firstImage_purses)), (a_this_firstImage_leases, .inr (6, [.int v_firstImage_leases_most, .ref a_this_firstImage_leases_parts, .int v_firstImage_leases_size])), (a_this_now_leases, .inr (6, [.int v_now_leases_most, .ref a_this_now_leases_parts, .int v_now_leases_size])), (a_this_firstImage_leases_parts, .inl (G.2.1, 50, .inl v_firstImage_leases_parts)), (a_this_now_leases_parts, .inl (G.2.1, 50, .inl v_now_leases_parts)), (a_this_firstImage_past, .inr (2, [.ref a_this_firstImage_past_rows, .ref a_this_firstImage_past_places])), (a_this_now_past, .inr (2, [.ref a_this_now_past_rows, .ref a_this_now_past_places])), (a_this_firstImage_past_rows, .inr (6, [.int v_firstImage_past_rows_most, .ref a_this_firstImage_past_rows_parts, .int v_firstImage_past_rows_size])), (a_this_now_past_rows, .inr (6, [.int v_now_past_rows_most, .ref a_this_now_past_rows_parts, .int v_now_past_rows_size])), (a_this_firstImage_past_rows_parts, .inl (G.2.1, 50, .inl v_firstImage_past_rows_parts)), (a_this_now_past_rows_parts, .inl (G.2.1, 50, .inl v_now_past_rows_parts)), (a_this_now_past_places, .inl (G.2.1, 6, .inl v_now_past_places)), (a_this_firstImage_past_places, .inl (G.2.1, 6, .inl v_firstImage_past_places)), (a_this_kept, .inl (G.2.2.2, 2, .inl v_kept)), (a_this_secondImage, .inr (0, [.int v_secondImage_night, .int v_secondImage_lot, .ref a_this_secondImage_purses, .ref a_this_secondImage_leases, .ref a_this_secondImage_past])), (a_this_secondImage_purses, .inl (G.2.1, 4, .inl v_secondImage_purses)), (a_this_secondImage_leases, .inr (6, [.int v_secondImage_leases_most, .ref a_this_secondImage_leases_parts, .int v_secondImage_leases_size])), (a_this_secondImage_leases_parts, .inl (G.2.1, 50, .inl v_secondImage_leases_parts)), (a_this_secondImage_past, .inr (2, [.ref a_this_secondImage_past_rows, .ref a_this_secondImage_past_places])), (a_this_secondImage_past_rows, .inr (6, [.int v_secondImage_past_rows_most, .ref a_this_secondImage_past_rows_parts, .int v_secondImage_past_rows_size])), (a_this_secondImage_past_rows_parts, .inl (G.2.1, 50, .inl v_secondImage_past_rows_parts)), (a_this_secondImage_past_places, .inl (G.2.1, 6, .inl v_secondImage_past_places))] s.heap.size = A at hD ⊢
  have hA : ∀ q : Nat, s.heap.size ≤ q → A q := fun q h => by rw [← hAe]; exact Or.inr h
  have hS : va_S A s.heap s.heap [] := va_S.rf
  have hP : va_P G.1 vwCl [(a_this, .inr (8, [.ref a_this_text, .ref a_this_reader, .ref a_this_told, .ref a_this_draft, .ref a_this_now, .ref a_this_firstImage, .ref a_this_secondImage, .ref a_this_kept, .ref a_this_offers, .ref a_this_seen, .ref a_this_rents, .long v_traced])), (a_this_firstImage, .inr (0, [.int v_firstImage_night, .int v_firstImage_lot, .ref a_this_firstImage_purses, .ref a_this_firstImage_leases, .ref a_this_firstImage_past])), (a_this_now, .inr (0, [.int v_now_night, .int v_now_lot, .ref a_this_now_purses, .ref a_this_now_leases, .ref a_this_now_past])), (a_this_now_purses, .inl (G.2.1, 4, .inl v_now_purses)), (a_this_firstImage_purses, .inl (G.2.1, 4, .inl v_firstImage_purses)), (a_this_firstImage_leases, .inr (6, [.int v_firstImage_leases_most, .ref a_this_firstImage_leases_parts, .int v_firstImage_leases_size])), (a_this_now_leases, .inr (6, [.int v_now_leases_most, .ref a_this_now_leases_parts, .int v_now_leases_size])), (a_this_firstImage_leases_parts, .inl (G.2.1, 50, .inl v_firstImage_leases_parts)), (a_this_now_leases_parts, .inl (G.2.1, 50, .inl v_now_leases_parts)), (a_this_firstImage_past, .inr (2, [.ref a_this_firstImage_past_rows, .ref a_this_firstImage_past_places])), (a_this_now_past, .inr (2, [.ref a_this_now_past_rows, .ref a_this_now_past_places])), (a_this_firstImage_past_rows, .inr (6, [.int v_firstImage_past_rows_most, .ref a_this_firstImage_past_rows_parts, .int v_firstImage_past_rows_size])), (a_this_now_past_rows, .inr (6, [.int v_now_past_rows_most, .ref a_this_now_past_rows_parts, .int v_now_past_rows_size])), (a_this_firstImage_past_rows_parts, .inl (G.2.1, 50, .inl v_firstImage_past_rows_parts)), (a_this_now_past_rows_parts, .inl (G.2.1, 50, .inl v_now_past_rows_parts)), (a_this_now_past_places, .inl (G.2.1, 6, .inl v_now_past_places)), (a_this_firstImage_past_places, .inl (G.2.1, 6, .inl v_firstImage_past_places)), (a_this_kept, .inl (G.2.2.2, 2, .inl v_kept)), (a_this_secondImage, .inr (0, [.int v_secondImage_night, .int v_secondImage_lot, .ref a_this_secondImage_purses, .ref a_this_secondImage_leases, .ref a_this_secondImage_past])), (a_this_secondImage_purses, .inl (G.2.1, 4, .inl v_secondImage_purses)), (a_this_secondImage_leases, .inr (6, [.int v_secondImage_leases_most, .ref a_this_secondImage_leases_parts, .int v_secondImage_leases_size])), (a_this_secondImage_leases_parts, .inl (G.2.1, 50, .inl v_secondImage_leases_parts)), (a_this_secondImage_past, .inr (2, [.ref a_this_secondImage_past_rows, .ref a_this_secondImage_past_places])), (a_this_secondImage_past_rows, .inr (6, [.int v_secondImage_past_rows_most, .ref a_this_secondImage_past_rows_parts, .int v_secondImage_past_rows_size])), (a_this_secondImage_past_rows_parts, .inl (G.2.1, 50, .inl v_secondImage_past_rows_parts)), (a_this_secondImage_past_places, .inl (G.2.1, 6, .inl v_secondImage_past_places))] s.heap := hP
  have hl := lv_entry ([.ref a_this, .int g1]) (n := 2) (Nat.le_of_ble_eq_true rfl)
  have hent : entryFrame m args 2 = F0 m 0 ((lg_sl ([.ref a_this, .int g1]) ++ List.replicate (2 - (lg_sl ([.ref a_this, .int g1])).length) Slot.unset).toArray) [] := by rw [hargs]; exact lg_entry_eq m [.ref a_this, .int g1] 2
  refine W.eq hent ?_
  clear hent
  generalize (lg_sl ([.ref a_this, .int g1]) ++ List.replicate (2 - (lg_sl ([.ref a_this, .int g1])).length) Slot.unset).toArray = ls at hl ⊢
  have hl : lv_has ls 2 [(0, .ref a_this), (1, .int g1)] := hl
  generalize hQ : MQ below _ args s 0 0 _ = QQ
  change W p l e rm_X8_keep s m args below meth c s.heap [] 0 0 QQ _
  have hSH := hS
  unfold f_X8_keep at hf
  refine lv_iload_n hx hb dX8_keep_0 rfl (lv_at hl 1 rfl) ?_
  refine lv_iconst (v := (0 : Int32)) hx hb dX8_keep_1 (by decide) ?_
  refine lv_iconst (v := (1 : Int32)) hx hb dX8_keep_2 (by decide) ?_
  obtain ⟨r24, hu, hf⟩ := bd1_some hf
  refine zRi (va_runS (As := [.int g1, .int (0 : Int32), .int (1 : Int32)]) (rest := []) hC (c_X8_isWithin l G (g1) ((0 : Int32)) ((1 : Int32)) r24 hu) (va_cwS 3 hts gX8_keep_X8_isWithin rfl rfl rfl hd_X8_isWithin.2 ⟨(Nat.le_of_ble_eq_true rfl), (Nat.le_of_ble_eq_true rfl)⟩) (zPS hE hP [] rfl) rfl rfl hl.1 rfl (lv_room (Nat.le_of_ble_eq_true rfl)) dX8_keep_3 ⟨Nat.zero_le _, Nat.zero_le _⟩) ?_
  refine lv_if_ne (tgt := 11) hx hb dX8_keep_6 (by decide) (fun hc25 => ?_) (fun hc25 => ?_)
  · have hf := if_f hf hc25
    refine lv_aload_n hx hb dX8_keep_11 rfl (lv_at hl 0 rfl) ?_
    refine lv_iload_n hx hb dX8_keep_12 rfl (lv_at hl 1 rfl) ?_
    by_cases hc26 : g1 = (0 : Int32)
    · have hf := if_t hf hc26
      refine zRr (va_runV (As := [.int g1]) (rest := []) hC (c_X8_imageOf l G a_this a_this_text a_this_reader a_this_told a_this_draft a_this_now a_this_firstImage a_this_secondImage a_this_kept a_this_offers a_this_seen a_this_rents (v_traced) (g1) a_this_firstImage (by unfold f_X8_imageOf; rw [if_pos hc26])) (cwV 1 hts gX8_keep_X8_imageOf rfl rfl rfl hd_X8_imageOf ⟨(Nat.le_of_ble_eq_true rfl), (Nat.le_of_ble_eq_true rfl)⟩) (zPV hE hP [0] rfl 0 rfl rfl) rfl rfl hl.1 rfl (lv_room (Nat.le_of_ble_eq_true rfl)) dX8_keep_13 ⟨Nat.zero_le _, Nat.zero_le _⟩) ?_
      refine lv_aload_n hx hb dX8_keep_16 rfl (lv_at hl 0 rfl) ?_
      refine va_get (D := G.1) (ci := 8) (v := .ref a_this_now) (C := RX8) (T := TX8) (N := 12) hx hb hts inX8 hown hK hP 0 rfl rfl 4 (by decide) lk36 (fun _ h9 => h9) rfl dX8_keep_17 ?_
      obtain ⟨w27, w28, w29, w30, w31, w32, w33, w34, hu, hf⟩ := bd8_some hf
      refine zWn (wr := [(a_this, .inr (8, [.ref a_this_text, .ref a_this_reader, .ref a_this_told, .ref a_this_draft, .ref a_this_now, .ref a_this_firstImage, .ref a_this_secondImage, .ref a_this_kept, .ref a_this_offers, .ref a_this_seen, .ref a_this_rents, .long v_traced])), (a_this_kept, .inl (G.2.2.2, 2, .inl v_kept)), (a_this_secondImage, .inr (0, [.int v_secondImage_night, .int v_secondImage_lot, .ref a_this_secondImage_purses, .ref a_this_secondImage_leases, .ref a_this_secondImage_past])), (a_this_secondImage_purses, .inl (G.2.1, 4, .inl v_secondImage_purses)), (a_this_secondImage_leases, .inr (6, [.int v_secondImage_leases_most, .ref a_this_secondImage_leases_parts, .int v_secondImage_leases_size])), (a_this_secondImage_leases_parts, .inl (G.2.1, 50, .inl v_secondImage_leases_parts)), (a_this_secondImage_past, .inr (2, [.ref a_this_secondImage_past_rows, .ref a_this_secondImage_past_places])), (a_this_secondImage_past_rows, .inr (6, [.int v_secondImage_past_rows_most, .ref a_this_secondImage_past_rows_parts, .int v_secondImage_past_rows_size])), (a_this_secondImage_past_rows_parts, .inl (G.2.1, 50, .inl v_secondImage_past_rows_parts)), (a_this_secondImage_past_places, .inl (G.2.1, 6, .inl v_secondImage_past_places))]) (ws2 := [(a_this, .inr (8, [.ref a_this_text, .ref a_this_reader, .ref a_this_told, .ref a_this_draft, .ref a_this_now, .ref a_this_firstImage, .ref a_this_secondImage, .ref a_this_kept, .ref a_this_offers, .ref a_this_seen, .ref a_this_rents, .long v_traced])), (a_this_firstImage, .inr (0, [.int w27, .int w28, .ref a_this_firstImage_purses, .ref a_this_firstImage_leases, .ref a_this_firstImage_past])), (a_this_now, .inr (0, [.int v_now_night, .int v_now_lot, .ref a_this_now_purses, .ref a_this_now_leases, .ref a_this_now_past])), (a_this_now_purses, .inl (G.2.1, 4, .inl v_now_purses)), (a_this_firstImage_purses, .inl (G.2.1, 4, .inl w29)), (a_this_firstImage_leases, .inr (6, [.int v_firstImage_leases_most, .ref a_this_firstImage_leases_parts, .int w30])), (a_this_now_leases, .inr (6, [.int v_now_leases_most, .ref a_this_now_leases_parts, .int v_now_leases_size])), (a_this_firstImage_leases_parts, .inl (G.2.1, 50, .inl w31)), (a_this_now_leases_parts, .inl (G.2.1, 50, .inl v_now_leases_parts)), (a_this_firstImage_past, .inr (2, [.ref a_this_firstImage_past_rows, .ref a_this_firstImage_past_places])), (a_this_now_past, .inr (2, [.ref a_this_now_past_rows, .ref a_this_now_past_places])), (a_this_firstImage_past_rows, .inr (6, [.int v_firstImage_past_rows_most, .ref a_this_firstImage_past_rows_parts, .int w32])), (a_this_now_past_rows, .inr (6, [.int v_now_past_rows_most, .ref a_this_now_past_rows_parts, .int v_now_past_rows_size])), (a_this_firstImage_past_rows_parts, .inl (G.2.1, 50, .inl w33)), (a_this_now_past_rows_parts, .inl (G.2.1, 50, .inl v_now_past_rows_parts)), (a_this_now_past_places, .inl (G.2.1, 6, .inl v_now_past_places)), (a_this_firstImage_past_places, .inl (G.2.1, 6, .inl w34)), (a_this_kept, .inl (G.2.2.2, 2, .inl v_kept)), (a_this_secondImage, .inr (0, [.int v_secondImage_night, .int v_secondImage_lot, .ref a_this_secondImage_purses, .ref a_this_secondImage_leases, .ref a_this_secondImage_past])), (a_this_secondImage_purses, .inl (G.2.1, 4, .inl v_secondImage_purses)), (a_this_secondImage_leases, .inr (6, [.int v_secondImage_leases_most, .ref a_this_secondImage_leases_parts, .int v_secondImage_leases_size])), (a_this_secondImage_leases_parts, .inl (G.2.1, 50, .inl v_secondImage_leases_parts)), (a_this_secondImage_past, .inr (2, [.ref a_this_secondImage_past_rows, .ref a_this_secondImage_past_places])), (a_this_secondImage_past_rows, .inr (6, [.int v_secondImage_past_rows_most, .ref a_this_secondImage_past_rows_parts, .int v_secondImage_past_rows_size])), (a_this_secondImage_past_rows_parts, .inl (G.2.1, 50, .inl v_secondImage_past_rows_parts)), (a_this_secondImage_past_places, .inl (G.2.1, 6, .inl v_secondImage_past_places))]) (va_runV (As := [.ref a_this_now]) (rest := []) hC (c_X0_become l G _ a_this_firstImage a_this_now a_this_now_purses a_this_firstImage_purses a_this_firstImage_leases a_this_now_leases a_this_firstImage_leases_parts a_this_now_leases_parts a_this_firstImage_past a_this_now_past a_this_firstImage_past_rows a_this_now_past_rows a_this_firstImage_past_rows_parts a_this_now_past_rows_parts a_this_now_past_places a_this_firstImage_past_places (v_firstImage_night) (v_firstImage_lot) (v_now_night) (v_now_lot) (v_now_purses) (v_firstImage_purses) (v_firstImage_leases_most) (v_firstImage_leases_size) (v_now_leases_most) (v_now_leases_size) (v_firstImage_leases_parts) (v_now_leases_parts) (v_firstImage_past_rows_most) (v_firstImage_past_rows_size) (v_now_past_rows_most) (v_now_past_rows_size) (v_firstImage_past_rows_parts) (v_now_past_rows_parts) (v_now_past_places) (v_firstImage_past_places) w27 w28 w29 w30 w31 w32 w33 w34 hu) (cwV 1 hts gX8_keep_X0_become rfl rfl rfl hd_X0_become ⟨(Nat.le_of_ble_eq_true rfl), (Nat.le_of_ble_eq_true rfl)⟩) (zPVw hE hP hD [1, 2, 3, 4, 5, 6, 7, 8, 9, 10, 11, 12, 13, 14, 15, 16] rfl rfl 1 rfl rfl) rfl rfl hl.1 rfl (lv_room (Nat.le_of_ble_eq_true rfl)) dX8_keep_20 ⟨Nat.zero_le _, Nat.zero_le _⟩) hP hD hS hA [1, 2, 3, 4, 5, 6, 7, 8, 9, 10, 11, 12, 13, 14, 15, 16] [0, 17, 18, 19, 20, 21, 22, 23, 24, 25] [0, 10, 11, 12, 13, 14, 15, 16, 17, 18, 19, 20, 21, 22, 23, 24, 25, 1, 2, 3, 4, 5, 6, 7, 8, 9] rfl rfl rfl rfl (by decide) rfl rfl rfl (fun H locs hP hD hS => ?_)
      refine lv_aload_n hx hb dX8_keep_23 rfl (lv_at hl 0 rfl) ?_
      refine va_get (D := G.1) (ci := 8) (v := .ref a_this_kept) (C := RX8) (T := TX8) (N := 12) hx hb hts inX8 hown hK hP 0 rfl rfl 7 (by decide) lk46 (fun _ h9 => h9) rfl dX8_keep_24 ?_
      refine lv_iload_n hx hb dX8_keep_27 rfl (lv_at hl 1 rfl) ?_
      refine lv_iconst (v := (1 : Int32)) hx hb dX8_keep_28 (by decide) ?_
      obtain ⟨hg35, hf⟩ := gd_some hf
      refine z_zast hx hb hK hP hD hS 17 2 rfl rfl (inB_in hg35) dX8_keep_29 (fun gg => [(a_this, .inr (8, [.ref a_this_text, .ref a_this_reader, .ref a_this_told, .ref a_this_draft, .ref a_this_now, .ref a_this_firstImage, .ref a_this_secondImage, .ref a_this_kept, .ref a_this_offers, .ref a_this_seen, .ref a_this_rents, .long v_traced])), (a_this_firstImage, .inr (0, [.int w27, .int w28, .ref a_this_firstImage_purses, .ref a_this_firstImage_leases, .ref a_this_firstImage_past])), (a_this_now, .inr (0, [.int v_now_night, .int v_now_lot, .ref a_this_now_purses, .ref a_this_now_leases, .ref a_this_now_past])), (a_this_now_purses, .inl (G.2.1, 4, .inl v_now_purses)), (a_this_firstImage_purses, .inl (G.2.1, 4, .inl w29)), (a_this_firstImage_leases, .inr (6, [.int v_firstImage_leases_most, .ref a_this_firstImage_leases_parts, .int w30])), (a_this_now_leases, .inr (6, [.int v_now_leases_most, .ref a_this_now_leases_parts, .int v_now_leases_size])), (a_this_firstImage_leases_parts, .inl (G.2.1, 50, .inl w31)), (a_this_now_leases_parts, .inl (G.2.1, 50, .inl v_now_leases_parts)), (a_this_firstImage_past, .inr (2, [.ref a_this_firstImage_past_rows, .ref a_this_firstImage_past_places])), (a_this_now_past, .inr (2, [.ref a_this_now_past_rows, .ref a_this_now_past_places])), (a_this_firstImage_past_rows, .inr (6, [.int v_firstImage_past_rows_most, .ref a_this_firstImage_past_rows_parts, .int w32])), (a_this_now_past_rows, .inr (6, [.int v_now_past_rows_most, .ref a_this_now_past_rows_parts, .int v_now_past_rows_size])), (a_this_firstImage_past_rows_parts, .inl (G.2.1, 50, .inl w33)), (a_this_now_past_rows_parts, .inl (G.2.1, 50, .inl v_now_past_rows_parts)), (a_this_now_past_places, .inl (G.2.1, 6, .inl v_now_past_places)), (a_this_firstImage_past_places, .inl (G.2.1, 6, .inl w34)), (a_this_kept, .inl (G.2.2.2, 2, .inl gg)), (a_this_secondImage, .inr (0, [.int v_secondImage_night, .int v_secondImage_lot, .ref a_this_secondImage_purses, .ref a_this_secondImage_leases, .ref a_this_secondImage_past])), (a_this_secondImage_purses, .inl (G.2.1, 4, .inl v_secondImage_purses)), (a_this_secondImage_leases, .inr (6, [.int v_secondImage_leases_most, .ref a_this_secondImage_leases_parts, .int v_secondImage_leases_size])), (a_this_secondImage_leases_parts, .inl (G.2.1, 50, .inl v_secondImage_leases_parts)), (a_this_secondImage_past, .inr (2, [.ref a_this_secondImage_past_rows, .ref a_this_secondImage_past_places])), (a_this_secondImage_past_rows, .inr (6, [.int v_secondImage_past_rows_most, .ref a_this_secondImage_past_rows_parts, .int v_secondImage_past_rows_size])), (a_this_secondImage_past_rows_parts, .inl (G.2.1, 50, .inl v_secondImage_past_rows_parts)), (a_this_secondImage_past_places, .inl (G.2.1, 6, .inl v_secondImage_past_places))]) (fun gg => rfl) (fun y36 H locs ey36 hP hD hS => ?_)
      have hf := nm_to hf ey36
      have hP : va_P G.1 vwCl [(a_this, .inr (8, [.ref a_this_text, .ref a_this_reader, .ref a_this_told, .ref a_this_draft, .ref a_this_now, .ref a_this_firstImage, .ref a_this_secondImage, .ref a_this_kept, .ref a_this_offers, .ref a_this_seen, .ref a_this_rents, .long v_traced])), (a_this_firstImage, .inr (0, [.int w27, .int w28, .ref a_this_firstImage_purses, .ref a_this_firstImage_leases, .ref a_this_firstImage_past])), (a_this_now, .inr (0, [.int v_now_night, .int v_now_lot, .ref a_this_now_purses, .ref a_this_now_leases, .ref a_this_now_past])), (a_this_now_purses, .inl (G.2.1, 4, .inl v_now_purses)), (a_this_firstImage_purses, .inl (G.2.1, 4, .inl w29)), (a_this_firstImage_leases, .inr (6, [.int v_firstImage_leases_most, .ref a_this_firstImage_leases_parts, .int w30])), (a_this_now_leases, .inr (6, [.int v_now_leases_most, .ref a_this_now_leases_parts, .int v_now_leases_size])), (a_this_firstImage_leases_parts, .inl (G.2.1, 50, .inl w31)), (a_this_now_leases_parts, .inl (G.2.1, 50, .inl v_now_leases_parts)), (a_this_firstImage_past, .inr (2, [.ref a_this_firstImage_past_rows, .ref a_this_firstImage_past_places])), (a_this_now_past, .inr (2, [.ref a_this_now_past_rows, .ref a_this_now_past_places])), (a_this_firstImage_past_rows, .inr (6, [.int v_firstImage_past_rows_most, .ref a_this_firstImage_past_rows_parts, .int w32])), (a_this_now_past_rows, .inr (6, [.int v_now_past_rows_most, .ref a_this_now_past_rows_parts, .int v_now_past_rows_size])), (a_this_firstImage_past_rows_parts, .inl (G.2.1, 50, .inl w33)), (a_this_now_past_rows_parts, .inl (G.2.1, 50, .inl v_now_past_rows_parts)), (a_this_now_past_places, .inl (G.2.1, 6, .inl v_now_past_places)), (a_this_firstImage_past_places, .inl (G.2.1, 6, .inl w34)), (a_this_kept, .inl (G.2.2.2, 2, .inl y36)), (a_this_secondImage, .inr (0, [.int v_secondImage_night, .int v_secondImage_lot, .ref a_this_secondImage_purses, .ref a_this_secondImage_leases, .ref a_this_secondImage_past])), (a_this_secondImage_purses, .inl (G.2.1, 4, .inl v_secondImage_purses)), (a_this_secondImage_leases, .inr (6, [.int v_secondImage_leases_most, .ref a_this_secondImage_leases_parts, .int v_secondImage_leases_size])), (a_this_secondImage_leases_parts, .inl (G.2.1, 50, .inl v_secondImage_leases_parts)), (a_this_secondImage_past, .inr (2, [.ref a_this_secondImage_past_rows, .ref a_this_secondImage_past_places])), (a_this_secondImage_past_rows, .inr (6, [.int v_secondImage_past_rows_most, .ref a_this_secondImage_past_rows_parts, .int v_secondImage_past_rows_size])), (a_this_secondImage_past_rows_parts, .inl (G.2.1, 50, .inl v_secondImage_past_rows_parts)), (a_this_secondImage_past_places, .inl (G.2.1, 6, .inl v_secondImage_past_places))] H := hP
      have hD : va_D A [(a_this, .inr (8, [.ref a_this_text, .ref a_this_reader, .ref a_this_told, .ref a_this_draft, .ref a_this_now, .ref a_this_firstImage, .ref a_this_secondImage, .ref a_this_kept, .ref a_this_offers, .ref a_this_seen, .ref a_this_rents, .long v_traced])), (a_this_firstImage, .inr (0, [.int w27, .int w28, .ref a_this_firstImage_purses, .ref a_this_firstImage_leases, .ref a_this_firstImage_past])), (a_this_now, .inr (0, [.int v_now_night, .int v_now_lot, .ref a_this_now_purses, .ref a_this_now_leases, .ref a_this_now_past])), (a_this_now_purses, .inl (G.2.1, 4, .inl v_now_purses)), (a_this_firstImage_purses, .inl (G.2.1, 4, .inl w29)), (a_this_firstImage_leases, .inr (6, [.int v_firstImage_leases_most, .ref a_this_firstImage_leases_parts, .int w30])), (a_this_now_leases, .inr (6, [.int v_now_leases_most, .ref a_this_now_leases_parts, .int v_now_leases_size])), (a_this_firstImage_leases_parts, .inl (G.2.1, 50, .inl w31)), (a_this_now_leases_parts, .inl (G.2.1, 50, .inl v_now_leases_parts)), (a_this_firstImage_past, .inr (2, [.ref a_this_firstImage_past_rows, .ref a_this_firstImage_past_places])), (a_this_now_past, .inr (2, [.ref a_this_now_past_rows, .ref a_this_now_past_places])), (a_this_firstImage_past_rows, .inr (6, [.int v_firstImage_past_rows_most, .ref a_this_firstImage_past_rows_parts, .int w32])), (a_this_now_past_rows, .inr (6, [.int v_now_past_rows_most, .ref a_this_now_past_rows_parts, .int v_now_past_rows_size])), (a_this_firstImage_past_rows_parts, .inl (G.2.1, 50, .inl w33)), (a_this_now_past_rows_parts, .inl (G.2.1, 50, .inl v_now_past_rows_parts)), (a_this_now_past_places, .inl (G.2.1, 6, .inl v_now_past_places)), (a_this_firstImage_past_places, .inl (G.2.1, 6, .inl w34)), (a_this_kept, .inl (G.2.2.2, 2, .inl y36)), (a_this_secondImage, .inr (0, [.int v_secondImage_night, .int v_secondImage_lot, .ref a_this_secondImage_purses, .ref a_this_secondImage_leases, .ref a_this_secondImage_past])), (a_this_secondImage_purses, .inl (G.2.1, 4, .inl v_secondImage_purses)), (a_this_secondImage_leases, .inr (6, [.int v_secondImage_leases_most, .ref a_this_secondImage_leases_parts, .int v_secondImage_leases_size])), (a_this_secondImage_leases_parts, .inl (G.2.1, 50, .inl v_secondImage_leases_parts)), (a_this_secondImage_past, .inr (2, [.ref a_this_secondImage_past_rows, .ref a_this_secondImage_past_places])), (a_this_secondImage_past_rows, .inr (6, [.int v_secondImage_past_rows_most, .ref a_this_secondImage_past_rows_parts, .int v_secondImage_past_rows_size])), (a_this_secondImage_past_rows_parts, .inl (G.2.1, 50, .inl v_secondImage_past_rows_parts)), (a_this_secondImage_past_places, .inl (G.2.1, 6, .inl v_secondImage_past_places))] := hD
      refine lv_aload_n hx hb dX8_keep_30 rfl (lv_at hl 0 rfl) ?_
      refine va_get (D := G.1) (ci := 8) (v := .ref a_this_now) (C := RX8) (T := TX8) (N := 12) hx hb hts inX8 hown hK hP 0 rfl rfl 4 (by decide) lk36 (fun _ h9 => h9) rfl dX8_keep_31 ?_
      refine va_get (D := G.1) (ci := 0) (v := .int v_now_night) (C := RX0) (T := TX0) (N := 5) hx hb hts inX0 hown hK hP 2 rfl rfl 0 (by decide) lk142 (fun _ h9 => h9) rfl dX8_keep_34 ?_
      obtain ⟨hr0, hr1, hr2, hr3, hr4, hr5, hr6, hr7, hr8, hr9, hr10, hr11, hr12, hr13, hr14, hr15, hr16, hr17⟩ := so18 hf
      subst hr0
      subst hr1
      subst hr2
      subst hr3
      subst hr4
      subst hr5
      subst hr6
      subst hr7
      subst hr8
      subst hr9
      subst hr10
      subst hr11
      subst hr12
      subst hr13
      subst hr14
      subst hr15
      subst hr16
      subst hr17
      rw [← hQ]
      exact W.iret (v := v_now_night) hx hb hr (fun t ht hW => ⟨⟨rfl, by rw [ht]; exact hP⟩, hS.F ht⟩) hS.2.2 dX8_keep_37
    · have hf := if_f hf hc26
      refine zRr (va_runV (As := [.int g1]) (rest := []) hC (c_X8_imageOf l G a_this a_this_text a_this_reader a_this_told a_this_draft a_this_now a_this_firstImage a_this_secondImage a_this_kept a_this_offers a_this_seen a_this_rents (v_traced) (g1) a_this_secondImage (by unfold f_X8_imageOf; rw [if_neg hc26])) (cwV 1 hts gX8_keep_X8_imageOf rfl rfl rfl hd_X8_imageOf ⟨(Nat.le_of_ble_eq_true rfl), (Nat.le_of_ble_eq_true rfl)⟩) (zPV hE hP [0] rfl 0 rfl rfl) rfl rfl hl.1 rfl (lv_room (Nat.le_of_ble_eq_true rfl)) dX8_keep_13 ⟨Nat.zero_le _, Nat.zero_le _⟩) ?_
      refine lv_aload_n hx hb dX8_keep_16 rfl (lv_at hl 0 rfl) ?_
      refine va_get (D := G.1) (ci := 8) (v := .ref a_this_now) (C := RX8) (T := TX8) (N := 12) hx hb hts inX8 hown hK hP 0 rfl rfl 4 (by decide) lk36 (fun _ h9 => h9) rfl dX8_keep_17 ?_
      obtain ⟨w37, w38, w39, w40, w41, w42, w43, w44, hu, hf⟩ := bd8_some hf
      refine zWn (wr := [(a_this, .inr (8, [.ref a_this_text, .ref a_this_reader, .ref a_this_told, .ref a_this_draft, .ref a_this_now, .ref a_this_firstImage, .ref a_this_secondImage, .ref a_this_kept, .ref a_this_offers, .ref a_this_seen, .ref a_this_rents, .long v_traced])), (a_this_firstImage, .inr (0, [.int v_firstImage_night, .int v_firstImage_lot, .ref a_this_firstImage_purses, .ref a_this_firstImage_leases, .ref a_this_firstImage_past])), (a_this_firstImage_purses, .inl (G.2.1, 4, .inl v_firstImage_purses)), (a_this_firstImage_leases, .inr (6, [.int v_firstImage_leases_most, .ref a_this_firstImage_leases_parts, .int v_firstImage_leases_size])), (a_this_firstImage_leases_parts, .inl (G.2.1, 50, .inl v_firstImage_leases_parts)), (a_this_firstImage_past, .inr (2, [.ref a_this_firstImage_past_rows, .ref a_this_firstImage_past_places])), (a_this_firstImage_past_rows, .inr (6, [.int v_firstImage_past_rows_most, .ref a_this_firstImage_past_rows_parts, .int v_firstImage_past_rows_size])), (a_this_firstImage_past_rows_parts, .inl (G.2.1, 50, .inl v_firstImage_past_rows_parts)), (a_this_firstImage_past_places, .inl (G.2.1, 6, .inl v_firstImage_past_places)), (a_this_kept, .inl (G.2.2.2, 2, .inl v_kept))]) (ws2 := [(a_this, .inr (8, [.ref a_this_text, .ref a_this_reader, .ref a_this_told, .ref a_this_draft, .ref a_this_now, .ref a_this_firstImage, .ref a_this_secondImage, .ref a_this_kept, .ref a_this_offers, .ref a_this_seen, .ref a_this_rents, .long v_traced])), (a_this_firstImage, .inr (0, [.int v_firstImage_night, .int v_firstImage_lot, .ref a_this_firstImage_purses, .ref a_this_firstImage_leases, .ref a_this_firstImage_past])), (a_this_now, .inr (0, [.int v_now_night, .int v_now_lot, .ref a_this_now_purses, .ref a_this_now_leases, .ref a_this_now_past])), (a_this_now_purses, .inl (G.2.1, 4, .inl v_now_purses)), (a_this_firstImage_purses, .inl (G.2.1, 4, .inl v_firstImage_purses)), (a_this_firstImage_leases, .inr (6, [.int v_firstImage_leases_most, .ref a_this_firstImage_leases_parts, .int v_firstImage_leases_size])), (a_this_now_leases, .inr (6, [.int v_now_leases_most, .ref a_this_now_leases_parts, .int v_now_leases_size])), (a_this_firstImage_leases_parts, .inl (G.2.1, 50, .inl v_firstImage_leases_parts)), (a_this_now_leases_parts, .inl (G.2.1, 50, .inl v_now_leases_parts)), (a_this_firstImage_past, .inr (2, [.ref a_this_firstImage_past_rows, .ref a_this_firstImage_past_places])), (a_this_now_past, .inr (2, [.ref a_this_now_past_rows, .ref a_this_now_past_places])), (a_this_firstImage_past_rows, .inr (6, [.int v_firstImage_past_rows_most, .ref a_this_firstImage_past_rows_parts, .int v_firstImage_past_rows_size])), (a_this_now_past_rows, .inr (6, [.int v_now_past_rows_most, .ref a_this_now_past_rows_parts, .int v_now_past_rows_size])), (a_this_firstImage_past_rows_parts, .inl (G.2.1, 50, .inl v_firstImage_past_rows_parts)), (a_this_now_past_rows_parts, .inl (G.2.1, 50, .inl v_now_past_rows_parts)), (a_this_now_past_places, .inl (G.2.1, 6, .inl v_now_past_places)), (a_this_firstImage_past_places, .inl (G.2.1, 6, .inl v_firstImage_past_places)), (a_this_kept, .inl (G.2.2.2, 2, .inl v_kept)), (a_this_secondImage, .inr (0, [.int w37, .int w38, .ref a_this_secondImage_purses, .ref a_this_secondImage_leases, .ref a_this_secondImage_past])), (a_this_secondImage_purses, .inl (G.2.1, 4, .inl w39)), (a_this_secondImage_leases, .inr (6, [.int v_secondImage_leases_most, .ref a_this_secondImage_leases_parts, .int w40])), (a_this_secondImage_leases_parts, .inl (G.2.1, 50, .inl w41)), (a_this_secondImage_past, .inr (2, [.ref a_this_secondImage_past_rows, .ref a_this_secondImage_past_places])), (a_this_secondImage_past_rows, .inr (6, [.int v_secondImage_past_rows_most, .ref a_this_secondImage_past_rows_parts, .int w42])), (a_this_secondImage_past_rows_parts, .inl (G.2.1, 50, .inl w43)), (a_this_secondImage_past_places, .inl (G.2.1, 6, .inl w44))]) (va_runV (As := [.ref a_this_now]) (rest := []) hC (c_X0_become l G _ a_this_secondImage a_this_now a_this_now_purses a_this_secondImage_purses a_this_secondImage_leases a_this_now_leases a_this_secondImage_leases_parts a_this_now_leases_parts a_this_secondImage_past a_this_now_past a_this_secondImage_past_rows a_this_now_past_rows a_this_secondImage_past_rows_parts a_this_now_past_rows_parts a_this_now_past_places a_this_secondImage_past_places (v_secondImage_night) (v_secondImage_lot) (v_now_night) (v_now_lot) (v_now_purses) (v_secondImage_purses) (v_secondImage_leases_most) (v_secondImage_leases_size) (v_now_leases_most) (v_now_leases_size) (v_secondImage_leases_parts) (v_now_leases_parts) (v_secondImage_past_rows_most) (v_secondImage_past_rows_size) (v_now_past_rows_most) (v_now_past_rows_size) (v_secondImage_past_rows_parts) (v_now_past_rows_parts) (v_now_past_places) (v_secondImage_past_places) w37 w38 w39 w40 w41 w42 w43 w44 hu) (cwV 1 hts gX8_keep_X0_become rfl rfl rfl hd_X0_become ⟨(Nat.le_of_ble_eq_true rfl), (Nat.le_of_ble_eq_true rfl)⟩) (zPVw hE hP hD [18, 2, 3, 19, 20, 6, 21, 8, 22, 10, 23, 12, 24, 14, 15, 25] rfl rfl 18 rfl rfl) rfl rfl hl.1 rfl (lv_room (Nat.le_of_ble_eq_true rfl)) dX8_keep_20 ⟨Nat.zero_le _, Nat.zero_le _⟩) hP hD hS hA [18, 2, 3, 19, 20, 6, 21, 8, 22, 10, 23, 12, 24, 14, 15, 25] [0, 1, 4, 5, 7, 9, 11, 13, 16, 17] [0, 1, 11, 12, 2, 3, 15, 4, 17, 5, 19, 6, 21, 7, 23, 24, 8, 9, 10, 13, 14, 16, 18, 20, 22, 25] rfl rfl rfl rfl (by decide) rfl rfl rfl (fun H locs hP hD hS => ?_)
      refine lv_aload_n hx hb dX8_keep_23 rfl (lv_at hl 0 rfl) ?_
      refine va_get (D := G.1) (ci := 8) (v := .ref a_this_kept) (C := RX8) (T := TX8) (N := 12) hx hb hts inX8 hown hK hP 0 rfl rfl 7 (by decide) lk46 (fun _ h9 => h9) rfl dX8_keep_24 ?_
      refine lv_iload_n hx hb dX8_keep_27 rfl (lv_at hl 1 rfl) ?_
      refine lv_iconst (v := (1 : Int32)) hx hb dX8_keep_28 (by decide) ?_
      obtain ⟨hg45, hf⟩ := gd_some hf
      refine z_zast hx hb hK hP hD hS 17 2 rfl rfl (inB_in hg45) dX8_keep_29 (fun gg => [(a_this, .inr (8, [.ref a_this_text, .ref a_this_reader, .ref a_this_told, .ref a_this_draft, .ref a_this_now, .ref a_this_firstImage, .ref a_this_secondImage, .ref a_this_kept, .ref a_this_offers, .ref a_this_seen, .ref a_this_rents, .long v_traced])), (a_this_firstImage, .inr (0, [.int v_firstImage_night, .int v_firstImage_lot, .ref a_this_firstImage_purses, .ref a_this_firstImage_leases, .ref a_this_firstImage_past])), (a_this_now, .inr (0, [.int v_now_night, .int v_now_lot, .ref a_this_now_purses, .ref a_this_now_leases, .ref a_this_now_past])), (a_this_now_purses, .inl (G.2.1, 4, .inl v_now_purses)), (a_this_firstImage_purses, .inl (G.2.1, 4, .inl v_firstImage_purses)), (a_this_firstImage_leases, .inr (6, [.int v_firstImage_leases_most, .ref a_this_firstImage_leases_parts, .int v_firstImage_leases_size])), (a_this_now_leases, .inr (6, [.int v_now_leases_most, .ref a_this_now_leases_parts, .int v_now_leases_size])), (a_this_firstImage_leases_parts, .inl (G.2.1, 50, .inl v_firstImage_leases_parts)), (a_this_now_leases_parts, .inl (G.2.1, 50, .inl v_now_leases_parts)), (a_this_firstImage_past, .inr (2, [.ref a_this_firstImage_past_rows, .ref a_this_firstImage_past_places])), (a_this_now_past, .inr (2, [.ref a_this_now_past_rows, .ref a_this_now_past_places])), (a_this_firstImage_past_rows, .inr (6, [.int v_firstImage_past_rows_most, .ref a_this_firstImage_past_rows_parts, .int v_firstImage_past_rows_size])), (a_this_now_past_rows, .inr (6, [.int v_now_past_rows_most, .ref a_this_now_past_rows_parts, .int v_now_past_rows_size])), (a_this_firstImage_past_rows_parts, .inl (G.2.1, 50, .inl v_firstImage_past_rows_parts)), (a_this_now_past_rows_parts, .inl (G.2.1, 50, .inl v_now_past_rows_parts)), (a_this_now_past_places, .inl (G.2.1, 6, .inl v_now_past_places)), (a_this_firstImage_past_places, .inl (G.2.1, 6, .inl v_firstImage_past_places)), (a_this_kept, .inl (G.2.2.2, 2, .inl gg)), (a_this_secondImage, .inr (0, [.int w37, .int w38, .ref a_this_secondImage_purses, .ref a_this_secondImage_leases, .ref a_this_secondImage_past])), (a_this_secondImage_purses, .inl (G.2.1, 4, .inl w39)), (a_this_secondImage_leases, .inr (6, [.int v_secondImage_leases_most, .ref a_this_secondImage_leases_parts, .int w40])), (a_this_secondImage_leases_parts, .inl (G.2.1, 50, .inl w41)), (a_this_secondImage_past, .inr (2, [.ref a_this_secondImage_past_rows, .ref a_this_secondImage_past_places])), (a_this_secondImage_past_rows, .inr (6, [.int v_secondImage_past_rows_most, .ref a_this_secondImage_past_rows_parts, .int w42])), (a_this_secondImage_past_rows_parts, .inl (G.2.1, 50, .inl w43)), (a_this_secondImage_past_places, .inl (G.2.1, 6, .inl w44))]) (fun gg => rfl) (fun y46 H locs ey46 hP hD hS => ?_)
      have hf := nm_to hf ey46
      have hP : va_P G.1 vwCl [(a_this, .inr (8, [.ref a_this_text, .ref a_this_reader, .ref a_this_told, .ref a_this_draft, .ref a_this_now, .ref a_this_firstImage, .ref a_this_secondImage, .ref a_this_kept, .ref a_this_offers, .ref a_this_seen, .ref a_this_rents, .long v_traced])), (a_this_firstImage, .inr (0, [.int v_firstImage_night, .int v_firstImage_lot, .ref a_this_firstImage_purses, .ref a_this_firstImage_leases, .ref a_this_firstImage_past])), (a_this_now, .inr (0, [.int v_now_night, .int v_now_lot, .ref a_this_now_purses, .ref a_this_now_leases, .ref a_this_now_past])), (a_this_now_purses, .inl (G.2.1, 4, .inl v_now_purses)), (a_this_firstImage_purses, .inl (G.2.1, 4, .inl v_firstImage_purses)), (a_this_firstImage_leases, .inr (6, [.int v_firstImage_leases_most, .ref a_this_firstImage_leases_parts, .int v_firstImage_leases_size])), (a_this_now_leases, .inr (6, [.int v_now_leases_most, .ref a_this_now_leases_parts, .int v_now_leases_size])), (a_this_firstImage_leases_parts, .inl (G.2.1, 50, .inl v_firstImage_leases_parts)), (a_this_now_leases_parts, .inl (G.2.1, 50, .inl v_now_leases_parts)), (a_this_firstImage_past, .inr (2, [.ref a_this_firstImage_past_rows, .ref a_this_firstImage_past_places])), (a_this_now_past, .inr (2, [.ref a_this_now_past_rows, .ref a_this_now_past_places])), (a_this_firstImage_past_rows, .inr (6, [.int v_firstImage_past_rows_most, .ref a_this_firstImage_past_rows_parts, .int v_firstImage_past_rows_size])), (a_this_now_past_rows, .inr (6, [.int v_now_past_rows_most, .ref a_this_now_past_rows_parts, .int v_now_past_rows_size])), (a_this_firstImage_past_rows_parts, .inl (G.2.1, 50, .inl v_firstImage_past_rows_parts)), (a_this_now_past_rows_parts, .inl (G.2.1, 50, .inl v_now_past_rows_parts)), (a_this_now_past_places, .inl (G.2.1, 6, .inl v_now_past_places)), (a_this_firstImage_past_places, .inl (G.2.1, 6, .inl v_firstImage_past_places)), (a_this_kept, .inl (G.2.2.2, 2, .inl y46)), (a_this_secondImage, .inr (0, [.int w37, .int w38, .ref a_this_secondImage_purses, .ref a_this_secondImage_leases, .ref a_this_secondImage_past])), (a_this_secondImage_purses, .inl (G.2.1, 4, .inl w39)), (a_this_secondImage_leases, .inr (6, [.int v_secondImage_leases_most, .ref a_this_secondImage_leases_parts, .int w40])), (a_this_secondImage_leases_parts, .inl (G.2.1, 50, .inl w41)), (a_this_secondImage_past, .inr (2, [.ref a_this_secondImage_past_rows, .ref a_this_secondImage_past_places])), (a_this_secondImage_past_rows, .inr (6, [.int v_secondImage_past_rows_most, .ref a_this_secondImage_past_rows_parts, .int w42])), (a_this_secondImage_past_rows_parts, .inl (G.2.1, 50, .inl w43)), (a_this_secondImage_past_places, .inl (G.2.1, 6, .inl w44))] H := hP
      have hD : va_D A [(a_this, .inr (8, [.ref a_this_text, .ref a_this_reader, .ref a_this_told, .ref a_this_draft, .ref a_this_now, .ref a_this_firstImage, .ref a_this_secondImage, .ref a_this_kept, .ref a_this_offers, .ref a_this_seen, .ref a_this_rents, .long v_traced])), (a_this_firstImage, .inr (0, [.int v_firstImage_night, .int v_firstImage_lot, .ref a_this_firstImage_purses, .ref a_this_firstImage_leases, .ref a_this_firstImage_past])), (a_this_now, .inr (0, [.int v_now_night, .int v_now_lot, .ref a_this_now_purses, .ref a_this_now_leases, .ref a_this_now_past])), (a_this_now_purses, .inl (G.2.1, 4, .inl v_now_purses)), (a_this_firstImage_purses, .inl (G.2.1, 4, .inl v_firstImage_purses)), (a_this_firstImage_leases, .inr (6, [.int v_firstImage_leases_most, .ref a_this_firstImage_leases_parts, .int v_firstImage_leases_size])), (a_this_now_leases, .inr (6, [.int v_now_leases_most, .ref a_this_now_leases_parts, .int v_now_leases_size])), (a_this_firstImage_leases_parts, .inl (G.2.1, 50, .inl v_firstImage_leases_parts)), (a_this_now_leases_parts, .inl (G.2.1, 50, .inl v_now_leases_parts)), (a_this_firstImage_past, .inr (2, [.ref a_this_firstImage_past_rows, .ref a_this_firstImage_past_places])), (a_this_now_past, .inr (2, [.ref a_this_now_past_rows, .ref a_this_now_past_places])), (a_this_firstImage_past_rows, .inr (6, [.int v_firstImage_past_rows_most, .ref a_this_firstImage_past_rows_parts, .int v_firstImage_past_rows_size])), (a_this_now_past_rows, .inr (6, [.int v_now_past_rows_most, .ref a_this_now_past_rows_parts, .int v_now_past_rows_size])), (a_this_firstImage_past_rows_parts, .inl (G.2.1, 50, .inl v_firstImage_past_rows_parts)), (a_this_now_past_rows_parts, .inl (G.2.1, 50, .inl v_now_past_rows_parts)), (a_this_now_past_places, .inl (G.2.1, 6, .inl v_now_past_places)), (a_this_firstImage_past_places, .inl (G.2.1, 6, .inl v_firstImage_past_places)), (a_this_kept, .inl (G.2.2.2, 2, .inl y46)), (a_this_secondImage, .inr (0, [.int w37, .int w38, .ref a_this_secondImage_purses, .ref a_this_secondImage_leases, .ref a_this_secondImage_past])), (a_this_secondImage_purses, .inl (G.2.1, 4, .inl w39)), (a_this_secondImage_leases, .inr (6, [.int v_secondImage_leases_most, .ref a_this_secondImage_leases_parts, .int w40])), (a_this_secondImage_leases_parts, .inl (G.2.1, 50, .inl w41)), (a_this_secondImage_past, .inr (2, [.ref a_this_secondImage_past_rows, .ref a_this_secondImage_past_places])), (a_this_secondImage_past_rows, .inr (6, [.int v_secondImage_past_rows_most, .ref a_this_secondImage_past_rows_parts, .int w42])), (a_this_secondImage_past_rows_parts, .inl (G.2.1, 50, .inl w43)), (a_this_secondImage_past_places, .inl (G.2.1, 6, .inl w44))] := hD
      refine lv_aload_n hx hb dX8_keep_30 rfl (lv_at hl 0 rfl) ?_
      refine va_get (D := G.1) (ci := 8) (v := .ref a_this_now) (C := RX8) (T := TX8) (N := 12) hx hb hts inX8 hown hK hP 0 rfl rfl 4 (by decide) lk36 (fun _ h9 => h9) rfl dX8_keep_31 ?_
      refine va_get (D := G.1) (ci := 0) (v := .int v_now_night) (C := RX0) (T := TX0) (N := 5) hx hb hts inX0 hown hK hP 2 rfl rfl 0 (by decide) lk142 (fun _ h9 => h9) rfl dX8_keep_34 ?_
      obtain ⟨hr0, hr1, hr2, hr3, hr4, hr5, hr6, hr7, hr8, hr9, hr10, hr11, hr12, hr13, hr14, hr15, hr16, hr17⟩ := so18 hf
      subst hr0
      subst hr1
      subst hr2
      subst hr3
      subst hr4
      subst hr5
      subst hr6
      subst hr7
      subst hr8
      subst hr9
      subst hr10
      subst hr11
      subst hr12
      subst hr13
      subst hr14
      subst hr15
      subst hr16
      subst hr17
      rw [← hQ]
      exact W.iret (v := v_now_night) hx hb hr (fun t ht hW => ⟨⟨rfl, by rw [ht]; exact hP⟩, hS.F ht⟩) hS.2.2 dX8_keep_37
  · have hf := if_t hf hc25
    refine lv_iconst (v := (-1 : Int32)) hx hb dX8_keep_9 (by decide) ?_
    obtain ⟨hr0, hr1, hr2, hr3, hr4, hr5, hr6, hr7, hr8, hr9, hr10, hr11, hr12, hr13, hr14, hr15, hr16, hr17⟩ := so18 hf
    subst hr0
    subst hr1
    subst hr2
    subst hr3
    subst hr4
    subst hr5
    subst hr6
    subst hr7
    subst hr8
    subst hr9
    subst hr10
    subst hr11
    subst hr12
    subst hr13
    subst hr14
    subst hr15
    subst hr16
    subst hr17
    rw [← hQ]
    exact W.iret (v := (-1 : Int32)) hx hb hr (fun t ht hW => ⟨⟨rfl, by rw [ht]; exact hP⟩, hS.F ht⟩) hS.2.2 dX8_keep_10
def f_X8_back  (v_kept : (Nat → Int32)) (v_now_night : Int32) (v_now_lot : Int32) (v_firstImage_night : Int32) (v_firstImage_lot : Int32) (v_firstImage_purses : (Nat → Int32)) (v_now_purses : (Nat → Int32)) (v_now_leases_size : Int32) (v_firstImage_leases_size : Int32) (v_now_leases_parts : (Nat → Int32)) (v_firstImage_leases_parts : (Nat → Int32)) (v_now_past_rows_size : Int32) (v_firstImage_past_rows_size : Int32) (v_now_past_rows_parts : (Nat → Int32)) (v_firstImage_past_rows_parts : (Nat → Int32)) (v_firstImage_past_places : (Nat → Int32)) (v_now_past_places : (Nat → Int32)) (v_secondImage_night : Int32) (v_secondImage_lot : Int32) (v_secondImage_purses : (Nat → Int32)) (v_secondImage_leases_size : Int32) (v_secondImage_leases_parts : (Nat → Int32)) (v_secondImage_past_rows_size : Int32) (v_secondImage_past_rows_parts : (Nat → Int32)) (v_secondImage_past_places : (Nat → Int32)) (g1 : Int32) : Option (Int32 × Int32 × Int32 × (Nat → Int32) × Int32 × (Nat → Int32) × Int32 × (Nat → Int32) × (Nat → Int32)) := bd1 (f_X8_isWithin (g1) ((0 : Int32)) ((1 : Int32))) fun r22 => if r22 = (0 : Int32) then (some ((-1 : Int32), v_now_night, v_now_lot, v_now_purses, v_now_leases_size, v_now_leases_parts, v_now_past_rows_size, v_now_past_rows_parts, v_now_past_places)) else (gd (inB g1 2) (if (v_kept (g1).toNatClampNeg) = (0 : Int32) then (some ((-2 : Int32), v_now_night, v_now_lot, v_now_purses, v_now_leases_size, v_now_leases_parts, v_now_past_rows_size, v_now_past_rows_parts, v_now_past_places)) else (if g1 = (0 : Int32) then (bd8 (f_X0_become (v_now_night) (v_now_lot) (v_firstImage_night) (v_firstImage_lot) (v_firstImage_purses) (v_now_purses) (v_now_leases_size) (v_firstImage_leases_size) (v_now_leases_parts) (v_firstImage_leases_parts) (v_now_past_rows_size) (v_firstImage_past_rows_size) (v_now_past_rows_parts) (v_firstImage_past_rows_parts) (v_firstImage_past_places) (v_now_past_places)) fun w27 w28 w29 w30 w31 w32 w33 w34 => some (w27, w27, w28, w29, w30, w31, w32, w33, w34)) else (bd8 (f_X0_become (v_now_night) (v_now_lot) (v_secondImage_night) (v_secondImage_lot) (v_secondImage_purses) (v_now_purses) (v_now_leases_size) (v_secondImage_leases_size) (v_now_leases_parts) (v_secondImage_leases_parts) (v_now_past_rows_size) (v_secondImage_past_rows_size) (v_now_past_rows_parts) (v_secondImage_past_rows_parts) (v_secondImage_past_places) (v_now_past_places)) fun w35 w36 w37 w38 w39 w40 w41 w42 => some (w35, w35, w36, w37, w38, w39, w40, w41, w42)))))
abbrev rm_X8_back : Room := { frames := 4, cells := 0, slots := 0, locals := 95 }
set_option maxHeartbeats 4000000 in
set_option maxRecDepth 100000 in
theorem c_X8_back (l : Launch) (G : zG) (sz : Nat) (a_this : Nat) (a_this_kept : Nat) (a_this_now : Nat) (a_this_firstImage : Nat) (a_this_firstImage_purses : Nat) (a_this_now_purses : Nat) (a_this_now_leases : Nat) (a_this_firstImage_leases : Nat) (a_this_now_leases_parts : Nat) (a_this_firstImage_leases_parts : Nat) (a_this_now_past : Nat) (a_this_firstImage_past : Nat) (a_this_now_past_rows : Nat) (a_this_firstImage_past_rows : Nat) (a_this_now_past_rows_parts : Nat) (a_this_firstImage_past_rows_parts : Nat) (a_this_firstImage_past_places : Nat) (a_this_now_past_places : Nat) (a_this_secondImage : Nat) (a_this_secondImage_purses : Nat) (a_this_secondImage_leases : Nat) (a_this_secondImage_leases_parts : Nat) (a_this_secondImage_past : Nat) (a_this_secondImage_past_rows : Nat) (a_this_secondImage_past_rows_parts : Nat) (a_this_secondImage_past_places : Nat) (a_this_text : Nat) (a_this_reader : Nat) (a_this_told : Nat) (a_this_draft : Nat) (a_this_offers : Nat) (a_this_seen : Nat) (a_this_rents : Nat) (v_traced : Int64) (v_kept : (Nat → Int32)) (v_now_night : Int32) (v_now_lot : Int32) (v_firstImage_night : Int32) (v_firstImage_lot : Int32) (v_firstImage_purses : (Nat → Int32)) (v_now_purses : (Nat → Int32)) (v_now_leases_most : Int32) (v_now_leases_size : Int32) (v_firstImage_leases_most : Int32) (v_firstImage_leases_size : Int32) (v_now_leases_parts : (Nat → Int32)) (v_firstImage_leases_parts : (Nat → Int32)) (v_now_past_rows_most : Int32) (v_now_past_rows_size : Int32) (v_firstImage_past_rows_most : Int32) (v_firstImage_past_rows_size : Int32) (v_now_past_rows_parts : (Nat → Int32)) (v_firstImage_past_rows_parts : (Nat → Int32)) (v_firstImage_past_places : (Nat → Int32)) (v_now_past_places : (Nat → Int32)) (v_secondImage_night : Int32) (v_secondImage_lot : Int32) (v_secondImage_purses : (Nat → Int32)) (v_secondImage_leases_most : Int32) (v_secondImage_leases_size : Int32) (v_secondImage_leases_parts : (Nat → Int32)) (v_secondImage_past_rows_most : Int32) (v_secondImage_past_rows_size : Int32) (v_secondImage_past_rows_parts : (Nat → Int32)) (v_secondImage_past_places : (Nat → Int32)) (g1 : Int32) (R0 : Int32) (R1 : Int32) (R2 : Int32) (R3 : (Nat → Int32)) (R4 : Int32) (R5 : (Nat → Int32)) (R6 : Int32) (R7 : (Nat → Int32)) (R8 : (Nat → Int32)) (hf : f_X8_back v_kept v_now_night v_now_lot v_firstImage_night v_firstImage_lot v_firstImage_purses v_now_purses v_now_leases_size v_firstImage_leases_size v_now_leases_parts v_firstImage_leases_parts v_now_past_rows_size v_firstImage_past_rows_size v_now_past_rows_parts v_firstImage_past_rows_parts v_firstImage_past_places v_now_past_places v_secondImage_night v_secondImage_lot v_secondImage_purses v_secondImage_leases_size v_secondImage_leases_parts v_secondImage_past_rows_size v_secondImage_past_rows_parts v_secondImage_past_places g1 = some (R0, R1, R2, R3, R4, R5, R6, R7, R8)) : Met l yX8_back wsX8_back rm_X8_back (va_Pc [.ref a_this, .int g1] (zB G [(a_this, .inr (8, [.ref a_this_text, .ref a_this_reader, .ref a_this_told, .ref a_this_draft, .ref a_this_now, .ref a_this_firstImage, .ref a_this_secondImage, .ref a_this_kept, .ref a_this_offers, .ref a_this_seen, .ref a_this_rents, .long v_traced])), (a_this_kept, .inl (G.2.2.2, 2, .inl v_kept)), (a_this_now, .inr (0, [.int v_now_night, .int v_now_lot, .ref a_this_now_purses, .ref a_this_now_leases, .ref a_this_now_past])), (a_this_firstImage, .inr (0, [.int v_firstImage_night, .int v_firstImage_lot, .ref a_this_firstImage_purses, .ref a_this_firstImage_leases, .ref a_this_firstImage_past])), (a_this_firstImage_purses, .inl (G.2.1, 4, .inl v_firstImage_purses)), (a_this_now_purses, .inl (G.2.1, 4, .inl v_now_purses)), (a_this_now_leases, .inr (6, [.int v_now_leases_most, .ref a_this_now_leases_parts, .int v_now_leases_size])), (a_this_firstImage_leases, .inr (6, [.int v_firstImage_leases_most, .ref a_this_firstImage_leases_parts, .int v_firstImage_leases_size])), (a_this_now_leases_parts, .inl (G.2.1, 50, .inl v_now_leases_parts)), (a_this_firstImage_leases_parts, .inl (G.2.1, 50, .inl v_firstImage_leases_parts)), (a_this_now_past, .inr (2, [.ref a_this_now_past_rows, .ref a_this_now_past_places])), (a_this_firstImage_past, .inr (2, [.ref a_this_firstImage_past_rows, .ref a_this_firstImage_past_places])), (a_this_now_past_rows, .inr (6, [.int v_now_past_rows_most, .ref a_this_now_past_rows_parts, .int v_now_past_rows_size])), (a_this_firstImage_past_rows, .inr (6, [.int v_firstImage_past_rows_most, .ref a_this_firstImage_past_rows_parts, .int v_firstImage_past_rows_size])), (a_this_now_past_rows_parts, .inl (G.2.1, 50, .inl v_now_past_rows_parts)), (a_this_firstImage_past_rows_parts, .inl (G.2.1, 50, .inl v_firstImage_past_rows_parts)), (a_this_firstImage_past_places, .inl (G.2.1, 6, .inl v_firstImage_past_places)), (a_this_now_past_places, .inl (G.2.1, 6, .inl v_now_past_places)), (a_this_secondImage, .inr (0, [.int v_secondImage_night, .int v_secondImage_lot, .ref a_this_secondImage_purses, .ref a_this_secondImage_leases, .ref a_this_secondImage_past])), (a_this_secondImage_purses, .inl (G.2.1, 4, .inl v_secondImage_purses)), (a_this_secondImage_leases, .inr (6, [.int v_secondImage_leases_most, .ref a_this_secondImage_leases_parts, .int v_secondImage_leases_size])), (a_this_secondImage_leases_parts, .inl (G.2.1, 50, .inl v_secondImage_leases_parts)), (a_this_secondImage_past, .inr (2, [.ref a_this_secondImage_past_rows, .ref a_this_secondImage_past_places])), (a_this_secondImage_past_rows, .inr (6, [.int v_secondImage_past_rows_most, .ref a_this_secondImage_past_rows_parts, .int v_secondImage_past_rows_size])), (a_this_secondImage_past_rows_parts, .inl (G.2.1, 50, .inl v_secondImage_past_rows_parts)), (a_this_secondImage_past_places, .inl (G.2.1, 6, .inl v_secondImage_past_places))] sz)) (zQ G (some (.int R0)) [(a_this, .inr (8, [.ref a_this_text, .ref a_this_reader, .ref a_this_told, .ref a_this_draft, .ref a_this_now, .ref a_this_firstImage, .ref a_this_secondImage, .ref a_this_kept, .ref a_this_offers, .ref a_this_seen, .ref a_this_rents, .long v_traced])), (a_this_kept, .inl (G.2.2.2, 2, .inl v_kept)), (a_this_now, .inr (0, [.int R1, .int R2, .ref a_this_now_purses, .ref a_this_now_leases, .ref a_this_now_past])), (a_this_firstImage, .inr (0, [.int v_firstImage_night, .int v_firstImage_lot, .ref a_this_firstImage_purses, .ref a_this_firstImage_leases, .ref a_this_firstImage_past])), (a_this_firstImage_purses, .inl (G.2.1, 4, .inl v_firstImage_purses)), (a_this_now_purses, .inl (G.2.1, 4, .inl R3)), (a_this_now_leases, .inr (6, [.int v_now_leases_most, .ref a_this_now_leases_parts, .int R4])), (a_this_firstImage_leases, .inr (6, [.int v_firstImage_leases_most, .ref a_this_firstImage_leases_parts, .int v_firstImage_leases_size])), (a_this_now_leases_parts, .inl (G.2.1, 50, .inl R5)), (a_this_firstImage_leases_parts, .inl (G.2.1, 50, .inl v_firstImage_leases_parts)), (a_this_now_past, .inr (2, [.ref a_this_now_past_rows, .ref a_this_now_past_places])), (a_this_firstImage_past, .inr (2, [.ref a_this_firstImage_past_rows, .ref a_this_firstImage_past_places])), (a_this_now_past_rows, .inr (6, [.int v_now_past_rows_most, .ref a_this_now_past_rows_parts, .int R6])), (a_this_firstImage_past_rows, .inr (6, [.int v_firstImage_past_rows_most, .ref a_this_firstImage_past_rows_parts, .int v_firstImage_past_rows_size])), (a_this_now_past_rows_parts, .inl (G.2.1, 50, .inl R7)), (a_this_firstImage_past_rows_parts, .inl (G.2.1, 50, .inl v_firstImage_past_rows_parts)), (a_this_firstImage_past_places, .inl (G.2.1, 6, .inl v_firstImage_past_places)), (a_this_now_past_places, .inl (G.2.1, 6, .inl R8)), (a_this_secondImage, .inr (0, [.int v_secondImage_night, .int v_secondImage_lot, .ref a_this_secondImage_purses, .ref a_this_secondImage_leases, .ref a_this_secondImage_past])), (a_this_secondImage_purses, .inl (G.2.1, 4, .inl v_secondImage_purses)), (a_this_secondImage_leases, .inr (6, [.int v_secondImage_leases_most, .ref a_this_secondImage_leases_parts, .int v_secondImage_leases_size])), (a_this_secondImage_leases_parts, .inl (G.2.1, 50, .inl v_secondImage_leases_parts)), (a_this_secondImage_past, .inr (2, [.ref a_this_secondImage_past_rows, .ref a_this_secondImage_past_places])), (a_this_secondImage_past_rows, .inr (6, [.int v_secondImage_past_rows_most, .ref a_this_secondImage_past_rows_parts, .int v_secondImage_past_rows_size])), (a_this_secondImage_past_rows_parts, .inl (G.2.1, 50, .inl v_secondImage_past_rows_parts)), (a_this_secondImage_past_places, .inl (G.2.1, 6, .inl v_secondImage_past_places))] (va_A [(a_this, .inr (8, [.ref a_this_text, .ref a_this_reader, .ref a_this_told, .ref a_this_draft, .ref a_this_now, .ref a_this_firstImage, .ref a_this_secondImage, .ref a_this_kept, .ref a_this_offers, .ref a_this_seen, .ref a_this_rents, .long v_traced])), (a_this_kept, .inl (G.2.2.2, 2, .inl v_kept)), (a_this_now, .inr (0, [.int v_now_night, .int v_now_lot, .ref a_this_now_purses, .ref a_this_now_leases, .ref a_this_now_past])), (a_this_firstImage, .inr (0, [.int v_firstImage_night, .int v_firstImage_lot, .ref a_this_firstImage_purses, .ref a_this_firstImage_leases, .ref a_this_firstImage_past])), (a_this_firstImage_purses, .inl (G.2.1, 4, .inl v_firstImage_purses)), (a_this_now_purses, .inl (G.2.1, 4, .inl v_now_purses)), (a_this_now_leases, .inr (6, [.int v_now_leases_most, .ref a_this_now_leases_parts, .int v_now_leases_size])), (a_this_firstImage_leases, .inr (6, [.int v_firstImage_leases_most, .ref a_this_firstImage_leases_parts, .int v_firstImage_leases_size])), (a_this_now_leases_parts, .inl (G.2.1, 50, .inl v_now_leases_parts)), (a_this_firstImage_leases_parts, .inl (G.2.1, 50, .inl v_firstImage_leases_parts)), (a_this_now_past, .inr (2, [.ref a_this_now_past_rows, .ref a_this_now_past_places])), (a_this_firstImage_past, .inr (2, [.ref a_this_firstImage_past_rows, .ref a_this_firstImage_past_places])), (a_this_now_past_rows, .inr (6, [.int v_now_past_rows_most, .ref a_this_now_past_rows_parts, .int v_now_past_rows_size])), (a_this_firstImage_past_rows, .inr (6, [.int v_firstImage_past_rows_most, .ref a_this_firstImage_past_rows_parts, .int v_firstImage_past_rows_size])), (a_this_now_past_rows_parts, .inl (G.2.1, 50, .inl v_now_past_rows_parts)), (a_this_firstImage_past_rows_parts, .inl (G.2.1, 50, .inl v_firstImage_past_rows_parts)), (a_this_firstImage_past_places, .inl (G.2.1, 6, .inl v_firstImage_past_places)), (a_this_now_past_places, .inl (G.2.1, 6, .inl v_now_past_places)), (a_this_secondImage, .inr (0, [.int v_secondImage_night, .int v_secondImage_lot, .ref a_this_secondImage_purses, .ref a_this_secondImage_leases, .ref a_this_secondImage_past])), (a_this_secondImage_purses, .inl (G.2.1, 4, .inl v_secondImage_purses)), (a_this_secondImage_leases, .inr (6, [.int v_secondImage_leases_most, .ref a_this_secondImage_leases_parts, .int v_secondImage_leases_size])), (a_this_secondImage_leases_parts, .inl (G.2.1, 50, .inl v_secondImage_leases_parts)), (a_this_secondImage_past, .inr (2, [.ref a_this_secondImage_past_rows, .ref a_this_secondImage_past_places])), (a_this_secondImage_past_rows, .inr (6, [.int v_secondImage_past_rows_most, .ref a_this_secondImage_past_rows_parts, .int v_secondImage_past_rows_size])), (a_this_secondImage_past_rows_parts, .inl (G.2.1, 50, .inl v_secondImage_past_rows_parts)), (a_this_secondImage_past_places, .inl (G.2.1, 6, .inl v_secondImage_past_places))] sz)) 0 0 (va_A [(a_this, .inr (8, [.ref a_this_text, .ref a_this_reader, .ref a_this_told, .ref a_this_draft, .ref a_this_now, .ref a_this_firstImage, .ref a_this_secondImage, .ref a_this_kept, .ref a_this_offers, .ref a_this_seen, .ref a_this_rents, .long v_traced])), (a_this_kept, .inl (G.2.2.2, 2, .inl v_kept)), (a_this_now, .inr (0, [.int v_now_night, .int v_now_lot, .ref a_this_now_purses, .ref a_this_now_leases, .ref a_this_now_past])), (a_this_firstImage, .inr (0, [.int v_firstImage_night, .int v_firstImage_lot, .ref a_this_firstImage_purses, .ref a_this_firstImage_leases, .ref a_this_firstImage_past])), (a_this_firstImage_purses, .inl (G.2.1, 4, .inl v_firstImage_purses)), (a_this_now_purses, .inl (G.2.1, 4, .inl v_now_purses)), (a_this_now_leases, .inr (6, [.int v_now_leases_most, .ref a_this_now_leases_parts, .int v_now_leases_size])), (a_this_firstImage_leases, .inr (6, [.int v_firstImage_leases_most, .ref a_this_firstImage_leases_parts, .int v_firstImage_leases_size])), (a_this_now_leases_parts, .inl (G.2.1, 50, .inl v_now_leases_parts)), (a_this_firstImage_leases_parts, .inl (G.2.1, 50, .inl v_firstImage_leases_parts)), (a_this_now_past, .inr (2, [.ref a_this_now_past_rows, .ref a_this_now_past_places])), (a_this_firstImage_past, .inr (2, [.ref a_this_firstImage_past_rows, .ref a_this_firstImage_past_places])), (a_this_now_past_rows, .inr (6, [.int v_now_past_rows_most, .ref a_this_now_past_rows_parts, .int v_now_past_rows_size])), (a_this_firstImage_past_rows, .inr (6, [.int v_firstImage_past_rows_most, .ref a_this_firstImage_past_rows_parts, .int v_firstImage_past_rows_size])), (a_this_now_past_rows_parts, .inl (G.2.1, 50, .inl v_now_past_rows_parts)), (a_this_firstImage_past_rows_parts, .inl (G.2.1, 50, .inl v_firstImage_past_rows_parts)), (a_this_firstImage_past_places, .inl (G.2.1, 6, .inl v_firstImage_past_places)), (a_this_now_past_places, .inl (G.2.1, 6, .inl v_now_past_places)), (a_this_secondImage, .inr (0, [.int v_secondImage_night, .int v_secondImage_lot, .ref a_this_secondImage_purses, .ref a_this_secondImage_leases, .ref a_this_secondImage_past])), (a_this_secondImage_purses, .inl (G.2.1, 4, .inl v_secondImage_purses)), (a_this_secondImage_leases, .inr (6, [.int v_secondImage_leases_most, .ref a_this_secondImage_leases_parts, .int v_secondImage_leases_size])), (a_this_secondImage_leases_parts, .inl (G.2.1, 50, .inl v_secondImage_leases_parts)), (a_this_secondImage_past, .inr (2, [.ref a_this_secondImage_past_rows, .ref a_this_secondImage_past_places])), (a_this_secondImage_past_rows, .inr (6, [.int v_secondImage_past_rows_most, .ref a_this_secondImage_past_rows_parts, .int v_secondImage_past_rows_size])), (a_this_secondImage_past_rows_parts, .inl (G.2.1, 50, .inl v_secondImage_past_rows_parts)), (a_this_secondImage_past_places, .inl (G.2.1, 6, .inl v_secondImage_past_places))] sz) := by
  refine Met.ofW (cc := cX8_back) (maxL := 2) (ret := (some .int)) (by decide) rfl ?_
  intro p e s m args below meth c s₁ B hml hv
  obtain ⟨hargs, hsz, hP, hD0, hE⟩ := hv
  have hx := B.exec
  have hb := B.bytes
  have hr := B.returns
  have hts := atoms_spec (ws := wsX8_back) B.pre
  have hown : s.vm.findClass RX8 = some m.cls := findClass_of_methodNamed B.named
  have hlocks := B.notSynchronized
  have hK := hE.1
  have hC : CallFix p m c cX8_back 2 s args wsX8_back RX8 := ⟨hx, hb, hml, hown, hts⟩
  have inX0 : ∀ w ∈ wsX00, w ∈ wsX8_back := by decide +kernel
  have inX8 : ∀ w ∈ wsX80, w ∈ wsX8_back := by decide +kernel
  have lk36 := hts (.fieldLink RX8 36 "SkyLeases" "now" "LSkyLeases$Now;") (by decide +kernel)
  have lk46 := hts (.fieldLink RX8 46 "SkyLeases" "kept" "[Z") (by decide +kernel)
  have lk142 := hts (.fieldLink RX8 142 "SkyLeases$Now" "night" "I") (by decide +kernel)
  subst hsz
  have hD := hD0.self (sz := s.heap.size)
  generalize hAe : va_A [(a_this, .inr (8, [.ref a_this_text, .ref a_this_reader, .ref a_this_told, .ref a_this_draft, .ref a_this_now, .ref a_this_firstImage, .ref a_this_secondImage, .ref a_this_kept, .ref a_this_offers, .ref a_this_seen, .ref a_this_rents, .long v_traced])), (a_this_kept, .inl (G.2.2.2, 2, .inl v_kept)), (a_this_now, .inr (0, [.int v_now_night, .int v_now_lot, .ref a_this_now_purses, .ref a_this_now_leases, .ref a_this_now_past])), (a_this_firstImage, .inr (0, [.int v_firstImage_night, .int v_firstImage_lot, .ref a_this_firstImage_purses, .ref a_this_firstImage_leases, .ref a_this_firstImage_past])), (a_this_firstImage_purses, .inl (G.2.1, 4, .inl v_firstImage_purses)), (a_this_now_purses, .inl (G.2.1, 4, .inl v_now_purses)), (a_this_now_leases, .inr (6, [.int v_now_leases_most, .ref a_this_now_leases_parts, .int v_now_leases_size])), (a_this_firstImage_leases, .inr (6, [.int v_firstImage_leases_most, .ref a_this_firstImage_leases_parts, .int v_firstImage_leases_size])), (a_this_now_leases_parts, .inl (G.2.1, 50, .inl v_now_leases_parts)), (a_this_firstImage_leases_parts, .inl (G.2.1, 50, .inl v_firstImage_leases_parts)), (a_this_now_past, .inr (2, [.ref a_this_now_past_rows, .ref a_this_now_past_places])), (a_this_firstImage_past, .inr (2, [.ref a_this_firstImage_past_rows, .ref a_this_firstImage_past_places])), (a_this_now_past_rows, .inr (6, [.int v_now_past_rows_most, .ref a_this_now_past_rows_parts, .int v_now_past_rows_size])), (a_this_firstImage_past_rows, .inr (6, [.int v_firstImage_past_rows_most, .ref a_this_firstImage_past_rows_parts, .int v_firstImage_past_rows_size])), (a_this_now_past_rows_parts, .inl (G.2.1, 50, .inl v_now_past_rows_parts)), (a_this_firstImage_past_rows_parts, .inl (G.2.1, 50, .inl v_firstImage_past_rows_parts)), (a_this_firstImage_past_places, .inl (G.2.1, 6, .inl v_firstImage_past_places)), (a_this_now_past_places, .inl (G.2.1, 6, .inl v_now_past_places)), (a_this_secondImage, .inr (0, [.int v_secondImage_night, .int v_secondImage_lot, .ref a_this_secondImage_purses, .ref a_this_secondImage_leases, .ref a_this_secondImage_past])), (a_this_secondImage_purses, .inl (G.2.1, 4, .inl v_secondImage_purses)), (a_this_secondImage_leases, .inr (6, [.int v_secondImage_leases_most, .ref a_this_secondImage_leases_parts, .int v_secondImage_leases_size])), (a_this_secondImage_leases_parts, .inl (G.2.1, 50, .inl v_secondImage_leases_parts)), (a_this_secondImage_past, .inr (2, [.ref a_this_secondImage_past_rows, .ref a_this_secondImage_past_places])), (a_this_secondImage_past_rows, .inr (6, [.int v_secondImage_past_rows_most, .ref a_this_secondImage_past_rows_parts, .int v_secondImage_past_rows_size])), (a_this_secondImage_past_rows_parts, .inl (G.2.1, 50, .inl v_secondImage_past_rows_parts)), (a_this_secondImage_past_places, .inl (G.2.1, 6, .inl v_secondImage_past_places))] s.heap.size = A at hD ⊢
  have hA : ∀ q : Nat, s.heap.size ≤ q → A q := fun q h => by rw [← hAe]; exact Or.inr h
  have hS : va_S A s.heap s.heap [] := va_S.rf
  have hP : va_P G.1 vwCl [(a_this, .inr (8, [.ref a_this_text, .ref a_this_reader, .ref a_this_told, .ref a_this_draft, .ref a_this_now, .ref a_this_firstImage, .ref a_this_secondImage, .ref a_this_kept, .ref a_this_offers, .ref a_this_seen, .ref a_this_rents, .long v_traced])), (a_this_kept, .inl (G.2.2.2, 2, .inl v_kept)), (a_this_now, .inr (0, [.int v_now_night, .int v_now_lot, .ref a_this_now_purses, .ref a_this_now_leases, .ref a_this_now_past])), (a_this_firstImage, .inr (0, [.int v_firstImage_night, .int v_firstImage_lot, .ref a_this_firstImage_purses, .ref a_this_firstImage_leases, .ref a_this_firstImage_past])), (a_this_firstImage_purses, .inl (G.2.1, 4, .inl v_firstImage_purses)), (a_this_now_purses, .inl (G.2.1, 4, .inl v_now_purses)), (a_this_now_leases, .inr (6, [.int v_now_leases_most, .ref a_this_now_leases_parts, .int v_now_leases_size])), (a_this_firstImage_leases, .inr (6, [.int v_firstImage_leases_most, .ref a_this_firstImage_leases_parts, .int v_firstImage_leases_size])), (a_this_now_leases_parts, .inl (G.2.1, 50, .inl v_now_leases_parts)), (a_this_firstImage_leases_parts, .inl (G.2.1, 50, .inl v_firstImage_leases_parts)), (a_this_now_past, .inr (2, [.ref a_this_now_past_rows, .ref a_this_now_past_places])), (a_this_firstImage_past, .inr (2, [.ref a_this_firstImage_past_rows, .ref a_this_firstImage_past_places])), (a_this_now_past_rows, .inr (6, [.int v_now_past_rows_most, .ref a_this_now_past_rows_parts, .int v_now_past_rows_size])), (a_this_firstImage_past_rows, .inr (6, [.int v_firstImage_past_rows_most, .ref a_this_firstImage_past_rows_parts, .int v_firstImage_past_rows_size])), (a_this_now_past_rows_parts, .inl (G.2.1, 50, .inl v_now_past_rows_parts)), (a_this_firstImage_past_rows_parts, .inl (G.2.1, 50, .inl v_firstImage_past_rows_parts)), (a_this_firstImage_past_places, .inl (G.2.1, 6, .inl v_firstImage_past_places)), (a_this_now_past_places, .inl (G.2.1, 6, .inl v_now_past_places)), (a_this_secondImage, .inr (0, [.int v_secondImage_night, .int v_secondImage_lot, .ref a_this_secondImage_purses, .ref a_this_secondImage_leases, .ref a_this_secondImage_past])), (a_this_secondImage_purses, .inl (G.2.1, 4, .inl v_secondImage_purses)), (a_this_secondImage_leases, .inr (6, [.int v_secondImage_leases_most, .ref a_this_secondImage_leases_parts, .int v_secondImage_leases_size])), (a_this_secondImage_leases_parts, .inl (G.2.1, 50, .inl v_secondImage_leases_parts)), (a_this_secondImage_past, .inr (2, [.ref a_this_secondImage_past_rows, .ref a_this_secondImage_past_places])), (a_this_secondImage_past_rows, .inr (6, [.int v_secondImage_past_rows_most, .ref a_this_secondImage_past_rows_parts, .int v_secondImage_past_rows_size])), (a_this_secondImage_past_rows_parts, .inl (G.2.1, 50, .inl v_secondImage_past_rows_parts)), (a_this_secondImage_past_places, .inl (G.2.1, 6, .inl v_secondImage_past_places))] s.heap := hP
  have hl := lv_entry ([.ref a_this, .int g1]) (n := 2) (Nat.le_of_ble_eq_true rfl)
  have hent : entryFrame m args 2 = F0 m 0 ((lg_sl ([.ref a_this, .int g1]) ++ List.replicate (2 - (lg_sl ([.ref a_this, .int g1])).length) Slot.unset).toArray) [] := by rw [hargs]; exact lg_entry_eq m [.ref a_this, .int g1] 2
  refine W.eq hent ?_
  clear hent
  generalize (lg_sl ([.ref a_this, .int g1]) ++ List.replicate (2 - (lg_sl ([.ref a_this, .int g1])).length) Slot.unset).toArray = ls at hl ⊢
  have hl : lv_has ls 2 [(0, .ref a_this), (1, .int g1)] := hl
  generalize hQ : MQ below _ args s 0 0 _ = QQ
  change W p l e rm_X8_back s m args below meth c s.heap [] 0 0 QQ _
  have hSH := hS
  unfold f_X8_back at hf
  refine lv_iload_n hx hb dX8_back_0 rfl (lv_at hl 1 rfl) ?_
  refine lv_iconst (v := (0 : Int32)) hx hb dX8_back_1 (by decide) ?_
  refine lv_iconst (v := (1 : Int32)) hx hb dX8_back_2 (by decide) ?_
  obtain ⟨r22, hu, hf⟩ := bd1_some hf
  refine zRi (va_runS (As := [.int g1, .int (0 : Int32), .int (1 : Int32)]) (rest := []) hC (c_X8_isWithin l G (g1) ((0 : Int32)) ((1 : Int32)) r22 hu) (va_cwS 3 hts gX8_back_X8_isWithin rfl rfl rfl hd_X8_isWithin.2 ⟨(Nat.le_of_ble_eq_true rfl), (Nat.le_of_ble_eq_true rfl)⟩) (zPS hE hP [] rfl) rfl rfl hl.1 rfl (lv_room (Nat.le_of_ble_eq_true rfl)) dX8_back_3 ⟨Nat.zero_le _, Nat.zero_le _⟩) ?_
  refine lv_if_ne (tgt := 11) hx hb dX8_back_6 (by decide) (fun hc23 => ?_) (fun hc23 => ?_)
  · have hf := if_f hf hc23
    refine lv_aload_n hx hb dX8_back_11 rfl (lv_at hl 0 rfl) ?_
    refine va_get (D := G.1) (ci := 8) (v := .ref a_this_kept) (C := RX8) (T := TX8) (N := 12) hx hb hts inX8 hown hK hP 0 rfl rfl 7 (by decide) lk46 (fun _ h9 => h9) rfl dX8_back_12 ?_
    refine lv_iload_n hx hb dX8_back_15 rfl (lv_at hl 1 rfl) ?_
    obtain ⟨hg24, hf⟩ := gd_some hf
    refine va_zald hx hb hK hP 1 2 rfl rfl (inB_in hg24) dX8_back_16 ?_
    refine lv_if_ne (tgt := 23) hx hb dX8_back_17 (by decide) (fun hc25 => ?_) (fun hc25 => ?_)
    · have hf := if_f hf hc25
      refine lv_aload_n hx hb dX8_back_23 rfl (lv_at hl 0 rfl) ?_
      refine va_get (D := G.1) (ci := 8) (v := .ref a_this_now) (C := RX8) (T := TX8) (N := 12) hx hb hts inX8 hown hK hP 0 rfl rfl 4 (by decide) lk36 (fun _ h9 => h9) rfl dX8_back_24 ?_
      refine lv_aload_n hx hb dX8_back_27 rfl (lv_at hl 0 rfl) ?_
      refine lv_iload_n hx hb dX8_back_28 rfl (lv_at hl 1 rfl) ?_
      by_cases hc26 : g1 = (0 : Int32)
      · have hf := if_t hf hc26
        refine zRr (va_runV (As := [.int g1]) (rest := [.ref a_this_now]) hC (c_X8_imageOf l G a_this a_this_text a_this_reader a_this_told a_this_draft a_this_now a_this_firstImage a_this_secondImage a_this_kept a_this_offers a_this_seen a_this_rents (v_traced) (g1) a_this_firstImage (by unfold f_X8_imageOf; rw [if_pos hc26])) (cwV 1 hts gX8_back_X8_imageOf rfl rfl rfl hd_X8_imageOf ⟨(Nat.le_of_ble_eq_true rfl), (Nat.le_of_ble_eq_true rfl)⟩) (zPV hE hP [0] rfl 0 rfl rfl) rfl rfl hl.1 rfl (lv_room (Nat.le_of_ble_eq_true rfl)) dX8_back_29 ⟨Nat.zero_le _, Nat.zero_le _⟩) ?_
        obtain ⟨w27, w28, w29, w30, w31, w32, w33, w34, hu, hf⟩ := bd8_some hf
        refine zWn (wr := [(a_this, .inr (8, [.ref a_this_text, .ref a_this_reader, .ref a_this_told, .ref a_this_draft, .ref a_this_now, .ref a_this_firstImage, .ref a_this_secondImage, .ref a_this_kept, .ref a_this_offers, .ref a_this_seen, .ref a_this_rents, .long v_traced])), (a_this_kept, .inl (G.2.2.2, 2, .inl v_kept)), (a_this_secondImage, .inr (0, [.int v_secondImage_night, .int v_secondImage_lot, .ref a_this_secondImage_purses, .ref a_this_secondImage_leases, .ref a_this_secondImage_past])), (a_this_secondImage_purses, .inl (G.2.1, 4, .inl v_secondImage_purses)), (a_this_secondImage_leases, .inr (6, [.int v_secondImage_leases_most, .ref a_this_secondImage_leases_parts, .int v_secondImage_leases_size])), (a_this_secondImage_leases_parts, .inl (G.2.1, 50, .inl v_secondImage_leases_parts)), (a_this_secondImage_past, .inr (2, [.ref a_this_secondImage_past_rows, .ref a_this_secondImage_past_places])), (a_this_secondImage_past_rows, .inr (6, [.int v_secondImage_past_rows_most, .ref a_this_secondImage_past_rows_parts, .int v_secondImage_past_rows_size])), (a_this_secondImage_past_rows_parts, .inl (G.2.1, 50, .inl v_secondImage_past_rows_parts)), (a_this_secondImage_past_places, .inl (G.2.1, 6, .inl v_secondImage_past_places))]) (ws2 := [(a_this, .inr (8, [.ref a_this_text, .ref a_this_reader, .ref a_this_told, .ref a_this_draft, .ref a_this_now, .ref a_this_firstImage, .ref a_this_secondImage, .ref a_this_kept, .ref a_this_offers, .ref a_this_seen, .ref a_this_rents, .long v_traced])), (a_this_kept, .inl (G.2.2.2, 2, .inl v_kept)), (a_this_now, .inr (0, [.int w27, .int w28, .ref a_this_now_purses, .ref a_this_now_leases, .ref a_this_now_past])), (a_this_firstImage, .inr (0, [.int v_firstImage_night, .int v_firstImage_lot, .ref a_this_firstImage_purses, .ref a_this_firstImage_leases, .ref a_this_firstImage_past])), (a_this_firstImage_purses, .inl (G.2.1, 4, .inl v_firstImage_purses)), (a_this_now_purses, .inl (G.2.1, 4, .inl w29)), (a_this_now_leases, .inr (6, [.int v_now_leases_most, .ref a_this_now_leases_parts, .int w30])), (a_this_firstImage_leases, .inr (6, [.int v_firstImage_leases_most, .ref a_this_firstImage_leases_parts, .int v_firstImage_leases_size])), (a_this_now_leases_parts, .inl (G.2.1, 50, .inl w31)), (a_this_firstImage_leases_parts, .inl (G.2.1, 50, .inl v_firstImage_leases_parts)), (a_this_now_past, .inr (2, [.ref a_this_now_past_rows, .ref a_this_now_past_places])), (a_this_firstImage_past, .inr (2, [.ref a_this_firstImage_past_rows, .ref a_this_firstImage_past_places])), (a_this_now_past_rows, .inr (6, [.int v_now_past_rows_most, .ref a_this_now_past_rows_parts, .int w32])), (a_this_firstImage_past_rows, .inr (6, [.int v_firstImage_past_rows_most, .ref a_this_firstImage_past_rows_parts, .int v_firstImage_past_rows_size])), (a_this_now_past_rows_parts, .inl (G.2.1, 50, .inl w33)), (a_this_firstImage_past_rows_parts, .inl (G.2.1, 50, .inl v_firstImage_past_rows_parts)), (a_this_firstImage_past_places, .inl (G.2.1, 6, .inl v_firstImage_past_places)), (a_this_now_past_places, .inl (G.2.1, 6, .inl w34)), (a_this_secondImage, .inr (0, [.int v_secondImage_night, .int v_secondImage_lot, .ref a_this_secondImage_purses, .ref a_this_secondImage_leases, .ref a_this_secondImage_past])), (a_this_secondImage_purses, .inl (G.2.1, 4, .inl v_secondImage_purses)), (a_this_secondImage_leases, .inr (6, [.int v_secondImage_leases_most, .ref a_this_secondImage_leases_parts, .int v_secondImage_leases_size])), (a_this_secondImage_leases_parts, .inl (G.2.1, 50, .inl v_secondImage_leases_parts)), (a_this_secondImage_past, .inr (2, [.ref a_this_secondImage_past_rows, .ref a_this_secondImage_past_places])), (a_this_secondImage_past_rows, .inr (6, [.int v_secondImage_past_rows_most, .ref a_this_secondImage_past_rows_parts, .int v_secondImage_past_rows_size])), (a_this_secondImage_past_rows_parts, .inl (G.2.1, 50, .inl v_secondImage_past_rows_parts)), (a_this_secondImage_past_places, .inl (G.2.1, 6, .inl v_secondImage_past_places))]) (va_runV (As := [.ref a_this_firstImage]) (rest := []) hC (c_X0_become l G _ a_this_now a_this_firstImage a_this_firstImage_purses a_this_now_purses a_this_now_leases a_this_firstImage_leases a_this_now_leases_parts a_this_firstImage_leases_parts a_this_now_past a_this_firstImage_past a_this_now_past_rows a_this_firstImage_past_rows a_this_now_past_rows_parts a_this_firstImage_past_rows_parts a_this_firstImage_past_places a_this_now_past_places (v_now_night) (v_now_lot) (v_firstImage_night) (v_firstImage_lot) (v_firstImage_purses) (v_now_purses) (v_now_leases_most) (v_now_leases_size) (v_firstImage_leases_most) (v_firstImage_leases_size) (v_now_leases_parts) (v_firstImage_leases_parts) (v_now_past_rows_most) (v_now_past_rows_size) (v_firstImage_past_rows_most) (v_firstImage_past_rows_size) (v_now_past_rows_parts) (v_firstImage_past_rows_parts) (v_firstImage_past_places) (v_now_past_places) w27 w28 w29 w30 w31 w32 w33 w34 hu) (cwV 1 hts gX8_back_X0_become rfl rfl rfl hd_X0_become ⟨(Nat.le_of_ble_eq_true rfl), (Nat.le_of_ble_eq_true rfl)⟩) (zPVw hE hP hD [2, 3, 4, 5, 6, 7, 8, 9, 10, 11, 12, 13, 14, 15, 16, 17] rfl rfl 2 rfl rfl) rfl rfl hl.1 rfl (lv_room (Nat.le_of_ble_eq_true rfl)) dX8_back_32 ⟨Nat.zero_le _, Nat.zero_le _⟩) hP hD hS hA [2, 3, 4, 5, 6, 7, 8, 9, 10, 11, 12, 13, 14, 15, 16, 17] [0, 1, 18, 19, 20, 21, 22, 23, 24, 25] [0, 1, 10, 11, 12, 13, 14, 15, 16, 17, 18, 19, 20, 21, 22, 23, 24, 25, 2, 3, 4, 5, 6, 7, 8, 9] rfl rfl rfl rfl (by decide) rfl rfl rfl (fun H locs hP hD hS => ?_)
        refine lv_aload_n hx hb dX8_back_35 rfl (lv_at hl 0 rfl) ?_
        refine va_get (D := G.1) (ci := 8) (v := .ref a_this_now) (C := RX8) (T := TX8) (N := 12) hx hb hts inX8 hown hK hP 0 rfl rfl 4 (by decide) lk36 (fun _ h9 => h9) rfl dX8_back_36 ?_
        refine va_get (D := G.1) (ci := 0) (v := .int w27) (C := RX0) (T := TX0) (N := 5) hx hb hts inX0 hown hK hP 2 rfl rfl 0 (by decide) lk142 (fun _ h9 => h9) rfl dX8_back_39 ?_
        obtain ⟨hr0, hr1, hr2, hr3, hr4, hr5, hr6, hr7, hr8⟩ := so9 hf
        subst hr0
        subst hr1
        subst hr2
        subst hr3
        subst hr4
        subst hr5
        subst hr6
        subst hr7
        subst hr8
        rw [← hQ]
        exact W.iret (v := w27) hx hb hr (fun t ht hW => ⟨⟨rfl, by rw [ht]; exact hP⟩, hS.F ht⟩) hS.2.2 dX8_back_42
      · have hf := if_f hf hc26
        refine zRr (va_runV (As := [.int g1]) (rest := [.ref a_this_now]) hC (c_X8_imageOf l G a_this a_this_text a_this_reader a_this_told a_this_draft a_this_now a_this_firstImage a_this_secondImage a_this_kept a_this_offers a_this_seen a_this_rents (v_traced) (g1) a_this_secondImage (by unfold f_X8_imageOf; rw [if_neg hc26])) (cwV 1 hts gX8_back_X8_imageOf rfl rfl rfl hd_X8_imageOf ⟨(Nat.le_of_ble_eq_true rfl), (Nat.le_of_ble_eq_true rfl)⟩) (zPV hE hP [0] rfl 0 rfl rfl) rfl rfl hl.1 rfl (lv_room (Nat.le_of_ble_eq_true rfl)) dX8_back_29 ⟨Nat.zero_le _, Nat.zero_le _⟩) ?_
        obtain ⟨w35, w36, w37, w38, w39, w40, w41, w42, hu, hf⟩ := bd8_some hf
        refine zWn (wr := [(a_this, .inr (8, [.ref a_this_text, .ref a_this_reader, .ref a_this_told, .ref a_this_draft, .ref a_this_now, .ref a_this_firstImage, .ref a_this_secondImage, .ref a_this_kept, .ref a_this_offers, .ref a_this_seen, .ref a_this_rents, .long v_traced])), (a_this_kept, .inl (G.2.2.2, 2, .inl v_kept)), (a_this_firstImage, .inr (0, [.int v_firstImage_night, .int v_firstImage_lot, .ref a_this_firstImage_purses, .ref a_this_firstImage_leases, .ref a_this_firstImage_past])), (a_this_firstImage_purses, .inl (G.2.1, 4, .inl v_firstImage_purses)), (a_this_firstImage_leases, .inr (6, [.int v_firstImage_leases_most, .ref a_this_firstImage_leases_parts, .int v_firstImage_leases_size])), (a_this_firstImage_leases_parts, .inl (G.2.1, 50, .inl v_firstImage_leases_parts)), (a_this_firstImage_past, .inr (2, [.ref a_this_firstImage_past_rows, .ref a_this_firstImage_past_places])), (a_this_firstImage_past_rows, .inr (6, [.int v_firstImage_past_rows_most, .ref a_this_firstImage_past_rows_parts, .int v_firstImage_past_rows_size])), (a_this_firstImage_past_rows_parts, .inl (G.2.1, 50, .inl v_firstImage_past_rows_parts)), (a_this_firstImage_past_places, .inl (G.2.1, 6, .inl v_firstImage_past_places))]) (ws2 := [(a_this, .inr (8, [.ref a_this_text, .ref a_this_reader, .ref a_this_told, .ref a_this_draft, .ref a_this_now, .ref a_this_firstImage, .ref a_this_secondImage, .ref a_this_kept, .ref a_this_offers, .ref a_this_seen, .ref a_this_rents, .long v_traced])), (a_this_kept, .inl (G.2.2.2, 2, .inl v_kept)), (a_this_now, .inr (0, [.int w35, .int w36, .ref a_this_now_purses, .ref a_this_now_leases, .ref a_this_now_past])), (a_this_firstImage, .inr (0, [.int v_firstImage_night, .int v_firstImage_lot, .ref a_this_firstImage_purses, .ref a_this_firstImage_leases, .ref a_this_firstImage_past])), (a_this_firstImage_purses, .inl (G.2.1, 4, .inl v_firstImage_purses)), (a_this_now_purses, .inl (G.2.1, 4, .inl w37)), (a_this_now_leases, .inr (6, [.int v_now_leases_most, .ref a_this_now_leases_parts, .int w38])), (a_this_firstImage_leases, .inr (6, [.int v_firstImage_leases_most, .ref a_this_firstImage_leases_parts, .int v_firstImage_leases_size])), (a_this_now_leases_parts, .inl (G.2.1, 50, .inl w39)), (a_this_firstImage_leases_parts, .inl (G.2.1, 50, .inl v_firstImage_leases_parts)), (a_this_now_past, .inr (2, [.ref a_this_now_past_rows, .ref a_this_now_past_places])), (a_this_firstImage_past, .inr (2, [.ref a_this_firstImage_past_rows, .ref a_this_firstImage_past_places])), (a_this_now_past_rows, .inr (6, [.int v_now_past_rows_most, .ref a_this_now_past_rows_parts, .int w40])), (a_this_firstImage_past_rows, .inr (6, [.int v_firstImage_past_rows_most, .ref a_this_firstImage_past_rows_parts, .int v_firstImage_past_rows_size])), (a_this_now_past_rows_parts, .inl (G.2.1, 50, .inl w41)), (a_this_firstImage_past_rows_parts, .inl (G.2.1, 50, .inl v_firstImage_past_rows_parts)), (a_this_firstImage_past_places, .inl (G.2.1, 6, .inl v_firstImage_past_places)), (a_this_now_past_places, .inl (G.2.1, 6, .inl w42)), (a_this_secondImage, .inr (0, [.int v_secondImage_night, .int v_secondImage_lot, .ref a_this_secondImage_purses, .ref a_this_secondImage_leases, .ref a_this_secondImage_past])), (a_this_secondImage_purses, .inl (G.2.1, 4, .inl v_secondImage_purses)), (a_this_secondImage_leases, .inr (6, [.int v_secondImage_leases_most, .ref a_this_secondImage_leases_parts, .int v_secondImage_leases_size])), (a_this_secondImage_leases_parts, .inl (G.2.1, 50, .inl v_secondImage_leases_parts)), (a_this_secondImage_past, .inr (2, [.ref a_this_secondImage_past_rows, .ref a_this_secondImage_past_places])), (a_this_secondImage_past_rows, .inr (6, [.int v_secondImage_past_rows_most, .ref a_this_secondImage_past_rows_parts, .int v_secondImage_past_rows_size])), (a_this_secondImage_past_rows_parts, .inl (G.2.1, 50, .inl v_secondImage_past_rows_parts)), (a_this_secondImage_past_places, .inl (G.2.1, 6, .inl v_secondImage_past_places))]) (va_runV (As := [.ref a_this_secondImage]) (rest := []) hC (c_X0_become l G _ a_this_now a_this_secondImage a_this_secondImage_purses a_this_now_purses a_this_now_leases a_this_secondImage_leases a_this_now_leases_parts a_this_secondImage_leases_parts a_this_now_past a_this_secondImage_past a_this_now_past_rows a_this_secondImage_past_rows a_this_now_past_rows_parts a_this_secondImage_past_rows_parts a_this_secondImage_past_places a_this_now_past_places (v_now_night) (v_now_lot) (v_secondImage_night) (v_secondImage_lot) (v_secondImage_purses) (v_now_purses) (v_now_leases_most) (v_now_leases_size) (v_secondImage_leases_most) (v_secondImage_leases_size) (v_now_leases_parts) (v_secondImage_leases_parts) (v_now_past_rows_most) (v_now_past_rows_size) (v_secondImage_past_rows_most) (v_secondImage_past_rows_size) (v_now_past_rows_parts) (v_secondImage_past_rows_parts) (v_secondImage_past_places) (v_now_past_places) w35 w36 w37 w38 w39 w40 w41 w42 hu) (cwV 1 hts gX8_back_X0_become rfl rfl rfl hd_X0_become ⟨(Nat.le_of_ble_eq_true rfl), (Nat.le_of_ble_eq_true rfl)⟩) (zPVw hE hP hD [2, 18, 19, 5, 6, 20, 8, 21, 10, 22, 12, 23, 14, 24, 25, 17] rfl rfl 2 rfl rfl) rfl rfl hl.1 rfl (lv_room (Nat.le_of_ble_eq_true rfl)) dX8_back_32 ⟨Nat.zero_le _, Nat.zero_le _⟩) hP hD hS hA [2, 18, 19, 5, 6, 20, 8, 21, 10, 22, 12, 23, 14, 24, 25, 17] [0, 1, 3, 4, 7, 9, 11, 13, 15, 16] [0, 1, 10, 2, 3, 13, 14, 4, 16, 5, 18, 6, 20, 7, 22, 8, 9, 25, 11, 12, 15, 17, 19, 21, 23, 24] rfl rfl rfl rfl (by decide) rfl rfl rfl (fun H locs hP hD hS => ?_)
        refine lv_aload_n hx hb dX8_back_35 rfl (lv_at hl 0 rfl) ?_
        refine va_get (D := G.1) (ci := 8) (v := .ref a_this_now) (C := RX8) (T := TX8) (N := 12) hx hb hts inX8 hown hK hP 0 rfl rfl 4 (by decide) lk36 (fun _ h9 => h9) rfl dX8_back_36 ?_
        refine va_get (D := G.1) (ci := 0) (v := .int w35) (C := RX0) (T := TX0) (N := 5) hx hb hts inX0 hown hK hP 2 rfl rfl 0 (by decide) lk142 (fun _ h9 => h9) rfl dX8_back_39 ?_
        obtain ⟨hr0, hr1, hr2, hr3, hr4, hr5, hr6, hr7, hr8⟩ := so9 hf
        subst hr0
        subst hr1
        subst hr2
        subst hr3
        subst hr4
        subst hr5
        subst hr6
        subst hr7
        subst hr8
        rw [← hQ]
        exact W.iret (v := w35) hx hb hr (fun t ht hW => ⟨⟨rfl, by rw [ht]; exact hP⟩, hS.F ht⟩) hS.2.2 dX8_back_42
    · have hf := if_t hf hc25
      refine lv_bipush (v := (-2 : Int32)) hx hb dX8_back_20 (by decide) ?_
      obtain ⟨hr0, hr1, hr2, hr3, hr4, hr5, hr6, hr7, hr8⟩ := so9 hf
      subst hr0
      subst hr1
      subst hr2
      subst hr3
      subst hr4
      subst hr5
      subst hr6
      subst hr7
      subst hr8
      rw [← hQ]
      exact W.iret (v := (-2 : Int32)) hx hb hr (fun t ht hW => ⟨⟨rfl, by rw [ht]; exact hP⟩, hS.F ht⟩) hS.2.2 dX8_back_22
  · have hf := if_t hf hc23
    refine lv_iconst (v := (-1 : Int32)) hx hb dX8_back_9 (by decide) ?_
    obtain ⟨hr0, hr1, hr2, hr3, hr4, hr5, hr6, hr7, hr8⟩ := so9 hf
    subst hr0
    subst hr1
    subst hr2
    subst hr3
    subst hr4
    subst hr5
    subst hr6
    subst hr7
    subst hr8
    rw [← hQ]
    exact W.iret (v := (-1 : Int32)) hx hb hr (fun t ht hW => ⟨⟨rfl, by rw [ht]; exact hP⟩, hS.F ht⟩) hS.2.2 dX8_back_10
def f_X8_count  (v_told_squares : Int32) (v_told_stars : Int32) (v_told_tenants : Int32) (v_now_night : Int32) (v_now_leases_size : Int32) (v_offers_terms_size : Int32) (v_seen_size : Int32) (v_now_past_rows_size : Int32) (v_text_length : Int32) (g1 : Int32) : Option (Int32) := if g1 = (0 : Int32) then (some (v_told_squares)) else (if g1 = (1 : Int32) then (some (v_told_stars)) else (if g1 = (2 : Int32) then (some (v_told_tenants)) else (if g1 = (3 : Int32) then (some (v_now_leases_size)) else (if g1 = (4 : Int32) then (some (v_offers_terms_size)) else (if g1 = (5 : Int32) then (some (v_seen_size)) else (if g1 = (6 : Int32) then (some (v_now_night)) else (if g1 = (7 : Int32) then (some (v_now_past_rows_size)) else (if g1 = (8 : Int32) then (some (v_text_length)) else (some ((-1 : Int32)))))))))))
abbrev rm_X8_count : Room := { frames := 0, cells := 0, slots := 0, locals := 0 }
set_option maxHeartbeats 4000000 in
set_option maxRecDepth 100000 in
theorem c_X8_count (l : Launch) (G : zG) (a_this : Nat) (a_this_told : Nat) (a_this_now : Nat) (a_this_now_leases : Nat) (a_this_offers : Nat) (a_this_offers_terms : Nat) (a_this_seen : Nat) (a_this_now_past : Nat) (a_this_now_past_rows : Nat) (a_this_text : Nat) (a_this_reader : Nat) (a_this_draft : Nat) (a_this_firstImage : Nat) (a_this_secondImage : Nat) (a_this_kept : Nat) (a_this_rents : Nat) (a_this_told_starts : Nat) (a_this_told_paces : Nat) (a_this_told_brights : Nat) (a_this_told_purses : Nat) (a_this_told_leases : Nat) (a_this_now_purses : Nat) (a_this_now_leases_parts : Nat) (a_this_offers_prices : Nat) (a_this_offers_squareBits : Nat) (a_this_offers_clashes : Nat) (a_this_offers_starBits : Nat) (a_this_offers_heldBits : Nat) (a_this_offers_terms_parts : Nat) (a_this_seen_stars : Nat) (a_this_seen_squares : Nat) (a_this_now_past_places : Nat) (a_this_now_past_rows_parts : Nat) (a_this_text_bytes : Nat) (v_traced : Int64) (v_told_squares : Int32) (v_told_stars : Int32) (v_told_tenants : Int32) (v_now_night : Int32) (v_now_lot : Int32) (v_now_leases_most : Int32) (v_now_leases_size : Int32) (v_offers_terms_most : Int32) (v_offers_terms_size : Int32) (v_seen_size : Int32) (v_now_past_rows_most : Int32) (v_now_past_rows_size : Int32) (v_text_length : Int32) (v_text_token : Int32) (v_text_place : Int32) (v_text_number : Int32) (v_text_next : Int32) (g1 : Int32) (R0 : Int32) (hf : f_X8_count v_told_squares v_told_stars v_told_tenants v_now_night v_now_leases_size v_offers_terms_size v_seen_size v_now_past_rows_size v_text_length g1 = some R0) : Met l yX8_count wsX8_count rm_X8_count (va_Pc [.ref a_this, .int g1] (zR G [(a_this, .inr (8, [.ref a_this_text, .ref a_this_reader, .ref a_this_told, .ref a_this_draft, .ref a_this_now, .ref a_this_firstImage, .ref a_this_secondImage, .ref a_this_kept, .ref a_this_offers, .ref a_this_seen, .ref a_this_rents, .long v_traced])), (a_this_told, .inr (5, [.int v_told_squares, .int v_told_stars, .ref a_this_told_starts, .ref a_this_told_paces, .ref a_this_told_brights, .int v_told_tenants, .ref a_this_told_purses, .ref a_this_told_leases])), (a_this_now, .inr (0, [.int v_now_night, .int v_now_lot, .ref a_this_now_purses, .ref a_this_now_leases, .ref a_this_now_past])), (a_this_now_leases, .inr (6, [.int v_now_leases_most, .ref a_this_now_leases_parts, .int v_now_leases_size])), (a_this_offers, .inr (1, [.ref a_this_offers_terms, .ref a_this_offers_prices, .ref a_this_offers_squareBits, .ref a_this_offers_clashes, .ref a_this_offers_starBits, .ref a_this_offers_heldBits])), (a_this_offers_terms, .inr (6, [.int v_offers_terms_most, .ref a_this_offers_terms_parts, .int v_offers_terms_size])), (a_this_seen, .inr (4, [.int v_seen_size, .ref a_this_seen_stars, .ref a_this_seen_squares])), (a_this_now_past, .inr (2, [.ref a_this_now_past_rows, .ref a_this_now_past_places])), (a_this_now_past_rows, .inr (6, [.int v_now_past_rows_most, .ref a_this_now_past_rows_parts, .int v_now_past_rows_size])), (a_this_text, .inr (7, [.ref a_this_text_bytes, .int v_text_length, .int v_text_token, .int v_text_place, .int v_text_number, .int v_text_next]))])) (zSv (some (.int R0))) 0 0 (fun _ => False) := by
  refine Met.ofW (cc := cX8_count) (maxL := 2) (ret := (some .int)) (by decide) rfl ?_
  intro p e s m args below meth c s₁ B hml hv
  obtain ⟨hargs, hP, hE⟩ := hv
  have hx := B.exec
  have hb := B.bytes
  have hr := B.returns
  have hts := atoms_spec (ws := wsX8_count) B.pre
  have hown : s.vm.findClass RX8 = some m.cls := findClass_of_methodNamed B.named
  have hlocks := B.notSynchronized
  have hK := hE.1
  have hC : CallFix p m c cX8_count 2 s args wsX8_count RX8 := ⟨hx, hb, hml, hown, hts⟩
  have inX0 : ∀ w ∈ wsX00, w ∈ wsX8_count := by decide +kernel
  have inX1 : ∀ w ∈ wsX10, w ∈ wsX8_count := by decide +kernel
  have inX2 : ∀ w ∈ wsX20, w ∈ wsX8_count := by decide +kernel
  have inX4 : ∀ w ∈ wsX40, w ∈ wsX8_count := by decide +kernel
  have inX5 : ∀ w ∈ wsX50, w ∈ wsX8_count := by decide +kernel
  have inX6 : ∀ w ∈ wsX60, w ∈ wsX8_count := by decide +kernel
  have inX7 : ∀ w ∈ wsX70, w ∈ wsX8_count := by decide +kernel
  have inX8 : ∀ w ∈ wsX80, w ∈ wsX8_count := by decide +kernel
  have lk10 := hts (.fieldLink RX8 10 "SkyLeases" "text" "LSkyLeases$Text;") (by decide +kernel)
  have lk26 := hts (.fieldLink RX8 26 "SkyLeases" "told" "LSkyLeases$Sky;") (by decide +kernel)
  have lk36 := hts (.fieldLink RX8 36 "SkyLeases" "now" "LSkyLeases$Now;") (by decide +kernel)
  have lk53 := hts (.fieldLink RX8 53 "SkyLeases" "offers" "LSkyLeases$Offers;") (by decide +kernel)
  have lk60 := hts (.fieldLink RX8 60 "SkyLeases" "seen" "LSkyLeases$Seen;") (by decide +kernel)
  have lk84 := hts (.fieldLink RX8 84 "SkyLeases$Text" "length" "I") (by decide +kernel)
  have lk95 := hts (.fieldLink RX8 95 "SkyLeases$Offers" "terms" "LSkyLeases$Terms;") (by decide +kernel)
  have lk99 := hts (.fieldLink RX8 99 "SkyLeases$Terms" "size" "I") (by decide +kernel)
  have lk104 := hts (.fieldLink RX8 104 "SkyLeases$Seen" "size" "I") (by decide +kernel)
  have lk116 := hts (.fieldLink RX8 116 "SkyLeases$Now" "leases" "LSkyLeases$Terms;") (by decide +kernel)
  have lk131 := hts (.fieldLink RX8 131 "SkyLeases$Sky" "squares" "I") (by decide +kernel)
  have lk142 := hts (.fieldLink RX8 142 "SkyLeases$Now" "night" "I") (by decide +kernel)
  have lk150 := hts (.fieldLink RX8 150 "SkyLeases$Sky" "tenants" "I") (by decide +kernel)
  have lk175 := hts (.fieldLink RX8 175 "SkyLeases$Now" "past" "LSkyLeases$Past;") (by decide +kernel)
  have lk191 := hts (.fieldLink RX8 191 "SkyLeases$Past" "rows" "LSkyLeases$Terms;") (by decide +kernel)
  have lk265 := hts (.fieldLink RX8 265 "SkyLeases$Sky" "stars" "I") (by decide +kernel)
  have hl := lv_entry ([.ref a_this, .int g1]) (n := 2) (Nat.le_of_ble_eq_true rfl)
  have hent : entryFrame m args 2 = F0 m 0 ((lg_sl ([.ref a_this, .int g1]) ++ List.replicate (2 - (lg_sl ([.ref a_this, .int g1])).length) Slot.unset).toArray) [] := by rw [hargs]; exact lg_entry_eq m [.ref a_this, .int g1] 2
  refine W.eq hent ?_
  clear hent
  generalize (lg_sl ([.ref a_this, .int g1]) ++ List.replicate (2 - (lg_sl ([.ref a_this, .int g1])).length) Slot.unset).toArray = ls at hl ⊢
  have hl : lv_has ls 2 [(0, .ref a_this), (1, .int g1)] := hl
  generalize hQ : MQ below _ args s 0 0 _ = QQ
  change W p l e rm_X8_count s m args below meth c s.heap [] 0 0 QQ _
  unfold f_X8_count at hf
  refine lv_iload_n hx hb dX8_count_0 rfl (lv_at hl 1 rfl) ?_
  by_cases hc10 : g1 = (0 : Int32)
  · have hf := if_t hf hc10
    refine lv_tableIn (x := g1) (off := 51) (tgt := 52) hx hb dX8_count_1 (by rw [hc10]; decide) (by rw [hc10]; decide) (by rw [hc10]; decide) (by decide) ?_
    refine lv_aload_n hx hb dX8_count_52 rfl (lv_at hl 0 rfl) ?_
    refine va_get (D := G.1) (ci := 8) (v := .ref a_this_told) (C := RX8) (T := TX8) (N := 12) hx hb hts inX8 hown hK hP 0 rfl rfl 2 (by decide) lk26 (fun _ h9 => h9) rfl dX8_count_53 ?_
    refine va_get (D := G.1) (ci := 5) (v := .int v_told_squares) (C := RX5) (T := TX5) (N := 8) hx hb hts inX5 hown hK hP 1 rfl rfl 0 (by decide) lk131 (fun _ h9 => h9) rfl dX8_count_56 ?_
    have hr0 := so1 hf
    subst hr0
    rw [← hQ]
    exact W.iret (v := v_told_squares) hx hb hr (fun t ht hW => ⟨rfl, ht⟩) (fun _ h => by cases h) dX8_count_59
  have hf := if_f hf hc10
  by_cases hc11 : g1 = (1 : Int32)
  · have hf := if_t hf hc11
    refine lv_tableIn (x := g1) (off := 59) (tgt := 60) hx hb dX8_count_1 (by rw [hc11]; decide) (by rw [hc11]; decide) (by rw [hc11]; decide) (by decide) ?_
    refine lv_aload_n hx hb dX8_count_60 rfl (lv_at hl 0 rfl) ?_
    refine va_get (D := G.1) (ci := 8) (v := .ref a_this_told) (C := RX8) (T := TX8) (N := 12) hx hb hts inX8 hown hK hP 0 rfl rfl 2 (by decide) lk26 (fun _ h9 => h9) rfl dX8_count_61 ?_
    refine va_get (D := G.1) (ci := 5) (v := .int v_told_stars) (C := RX5) (T := TX5) (N := 8) hx hb hts inX5 hown hK hP 1 rfl rfl 1 (by decide) lk265 (fun _ h9 => h9) rfl dX8_count_64 ?_
    have hr0 := so1 hf
    subst hr0
    rw [← hQ]
    exact W.iret (v := v_told_stars) hx hb hr (fun t ht hW => ⟨rfl, ht⟩) (fun _ h => by cases h) dX8_count_67
  have hf := if_f hf hc11
  by_cases hc12 : g1 = (2 : Int32)
  · have hf := if_t hf hc12
    refine lv_tableIn (x := g1) (off := 67) (tgt := 68) hx hb dX8_count_1 (by rw [hc12]; decide) (by rw [hc12]; decide) (by rw [hc12]; decide) (by decide) ?_
    refine lv_aload_n hx hb dX8_count_68 rfl (lv_at hl 0 rfl) ?_
    refine va_get (D := G.1) (ci := 8) (v := .ref a_this_told) (C := RX8) (T := TX8) (N := 12) hx hb hts inX8 hown hK hP 0 rfl rfl 2 (by decide) lk26 (fun _ h9 => h9) rfl dX8_count_69 ?_
    refine va_get (D := G.1) (ci := 5) (v := .int v_told_tenants) (C := RX5) (T := TX5) (N := 8) hx hb hts inX5 hown hK hP 1 rfl rfl 5 (by decide) lk150 (fun _ h9 => h9) rfl dX8_count_72 ?_
    have hr0 := so1 hf
    subst hr0
    rw [← hQ]
    exact W.iret (v := v_told_tenants) hx hb hr (fun t ht hW => ⟨rfl, ht⟩) (fun _ h => by cases h) dX8_count_75
  have hf := if_f hf hc12
  by_cases hc13 : g1 = (3 : Int32)
  · have hf := if_t hf hc13
    refine lv_tableIn (x := g1) (off := 75) (tgt := 76) hx hb dX8_count_1 (by rw [hc13]; decide) (by rw [hc13]; decide) (by rw [hc13]; decide) (by decide) ?_
    refine lv_aload_n hx hb dX8_count_76 rfl (lv_at hl 0 rfl) ?_
    refine va_get (D := G.1) (ci := 8) (v := .ref a_this_now) (C := RX8) (T := TX8) (N := 12) hx hb hts inX8 hown hK hP 0 rfl rfl 4 (by decide) lk36 (fun _ h9 => h9) rfl dX8_count_77 ?_
    refine va_get (D := G.1) (ci := 0) (v := .ref a_this_now_leases) (C := RX0) (T := TX0) (N := 5) hx hb hts inX0 hown hK hP 2 rfl rfl 3 (by decide) lk116 (fun _ h9 => h9) rfl dX8_count_80 ?_
    refine va_get (D := G.1) (ci := 6) (v := .int v_now_leases_size) (C := RX6) (T := TX6) (N := 3) hx hb hts inX6 hown hK hP 3 rfl rfl 2 (by decide) lk99 (fun _ h9 => h9) rfl dX8_count_83 ?_
    have hr0 := so1 hf
    subst hr0
    rw [← hQ]
    exact W.iret (v := v_now_leases_size) hx hb hr (fun t ht hW => ⟨rfl, ht⟩) (fun _ h => by cases h) dX8_count_86
  have hf := if_f hf hc13
  by_cases hc14 : g1 = (4 : Int32)
  · have hf := if_t hf hc14
    refine lv_tableIn (x := g1) (off := 86) (tgt := 87) hx hb dX8_count_1 (by rw [hc14]; decide) (by rw [hc14]; decide) (by rw [hc14]; decide) (by decide) ?_
    refine lv_aload_n hx hb dX8_count_87 rfl (lv_at hl 0 rfl) ?_
    refine va_get (D := G.1) (ci := 8) (v := .ref a_this_offers) (C := RX8) (T := TX8) (N := 12) hx hb hts inX8 hown hK hP 0 rfl rfl 8 (by decide) lk53 (fun _ h9 => h9) rfl dX8_count_88 ?_
    refine va_get (D := G.1) (ci := 1) (v := .ref a_this_offers_terms) (C := RX1) (T := TX1) (N := 6) hx hb hts inX1 hown hK hP 4 rfl rfl 0 (by decide) lk95 (fun _ h9 => h9) rfl dX8_count_91 ?_
    refine va_get (D := G.1) (ci := 6) (v := .int v_offers_terms_size) (C := RX6) (T := TX6) (N := 3) hx hb hts inX6 hown hK hP 5 rfl rfl 2 (by decide) lk99 (fun _ h9 => h9) rfl dX8_count_94 ?_
    have hr0 := so1 hf
    subst hr0
    rw [← hQ]
    exact W.iret (v := v_offers_terms_size) hx hb hr (fun t ht hW => ⟨rfl, ht⟩) (fun _ h => by cases h) dX8_count_97
  have hf := if_f hf hc14
  by_cases hc15 : g1 = (5 : Int32)
  · have hf := if_t hf hc15
    refine lv_tableIn (x := g1) (off := 97) (tgt := 98) hx hb dX8_count_1 (by rw [hc15]; decide) (by rw [hc15]; decide) (by rw [hc15]; decide) (by decide) ?_
    refine lv_aload_n hx hb dX8_count_98 rfl (lv_at hl 0 rfl) ?_
    refine va_get (D := G.1) (ci := 8) (v := .ref a_this_seen) (C := RX8) (T := TX8) (N := 12) hx hb hts inX8 hown hK hP 0 rfl rfl 9 (by decide) lk60 (fun _ h9 => h9) rfl dX8_count_99 ?_
    refine va_get (D := G.1) (ci := 4) (v := .int v_seen_size) (C := RX4) (T := TX4) (N := 3) hx hb hts inX4 hown hK hP 6 rfl rfl 0 (by decide) lk104 (fun _ h9 => h9) rfl dX8_count_102 ?_
    have hr0 := so1 hf
    subst hr0
    rw [← hQ]
    exact W.iret (v := v_seen_size) hx hb hr (fun t ht hW => ⟨rfl, ht⟩) (fun _ h => by cases h) dX8_count_105
  have hf := if_f hf hc15
  by_cases hc16 : g1 = (6 : Int32)
  · have hf := if_t hf hc16
    refine lv_tableIn (x := g1) (off := 105) (tgt := 106) hx hb dX8_count_1 (by rw [hc16]; decide) (by rw [hc16]; decide) (by rw [hc16]; decide) (by decide) ?_
    refine lv_aload_n hx hb dX8_count_106 rfl (lv_at hl 0 rfl) ?_
    refine va_get (D := G.1) (ci := 8) (v := .ref a_this_now) (C := RX8) (T := TX8) (N := 12) hx hb hts inX8 hown hK hP 0 rfl rfl 4 (by decide) lk36 (fun _ h9 => h9) rfl dX8_count_107 ?_
    refine va_get (D := G.1) (ci := 0) (v := .int v_now_night) (C := RX0) (T := TX0) (N := 5) hx hb hts inX0 hown hK hP 2 rfl rfl 0 (by decide) lk142 (fun _ h9 => h9) rfl dX8_count_110 ?_
    have hr0 := so1 hf
    subst hr0
    rw [← hQ]
    exact W.iret (v := v_now_night) hx hb hr (fun t ht hW => ⟨rfl, ht⟩) (fun _ h => by cases h) dX8_count_113
  have hf := if_f hf hc16
  by_cases hc17 : g1 = (7 : Int32)
  · have hf := if_t hf hc17
    refine lv_tableIn (x := g1) (off := 113) (tgt := 114) hx hb dX8_count_1 (by rw [hc17]; decide) (by rw [hc17]; decide) (by rw [hc17]; decide) (by decide) ?_
    refine lv_aload_n hx hb dX8_count_114 rfl (lv_at hl 0 rfl) ?_
    refine va_get (D := G.1) (ci := 8) (v := .ref a_this_now) (C := RX8) (T := TX8) (N := 12) hx hb hts inX8 hown hK hP 0 rfl rfl 4 (by decide) lk36 (fun _ h9 => h9) rfl dX8_count_115 ?_
    refine va_get (D := G.1) (ci := 0) (v := .ref a_this_now_past) (C := RX0) (T := TX0) (N := 5) hx hb hts inX0 hown hK hP 2 rfl rfl 4 (by decide) lk175 (fun _ h9 => h9) rfl dX8_count_118 ?_
    refine va_get (D := G.1) (ci := 2) (v := .ref a_this_now_past_rows) (C := RX2) (T := TX2) (N := 2) hx hb hts inX2 hown hK hP 7 rfl rfl 0 (by decide) lk191 (fun _ h9 => h9) rfl dX8_count_121 ?_
    refine va_get (D := G.1) (ci := 6) (v := .int v_now_past_rows_size) (C := RX6) (T := TX6) (N := 3) hx hb hts inX6 hown hK hP 8 rfl rfl 2 (by decide) lk99 (fun _ h9 => h9) rfl dX8_count_124 ?_
    have hr0 := so1 hf
    subst hr0
    rw [← hQ]
    exact W.iret (v := v_now_past_rows_size) hx hb hr (fun t ht hW => ⟨rfl, ht⟩) (fun _ h => by cases h) dX8_count_127
  have hf := if_f hf hc17
  by_cases hc18 : g1 = (8 : Int32)
  · have hf := if_t hf hc18
    refine lv_tableIn (x := g1) (off := 127) (tgt := 128) hx hb dX8_count_1 (by rw [hc18]; decide) (by rw [hc18]; decide) (by rw [hc18]; decide) (by decide) ?_
    refine lv_aload_n hx hb dX8_count_128 rfl (lv_at hl 0 rfl) ?_
    refine va_get (D := G.1) (ci := 8) (v := .ref a_this_text) (C := RX8) (T := TX8) (N := 12) hx hb hts inX8 hown hK hP 0 rfl rfl 0 (by decide) lk10 (fun _ h9 => h9) rfl dX8_count_129 ?_
    refine va_get (D := G.1) (ci := 7) (v := .int v_text_length) (C := RX7) (T := TX7) (N := 6) hx hb hts inX7 hown hK hP 9 rfl rfl 1 (by decide) lk84 (fun _ h9 => h9) rfl dX8_count_132 ?_
    have hr0 := so1 hf
    subst hr0
    rw [← hQ]
    exact W.iret (v := v_text_length) hx hb hr (fun t ht hW => ⟨rfl, ht⟩) (fun _ h => by cases h) dX8_count_135
  have hf := if_f hf hc18
  have hthc10 : (g1).toInt ≠ 0 := fun h9 => hc10 (Int32.toInt_inj.mp (h9.trans (by decide)))
  have hthc11 : (g1).toInt ≠ 1 := fun h9 => hc11 (Int32.toInt_inj.mp (h9.trans (by decide)))
  have hthc12 : (g1).toInt ≠ 2 := fun h9 => hc12 (Int32.toInt_inj.mp (h9.trans (by decide)))
  have hthc13 : (g1).toInt ≠ 3 := fun h9 => hc13 (Int32.toInt_inj.mp (h9.trans (by decide)))
  have hthc14 : (g1).toInt ≠ 4 := fun h9 => hc14 (Int32.toInt_inj.mp (h9.trans (by decide)))
  have hthc15 : (g1).toInt ≠ 5 := fun h9 => hc15 (Int32.toInt_inj.mp (h9.trans (by decide)))
  have hthc16 : (g1).toInt ≠ 6 := fun h9 => hc16 (Int32.toInt_inj.mp (h9.trans (by decide)))
  have hthc17 : (g1).toInt ≠ 7 := fun h9 => hc17 (Int32.toInt_inj.mp (h9.trans (by decide)))
  have hthc18 : (g1).toInt ≠ 8 := fun h9 => hc18 (Int32.toInt_inj.mp (h9.trans (by decide)))
  refine lv_tableOut (x := g1) (tgt := 136) hx hb dX8_count_1 (by omega) (by decide) ?_
  refine lv_iconst (v := (-1 : Int32)) hx hb dX8_count_136 (by decide) ?_
  have hr0 := so1 hf
  subst hr0
  rw [← hQ]
  exact W.iret (v := (-1 : Int32)) hx hb hr (fun t ht hW => ⟨rfl, ht⟩) (fun _ h => by cases h) dX8_count_137
def f_X8_trace  (v_traced : Int64)  : Option (Int64) := some (v_traced)
abbrev rm_X8_trace : Room := { frames := 0, cells := 0, slots := 0, locals := 0 }
set_option maxHeartbeats 4000000 in
set_option maxRecDepth 100000 in
theorem c_X8_trace (l : Launch) (G : zG) (a_this : Nat) (a_this_text : Nat) (a_this_reader : Nat) (a_this_told : Nat) (a_this_draft : Nat) (a_this_now : Nat) (a_this_firstImage : Nat) (a_this_secondImage : Nat) (a_this_kept : Nat) (a_this_offers : Nat) (a_this_seen : Nat) (a_this_rents : Nat) (v_traced : Int64) (R0 : Int64) (hf : f_X8_trace v_traced = some R0) : Met l yX8_trace wsX8_trace rm_X8_trace (va_Pc [.ref a_this] (zR G [(a_this, .inr (8, [.ref a_this_text, .ref a_this_reader, .ref a_this_told, .ref a_this_draft, .ref a_this_now, .ref a_this_firstImage, .ref a_this_secondImage, .ref a_this_kept, .ref a_this_offers, .ref a_this_seen, .ref a_this_rents, .long v_traced]))])) (zSv (some (.long R0))) 0 0 (fun _ => False) := by
  refine Met.ofW (cc := cX8_trace) (maxL := 1) (ret := (some .long)) (by decide) rfl ?_
  intro p e s m args below meth c s₁ B hml hv
  obtain ⟨hargs, hP, hE⟩ := hv
  have hx := B.exec
  have hb := B.bytes
  have hr := B.returns
  have hts := atoms_spec (ws := wsX8_trace) B.pre
  have hown : s.vm.findClass RX8 = some m.cls := findClass_of_methodNamed B.named
  have hlocks := B.notSynchronized
  have hK := hE.1
  have hC : CallFix p m c cX8_trace 1 s args wsX8_trace RX8 := ⟨hx, hb, hml, hown, hts⟩
  have inX8 : ∀ w ∈ wsX80, w ∈ wsX8_trace := by decide +kernel
  have lk68 := hts (.fieldLink RX8 68 "SkyLeases" "traced" "J") (by decide +kernel)
  have hl := lv_entry ([.ref a_this]) (n := 1) (Nat.le_of_ble_eq_true rfl)
  have hent : entryFrame m args 1 = F0 m 0 ((lg_sl ([.ref a_this]) ++ List.replicate (1 - (lg_sl ([.ref a_this])).length) Slot.unset).toArray) [] := by rw [hargs]; exact lg_entry_eq m [.ref a_this] 1
  refine W.eq hent ?_
  clear hent
  generalize (lg_sl ([.ref a_this]) ++ List.replicate (1 - (lg_sl ([.ref a_this])).length) Slot.unset).toArray = ls at hl ⊢
  have hl : lv_has ls 1 [(0, .ref a_this)] := hl
  generalize hQ : MQ below _ args s 0 0 _ = QQ
  change W p l e rm_X8_trace s m args below meth c s.heap [] 0 0 QQ _
  unfold f_X8_trace at hf
  refine lv_aload_n hx hb dX8_trace_0 rfl (lv_at hl 0 rfl) ?_
  refine va_get (D := G.1) (ci := 8) (v := .long v_traced) (C := RX8) (T := TX8) (N := 12) hx hb hts inX8 hown hK hP 0 rfl rfl 11 (by decide) lk68 (fun _ h9 => h9) rfl dX8_trace_1 ?_
  have hr0 := so1 hf
  subst hr0
  rw [← hQ]
  exact W.lret (v := v_traced) hx hb hr (fun t ht hW => ⟨rfl, ht⟩) (fun _ h => by cases h) dX8_trace_4
def f_X8_clear  (v_text_length : Int32)  : Option (Int32 × Int32) := some (v_text_length, (0 : Int32))
abbrev rm_X8_clear : Room := { frames := 0, cells := 0, slots := 0, locals := 0 }
set_option maxHeartbeats 4000000 in
set_option maxRecDepth 100000 in
theorem c_X8_clear (l : Launch) (G : zG) (sz : Nat) (a_this : Nat) (a_this_text : Nat) (a_this_reader : Nat) (a_this_told : Nat) (a_this_draft : Nat) (a_this_now : Nat) (a_this_firstImage : Nat) (a_this_secondImage : Nat) (a_this_kept : Nat) (a_this_offers : Nat) (a_this_seen : Nat) (a_this_rents : Nat) (a_this_text_bytes : Nat) (v_traced : Int64) (v_text_length : Int32) (v_text_token : Int32) (v_text_place : Int32) (v_text_number : Int32) (v_text_next : Int32) (R0 : Int32) (R1 : Int32) (hf : f_X8_clear v_text_length = some (R0, R1)) : Met l yX8_clear wsX8_clear rm_X8_clear (va_Pc [.ref a_this] (zB G [(a_this, .inr (8, [.ref a_this_text, .ref a_this_reader, .ref a_this_told, .ref a_this_draft, .ref a_this_now, .ref a_this_firstImage, .ref a_this_secondImage, .ref a_this_kept, .ref a_this_offers, .ref a_this_seen, .ref a_this_rents, .long v_traced])), (a_this_text, .inr (7, [.ref a_this_text_bytes, .int v_text_length, .int v_text_token, .int v_text_place, .int v_text_number, .int v_text_next]))] sz)) (zQ G (some (.int R0)) [(a_this, .inr (8, [.ref a_this_text, .ref a_this_reader, .ref a_this_told, .ref a_this_draft, .ref a_this_now, .ref a_this_firstImage, .ref a_this_secondImage, .ref a_this_kept, .ref a_this_offers, .ref a_this_seen, .ref a_this_rents, .long v_traced])), (a_this_text, .inr (7, [.ref a_this_text_bytes, .int R1, .int v_text_token, .int v_text_place, .int v_text_number, .int v_text_next]))] (va_A [(a_this, .inr (8, [.ref a_this_text, .ref a_this_reader, .ref a_this_told, .ref a_this_draft, .ref a_this_now, .ref a_this_firstImage, .ref a_this_secondImage, .ref a_this_kept, .ref a_this_offers, .ref a_this_seen, .ref a_this_rents, .long v_traced])), (a_this_text, .inr (7, [.ref a_this_text_bytes, .int v_text_length, .int v_text_token, .int v_text_place, .int v_text_number, .int v_text_next]))] sz)) 0 0 (va_A [(a_this, .inr (8, [.ref a_this_text, .ref a_this_reader, .ref a_this_told, .ref a_this_draft, .ref a_this_now, .ref a_this_firstImage, .ref a_this_secondImage, .ref a_this_kept, .ref a_this_offers, .ref a_this_seen, .ref a_this_rents, .long v_traced])), (a_this_text, .inr (7, [.ref a_this_text_bytes, .int v_text_length, .int v_text_token, .int v_text_place, .int v_text_number, .int v_text_next]))] sz) := by
  refine Met.ofW (cc := cX8_clear) (maxL := 2) (ret := (some .int)) (by decide) rfl ?_
  intro p e s m args below meth c s₁ B hml hv
  obtain ⟨hargs, hsz, hP, hD0, hE⟩ := hv
  have hx := B.exec
  have hb := B.bytes
  have hr := B.returns
  have hts := atoms_spec (ws := wsX8_clear) B.pre
  have hown : s.vm.findClass RX8 = some m.cls := findClass_of_methodNamed B.named
  have hlocks := B.notSynchronized
  have hK := hE.1
  have hC : CallFix p m c cX8_clear 2 s args wsX8_clear RX8 := ⟨hx, hb, hml, hown, hts⟩
  have inX7 : ∀ w ∈ wsX70, w ∈ wsX8_clear := by decide +kernel
  have inX8 : ∀ w ∈ wsX80, w ∈ wsX8_clear := by decide +kernel
  have lk10 := hts (.fieldLink RX8 10 "SkyLeases" "text" "LSkyLeases$Text;") (by decide +kernel)
  have lk84 := hts (.fieldLink RX8 84 "SkyLeases$Text" "length" "I") (by decide +kernel)
  subst hsz
  have hD := hD0.self (sz := s.heap.size)
  generalize hAe : va_A [(a_this, .inr (8, [.ref a_this_text, .ref a_this_reader, .ref a_this_told, .ref a_this_draft, .ref a_this_now, .ref a_this_firstImage, .ref a_this_secondImage, .ref a_this_kept, .ref a_this_offers, .ref a_this_seen, .ref a_this_rents, .long v_traced])), (a_this_text, .inr (7, [.ref a_this_text_bytes, .int v_text_length, .int v_text_token, .int v_text_place, .int v_text_number, .int v_text_next]))] s.heap.size = A at hD ⊢
  have hA : ∀ q : Nat, s.heap.size ≤ q → A q := fun q h => by rw [← hAe]; exact Or.inr h
  have hS : va_S A s.heap s.heap [] := va_S.rf
  have hP : va_P G.1 vwCl [(a_this, .inr (8, [.ref a_this_text, .ref a_this_reader, .ref a_this_told, .ref a_this_draft, .ref a_this_now, .ref a_this_firstImage, .ref a_this_secondImage, .ref a_this_kept, .ref a_this_offers, .ref a_this_seen, .ref a_this_rents, .long v_traced])), (a_this_text, .inr (7, [.ref a_this_text_bytes, .int v_text_length, .int v_text_token, .int v_text_place, .int v_text_number, .int v_text_next]))] s.heap := hP
  have hl := lv_entry ([.ref a_this]) (n := 2) (Nat.le_of_ble_eq_true rfl)
  have hent : entryFrame m args 2 = F0 m 0 ((lg_sl ([.ref a_this]) ++ List.replicate (2 - (lg_sl ([.ref a_this])).length) Slot.unset).toArray) [] := by rw [hargs]; exact lg_entry_eq m [.ref a_this] 2
  refine W.eq hent ?_
  clear hent
  generalize (lg_sl ([.ref a_this]) ++ List.replicate (2 - (lg_sl ([.ref a_this])).length) Slot.unset).toArray = ls at hl ⊢
  have hl : lv_has ls 2 [(0, .ref a_this)] := hl
  generalize hQ : MQ below _ args s 0 0 _ = QQ
  change W p l e rm_X8_clear s m args below meth c s.heap [] 0 0 QQ _
  have hSH := hS
  unfold f_X8_clear at hf
  refine lv_aload_n hx hb dX8_clear_0 rfl (lv_at hl 0 rfl) ?_
  refine va_get (D := G.1) (ci := 8) (v := .ref a_this_text) (C := RX8) (T := TX8) (N := 12) hx hb hts inX8 hown hK hP 0 rfl rfl 0 (by decide) lk10 (fun _ h9 => h9) rfl dX8_clear_1 ?_
  refine va_get (D := G.1) (ci := 7) (v := .int v_text_length) (C := RX7) (T := TX7) (N := 6) hx hb hts inX7 hown hK hP 1 rfl rfl 1 (by decide) lk84 (fun _ h9 => h9) rfl dX8_clear_4 ?_
  refine lv_istore_n (lv' := [(1, .int v_text_length), (0, .ref a_this)]) hx hb dX8_clear_7 rfl hl (by decide) rfl (fun ls hl => ?_)
  refine lv_aload_n hx hb dX8_clear_8 rfl (lv_at hl 1 rfl) ?_
  refine va_get (D := G.1) (ci := 8) (v := .ref a_this_text) (C := RX8) (T := TX8) (N := 12) hx hb hts inX8 hown hK hP 0 rfl rfl 0 (by decide) lk10 (fun _ h9 => h9) rfl dX8_clear_9 ?_
  refine lv_iconst (v := (0 : Int32)) hx hb dX8_clear_12 (by decide) ?_
  refine va_put (D := G.1) (ci := 7) (v := .int (0 : Int32)) (ty := .int) (C := RX7) (T := TX7) (N := 6) hx hb hts inX7 tyX7 tyX7_ok nmX7 hown hK hP hD hS 1 rfl rfl 1 (by decide) lk84 (fun _ h9 => h9) rfl (by decide +kernel) rfl rfl (Nat.le_of_ble_eq_true rfl) dX8_clear_13 (fun H locs hP hD hS => ?_)
  have hP : va_P G.1 vwCl [(a_this, .inr (8, [.ref a_this_text, .ref a_this_reader, .ref a_this_told, .ref a_this_draft, .ref a_this_now, .ref a_this_firstImage, .ref a_this_secondImage, .ref a_this_kept, .ref a_this_offers, .ref a_this_seen, .ref a_this_rents, .long v_traced])), (a_this_text, .inr (7, [.ref a_this_text_bytes, .int (0 : Int32), .int v_text_token, .int v_text_place, .int v_text_number, .int v_text_next]))] H := hP
  have hD : va_D A [(a_this, .inr (8, [.ref a_this_text, .ref a_this_reader, .ref a_this_told, .ref a_this_draft, .ref a_this_now, .ref a_this_firstImage, .ref a_this_secondImage, .ref a_this_kept, .ref a_this_offers, .ref a_this_seen, .ref a_this_rents, .long v_traced])), (a_this_text, .inr (7, [.ref a_this_text_bytes, .int (0 : Int32), .int v_text_token, .int v_text_place, .int v_text_number, .int v_text_next]))] := hD
  refine lv_iload_n hx hb dX8_clear_16 rfl (lv_at hl 0 rfl) ?_
  obtain ⟨hr0, hr1⟩ := so2 hf
  subst hr0
  subst hr1
  rw [← hQ]
  exact W.iret (v := v_text_length) hx hb hr (fun t ht hW => ⟨⟨rfl, by rw [ht]; exact hP⟩, hS.F ht⟩) hS.2.2 dX8_clear_17
def f_X7_hasRoomFor  (v_length : Int32) (g1 : Int32) : Option (Int32) := if ((300 : Int32) - v_length) < g1 then (some ((0 : Int32))) else (some ((1 : Int32)))
abbrev rm_X7_hasRoomFor : Room := { frames := 0, cells := 0, slots := 0, locals := 0 }
set_option maxHeartbeats 4000000 in
set_option maxRecDepth 100000 in
theorem c_X7_hasRoomFor (l : Launch) (G : zG) (a_this : Nat) (a_this_bytes : Nat) (v_length : Int32) (v_token : Int32) (v_place : Int32) (v_number : Int32) (v_next : Int32) (g1 : Int32) (R0 : Int32) (hf : f_X7_hasRoomFor v_length g1 = some R0) : Met l yX7_hasRoomFor wsX7_hasRoomFor rm_X7_hasRoomFor (va_Pc [.ref a_this, .int g1] (zR G [(a_this, .inr (7, [.ref a_this_bytes, .int v_length, .int v_token, .int v_place, .int v_number, .int v_next]))])) (zSv (some (.int R0))) 0 0 (fun _ => False) := by
  refine Met.ofW (cc := cX7_hasRoomFor) (maxL := 2) (ret := (some .boolean)) (by decide) rfl ?_
  intro p e s m args below meth c s₁ B hml hv
  obtain ⟨hargs, hP, hE⟩ := hv
  have hx := B.exec
  have hb := B.bytes
  have hr := B.returns
  have hts := atoms_spec (ws := wsX7_hasRoomFor) B.pre
  have hown : s.vm.findClass RX7 = some m.cls := findClass_of_methodNamed B.named
  have hlocks := B.notSynchronized
  have hK := hE.1
  have hC : CallFix p m c cX7_hasRoomFor 2 s args wsX7_hasRoomFor RX7 := ⟨hx, hb, hml, hown, hts⟩
  have inX7 : ∀ w ∈ wsX70, w ∈ wsX7_hasRoomFor := by decide +kernel
  have lk15 := hts (.fieldLink RX7 15 "SkyLeases$Text" "length" "I") (by decide +kernel)
  have hl := lv_entry ([.ref a_this, .int g1]) (n := 2) (Nat.le_of_ble_eq_true rfl)
  have hent : entryFrame m args 2 = F0 m 0 ((lg_sl ([.ref a_this, .int g1]) ++ List.replicate (2 - (lg_sl ([.ref a_this, .int g1])).length) Slot.unset).toArray) [] := by rw [hargs]; exact lg_entry_eq m [.ref a_this, .int g1] 2
  refine W.eq hent ?_
  clear hent
  generalize (lg_sl ([.ref a_this, .int g1]) ++ List.replicate (2 - (lg_sl ([.ref a_this, .int g1])).length) Slot.unset).toArray = ls at hl ⊢
  have hl : lv_has ls 2 [(0, .ref a_this), (1, .int g1)] := hl
  generalize hQ : MQ below _ args s 0 0 _ = QQ
  change W p l e rm_X7_hasRoomFor s m args below meth c s.heap [] 0 0 QQ _
  unfold f_X7_hasRoomFor at hf
  refine lv_iload_n hx hb dX7_hasRoomFor_0 rfl (lv_at hl 1 rfl) ?_
  refine lv_sipush (v := (300 : Int32)) hx hb dX7_hasRoomFor_1 (by decide) ?_
  refine lv_aload_n hx hb dX7_hasRoomFor_4 rfl (lv_at hl 0 rfl) ?_
  refine va_get (D := G.1) (ci := 7) (v := .int v_length) (C := RX7) (T := TX7) (N := 6) hx hb hts inX7 hown hK hP 0 rfl rfl 1 (by decide) lk15 (fun _ h9 => h9) rfl dX7_hasRoomFor_5 ?_
  refine lv_isub hx hb dX7_hasRoomFor_8 ?_
  refine lv_icmp_gt (tgt := 16) hx hb dX7_hasRoomFor_9 (by decide) (fun hc2 => ?_) (fun hc2 => ?_)
  · have hf := if_t hf hc2
    refine lv_iconst (v := (0 : Int32)) hx hb dX7_hasRoomFor_16 (by decide) ?_
    have hr0 := so1 hf
    subst hr0
    rw [← hQ]
    exact W.zret (v := (0 : Int32)) hx hb hr rfl (fun t ht hW => ⟨rfl, ht⟩) (fun _ h => by cases h) dX7_hasRoomFor_17
  · have hf := if_f hf hc2
    refine lv_iconst (v := (1 : Int32)) hx hb dX7_hasRoomFor_12 (by decide) ?_
    refine lv_goto (tgt := 17) hx hb dX7_hasRoomFor_13 (by decide) ?_
    have hr0 := so1 hf
    subst hr0
    rw [← hQ]
    exact W.zret (v := (1 : Int32)) hx hb hr rfl (fun t ht hW => ⟨rfl, ht⟩) (fun _ h => by cases h) dX7_hasRoomFor_17
theorem hd_X7_hasRoomFor : yX7_hasRoomFor.cls = RX7 ∧ yX7_hasRoomFor.cls ≠ "java/lang/invoke/MethodHandle" ∧ yX7_hasRoomFor.cls ≠ "java/lang/invoke/VarHandle" ∧ (parseMethodDescriptor yX7_hasRoomFor.desc).map (fun d => d.parameters.length) = some 1 := by decide +kernel
def f_X7_append  (v_length : Int32) (v_bytes : (Nat → Int32)) (g1 : Int32) : Option (Int32 × (Nat → Int32)) := bd1 (f_X7_hasRoomFor (v_length) ((1 : Int32))) fun r5 => if r5 = (0 : Int32) then (some (v_length, v_bytes)) else (gd (inB v_length 300) (nm (upd v_bytes (v_length).toNatClampNeg (vp_nar .char (zi2c g1))) fun y8 => some ((v_length + (1 : Int32)), y8)))
abbrev rm_X7_append : Room := { frames := 1, cells := 0, slots := 0, locals := 21 }
set_option maxHeartbeats 4000000 in
set_option maxRecDepth 100000 in
theorem c_X7_append (l : Launch) (G : zG) (sz : Nat) (a_this : Nat) (a_this_bytes : Nat) (v_length : Int32) (v_token : Int32) (v_place : Int32) (v_number : Int32) (v_next : Int32) (v_bytes : (Nat → Int32)) (g1 : Int32) (R1 : Int32) (R2 : (Nat → Int32)) (hf : f_X7_append v_length v_bytes g1 = some (R1, R2)) : Met l yX7_append wsX7_append rm_X7_append (va_Pc [.ref a_this, .int g1] (zB G [(a_this, .inr (7, [.ref a_this_bytes, .int v_length, .int v_token, .int v_place, .int v_number, .int v_next])), (a_this_bytes, .inl (G.2.2.1, 300, .inl v_bytes))] sz)) (zQ G none [(a_this, .inr (7, [.ref a_this_bytes, .int R1, .int v_token, .int v_place, .int v_number, .int v_next])), (a_this_bytes, .inl (G.2.2.1, 300, .inl R2))] (va_A [(a_this, .inr (7, [.ref a_this_bytes, .int v_length, .int v_token, .int v_place, .int v_number, .int v_next])), (a_this_bytes, .inl (G.2.2.1, 300, .inl v_bytes))] sz)) 0 0 (va_A [(a_this, .inr (7, [.ref a_this_bytes, .int v_length, .int v_token, .int v_place, .int v_number, .int v_next])), (a_this_bytes, .inl (G.2.2.1, 300, .inl v_bytes))] sz) := by
  refine Met.ofW (cc := cX7_append) (maxL := 2) (ret := none) (by decide) rfl ?_
  intro p e s m args below meth c s₁ B hml hv
  obtain ⟨hargs, hsz, hP, hD0, hE⟩ := hv
  have hx := B.exec
  have hb := B.bytes
  have hr := B.returns
  have hts := atoms_spec (ws := wsX7_append) B.pre
  have hown : s.vm.findClass RX7 = some m.cls := findClass_of_methodNamed B.named
  have hlocks := B.notSynchronized
  have hK := hE.1
  have hC : CallFix p m c cX7_append 2 s args wsX7_append RX7 := ⟨hx, hb, hml, hown, hts⟩
  have inX7 : ∀ w ∈ wsX70, w ∈ wsX7_append := by decide +kernel
  have lk9 := hts (.fieldLink RX7 9 "SkyLeases$Text" "bytes" "[C") (by decide +kernel)
  have lk15 := hts (.fieldLink RX7 15 "SkyLeases$Text" "length" "I") (by decide +kernel)
  subst hsz
  have hD := hD0.self (sz := s.heap.size)
  generalize hAe : va_A [(a_this, .inr (7, [.ref a_this_bytes, .int v_length, .int v_token, .int v_place, .int v_number, .int v_next])), (a_this_bytes, .inl (G.2.2.1, 300, .inl v_bytes))] s.heap.size = A at hD ⊢
  have hA : ∀ q : Nat, s.heap.size ≤ q → A q := fun q h => by rw [← hAe]; exact Or.inr h
  have hS : va_S A s.heap s.heap [] := va_S.rf
  have hP : va_P G.1 vwCl [(a_this, .inr (7, [.ref a_this_bytes, .int v_length, .int v_token, .int v_place, .int v_number, .int v_next])), (a_this_bytes, .inl (G.2.2.1, 300, .inl v_bytes))] s.heap := hP
  have hl := lv_entry ([.ref a_this, .int g1]) (n := 2) (Nat.le_of_ble_eq_true rfl)
  have hent : entryFrame m args 2 = F0 m 0 ((lg_sl ([.ref a_this, .int g1]) ++ List.replicate (2 - (lg_sl ([.ref a_this, .int g1])).length) Slot.unset).toArray) [] := by rw [hargs]; exact lg_entry_eq m [.ref a_this, .int g1] 2
  refine W.eq hent ?_
  clear hent
  generalize (lg_sl ([.ref a_this, .int g1]) ++ List.replicate (2 - (lg_sl ([.ref a_this, .int g1])).length) Slot.unset).toArray = ls at hl ⊢
  have hl : lv_has ls 2 [(0, .ref a_this), (1, .int g1)] := hl
  generalize hQ : MQ below _ args s 0 0 _ = QQ
  change W p l e rm_X7_append s m args below meth c s.heap [] 0 0 QQ _
  have hSH := hS
  unfold f_X7_append at hf
  refine lv_aload_n hx hb dX7_append_0 rfl (lv_at hl 0 rfl) ?_
  refine lv_iconst (v := (1 : Int32)) hx hb dX7_append_1 (by decide) ?_
  obtain ⟨r5, hu, hf⟩ := bd1_some hf
  refine zRi (va_runV (As := [.int (1 : Int32)]) (rest := []) hC (c_X7_hasRoomFor l G a_this a_this_bytes (v_length) (v_token) (v_place) (v_number) (v_next) ((1 : Int32)) r5 hu) (cwV 1 hts gX7_append_X7_hasRoomFor rfl rfl rfl hd_X7_hasRoomFor ⟨(Nat.le_of_ble_eq_true rfl), (Nat.le_of_ble_eq_true rfl)⟩) (zPV hE hP [0] rfl 0 rfl rfl) rfl rfl hl.1 rfl (lv_room (Nat.le_of_ble_eq_true rfl)) dX7_append_2 ⟨Nat.zero_le _, Nat.zero_le _⟩) ?_
  refine lv_if_ne (tgt := 9) hx hb dX7_append_5 (by decide) (fun hc6 => ?_) (fun hc6 => ?_)
  · have hf := if_f hf hc6
    refine lv_aload_n hx hb dX7_append_9 rfl (lv_at hl 0 rfl) ?_
    refine va_get (D := G.1) (ci := 7) (v := .ref a_this_bytes) (C := RX7) (T := TX7) (N := 6) hx hb hts inX7 hown hK hP 0 rfl rfl 0 (by decide) lk9 (fun _ h9 => h9) rfl dX7_append_10 ?_
    refine lv_aload_n hx hb dX7_append_13 rfl (lv_at hl 0 rfl) ?_
    refine va_get (D := G.1) (ci := 7) (v := .int v_length) (C := RX7) (T := TX7) (N := 6) hx hb hts inX7 hown hK hP 0 rfl rfl 1 (by decide) lk15 (fun _ h9 => h9) rfl dX7_append_14 ?_
    refine lv_iload_n hx hb dX7_append_17 rfl (lv_at hl 1 rfl) ?_
    refine lv_i2c (v := (zi2c g1)) hx hb dX7_append_18 rfl ?_
    obtain ⟨hg7, hf⟩ := gd_some hf
    refine z_cast hx hb hK hP hD hS 1 1 rfl rfl (inB_in hg7) dX7_append_19 (fun gg => [(a_this, .inr (7, [.ref a_this_bytes, .int v_length, .int v_token, .int v_place, .int v_number, .int v_next])), (a_this_bytes, .inl (G.2.2.1, 300, .inl gg))]) (fun gg => rfl) (fun y8 H locs ey8 hP hD hS => ?_)
    have hf := nm_to hf ey8
    have hP : va_P G.1 vwCl [(a_this, .inr (7, [.ref a_this_bytes, .int v_length, .int v_token, .int v_place, .int v_number, .int v_next])), (a_this_bytes, .inl (G.2.2.1, 300, .inl y8))] H := hP
    have hD : va_D A [(a_this, .inr (7, [.ref a_this_bytes, .int v_length, .int v_token, .int v_place, .int v_number, .int v_next])), (a_this_bytes, .inl (G.2.2.1, 300, .inl y8))] := hD
    refine lv_aload_n hx hb dX7_append_20 rfl (lv_at hl 0 rfl) ?_
    refine lv_dup hx hb dX7_append_21 rfl ?_
    refine va_get (D := G.1) (ci := 7) (v := .int v_length) (C := RX7) (T := TX7) (N := 6) hx hb hts inX7 hown hK hP 0 rfl rfl 1 (by decide) lk15 (fun _ h9 => h9) rfl dX7_append_22 ?_
    refine lv_iconst (v := (1 : Int32)) hx hb dX7_append_25 (by decide) ?_
    refine lv_iadd hx hb dX7_append_26 ?_
    refine va_put (D := G.1) (ci := 7) (v := .int (v_length + (1 : Int32))) (ty := .int) (C := RX7) (T := TX7) (N := 6) hx hb hts inX7 tyX7 tyX7_ok nmX7 hown hK hP hD hS 0 rfl rfl 1 (by decide) lk15 (fun _ h9 => h9) rfl (by decide +kernel) rfl rfl (Nat.le_of_ble_eq_true rfl) dX7_append_27 (fun H locs hP hD hS => ?_)
    have hP : va_P G.1 vwCl [(a_this, .inr (7, [.ref a_this_bytes, .int (v_length + (1 : Int32)), .int v_token, .int v_place, .int v_number, .int v_next])), (a_this_bytes, .inl (G.2.2.1, 300, .inl y8))] H := hP
    have hD : va_D A [(a_this, .inr (7, [.ref a_this_bytes, .int (v_length + (1 : Int32)), .int v_token, .int v_place, .int v_number, .int v_next])), (a_this_bytes, .inl (G.2.2.1, 300, .inl y8))] := hD
    obtain ⟨hr0, hr1⟩ := so2 hf
    subst hr0
    subst hr1
    rw [← hQ]
    exact W.vret hx hb hr (fun t ht hW => ⟨⟨rfl, by rw [ht]; exact hP⟩, hS.F ht⟩) hS.2.2 dX7_append_30
  · have hf := if_t hf hc6
    obtain ⟨hr0, hr1⟩ := so2 hf
    subst hr0
    subst hr1
    rw [← hQ]
    exact W.vret hx hb hr (fun t ht hW => ⟨⟨rfl, by rw [ht]; exact hP⟩, hS.F ht⟩) hS.2.2 dX7_append_8
theorem hd_X7_append : yX7_append.cls = RX7 ∧ yX7_append.cls ≠ "java/lang/invoke/MethodHandle" ∧ yX7_append.cls ≠ "java/lang/invoke/VarHandle" ∧ (parseMethodDescriptor yX7_append.desc).map (fun d => d.parameters.length) = some 1 := by decide +kernel
def f_X8_type_b32   (x1 : Int64) : Nat → Int32 → Int32 → (Nat → Int32) → Option (Int32 × Int32 × (Nat → Int32))
  | 0, _, _, _ => none
  | n32 + 1, x4, v_text_length, v_text_bytes => if x4 < (0 : Int32) then (some (v_text_length, v_text_length, v_text_bytes)) else (bd2 (f_X7_append (v_text_length) (v_text_bytes) (((((zlushr x1 ((8 : Int32) * x4))).toInt32) &&& (255 : Int32)))) fun w9 w10 => f_X8_type_b32 x1 n32 ((x4 + (-1 : Int32))) (w9) (w10))
def f_X8_type  (v_text_length : Int32) (v_text_bytes : (Nat → Int32)) (g1 : Int64) (g3 : Int32) : Option (Int32 × Int32 × (Nat → Int32)) := if g3 < (1 : Int32) then (some ((-1 : Int32), v_text_length, v_text_bytes)) else (if g3 ≤ (8 : Int32) then (bd1 (f_X7_hasRoomFor (v_text_length) (g3)) fun r13 => if r13 = (0 : Int32) then (some ((-3 : Int32), v_text_length, v_text_bytes)) else (f_X8_type_b32 (g1) zF ((g3 - (1 : Int32))) (v_text_length) (v_text_bytes))) else (some ((-1 : Int32), v_text_length, v_text_bytes)))
abbrev rm_X8_type : Room := { frames := 2, cells := 0, slots := 0, locals := 42 }
set_option maxHeartbeats 4000000 in
set_option maxRecDepth 100000 in
theorem c_X8_type (l : Launch) (G : zG) (sz : Nat) (a_this : Nat) (a_this_text : Nat) (a_this_text_bytes : Nat) (a_this_reader : Nat) (a_this_told : Nat) (a_this_draft : Nat) (a_this_now : Nat) (a_this_firstImage : Nat) (a_this_secondImage : Nat) (a_this_kept : Nat) (a_this_offers : Nat) (a_this_seen : Nat) (a_this_rents : Nat) (v_traced : Int64) (v_text_length : Int32) (v_text_token : Int32) (v_text_place : Int32) (v_text_number : Int32) (v_text_next : Int32) (v_text_bytes : (Nat → Int32)) (g1 : Int64) (g3 : Int32) (R0 : Int32) (R1 : Int32) (R2 : (Nat → Int32)) (hf : f_X8_type v_text_length v_text_bytes g1 g3 = some (R0, R1, R2)) : Met l yX8_type wsX8_type rm_X8_type (va_Pc [.ref a_this, .long g1, .int g3] (zB G [(a_this, .inr (8, [.ref a_this_text, .ref a_this_reader, .ref a_this_told, .ref a_this_draft, .ref a_this_now, .ref a_this_firstImage, .ref a_this_secondImage, .ref a_this_kept, .ref a_this_offers, .ref a_this_seen, .ref a_this_rents, .long v_traced])), (a_this_text, .inr (7, [.ref a_this_text_bytes, .int v_text_length, .int v_text_token, .int v_text_place, .int v_text_number, .int v_text_next])), (a_this_text_bytes, .inl (G.2.2.1, 300, .inl v_text_bytes))] sz)) (zQ G (some (.int R0)) [(a_this, .inr (8, [.ref a_this_text, .ref a_this_reader, .ref a_this_told, .ref a_this_draft, .ref a_this_now, .ref a_this_firstImage, .ref a_this_secondImage, .ref a_this_kept, .ref a_this_offers, .ref a_this_seen, .ref a_this_rents, .long v_traced])), (a_this_text, .inr (7, [.ref a_this_text_bytes, .int R1, .int v_text_token, .int v_text_place, .int v_text_number, .int v_text_next])), (a_this_text_bytes, .inl (G.2.2.1, 300, .inl R2))] (va_A [(a_this, .inr (8, [.ref a_this_text, .ref a_this_reader, .ref a_this_told, .ref a_this_draft, .ref a_this_now, .ref a_this_firstImage, .ref a_this_secondImage, .ref a_this_kept, .ref a_this_offers, .ref a_this_seen, .ref a_this_rents, .long v_traced])), (a_this_text, .inr (7, [.ref a_this_text_bytes, .int v_text_length, .int v_text_token, .int v_text_place, .int v_text_number, .int v_text_next])), (a_this_text_bytes, .inl (G.2.2.1, 300, .inl v_text_bytes))] sz)) 0 0 (va_A [(a_this, .inr (8, [.ref a_this_text, .ref a_this_reader, .ref a_this_told, .ref a_this_draft, .ref a_this_now, .ref a_this_firstImage, .ref a_this_secondImage, .ref a_this_kept, .ref a_this_offers, .ref a_this_seen, .ref a_this_rents, .long v_traced])), (a_this_text, .inr (7, [.ref a_this_text_bytes, .int v_text_length, .int v_text_token, .int v_text_place, .int v_text_number, .int v_text_next])), (a_this_text_bytes, .inl (G.2.2.1, 300, .inl v_text_bytes))] sz) := by
  refine Met.ofW (cc := cX8_type) (maxL := 5) (ret := (some .int)) (by decide) rfl ?_
  intro p e s m args below meth c s₁ B hml hv
  obtain ⟨hargs, hsz, hP, hD0, hE⟩ := hv
  have hx := B.exec
  have hb := B.bytes
  have hr := B.returns
  have hts := atoms_spec (ws := wsX8_type) B.pre
  have hown : s.vm.findClass RX8 = some m.cls := findClass_of_methodNamed B.named
  have hlocks := B.notSynchronized
  have hK := hE.1
  have hC : CallFix p m c cX8_type 5 s args wsX8_type RX8 := ⟨hx, hb, hml, hown, hts⟩
  have inX7 : ∀ w ∈ wsX70, w ∈ wsX8_type := by decide +kernel
  have inX8 : ∀ w ∈ wsX80, w ∈ wsX8_type := by decide +kernel
  have lk10 := hts (.fieldLink RX8 10 "SkyLeases" "text" "LSkyLeases$Text;") (by decide +kernel)
  have lk84 := hts (.fieldLink RX8 84 "SkyLeases$Text" "length" "I") (by decide +kernel)
  subst hsz
  have hD := hD0.self (sz := s.heap.size)
  generalize hAe : va_A [(a_this, .inr (8, [.ref a_this_text, .ref a_this_reader, .ref a_this_told, .ref a_this_draft, .ref a_this_now, .ref a_this_firstImage, .ref a_this_secondImage, .ref a_this_kept, .ref a_this_offers, .ref a_this_seen, .ref a_this_rents, .long v_traced])), (a_this_text, .inr (7, [.ref a_this_text_bytes, .int v_text_length, .int v_text_token, .int v_text_place, .int v_text_number, .int v_text_next])), (a_this_text_bytes, .inl (G.2.2.1, 300, .inl v_text_bytes))] s.heap.size = A at hD ⊢
  have hA : ∀ q : Nat, s.heap.size ≤ q → A q := fun q h => by rw [← hAe]; exact Or.inr h
  have hS : va_S A s.heap s.heap [] := va_S.rf
  have hP : va_P G.1 vwCl [(a_this, .inr (8, [.ref a_this_text, .ref a_this_reader, .ref a_this_told, .ref a_this_draft, .ref a_this_now, .ref a_this_firstImage, .ref a_this_secondImage, .ref a_this_kept, .ref a_this_offers, .ref a_this_seen, .ref a_this_rents, .long v_traced])), (a_this_text, .inr (7, [.ref a_this_text_bytes, .int v_text_length, .int v_text_token, .int v_text_place, .int v_text_number, .int v_text_next])), (a_this_text_bytes, .inl (G.2.2.1, 300, .inl v_text_bytes))] s.heap := hP
  have hl := lv_entry ([.ref a_this, .long g1, .int g3]) (n := 5) (Nat.le_of_ble_eq_true rfl)
  have hent : entryFrame m args 5 = F0 m 0 ((lg_sl ([.ref a_this, .long g1, .int g3]) ++ List.replicate (5 - (lg_sl ([.ref a_this, .long g1, .int g3])).length) Slot.unset).toArray) [] := by rw [hargs]; exact lg_entry_eq m [.ref a_this, .long g1, .int g3] 5
  refine W.eq hent ?_
  clear hent
  generalize (lg_sl ([.ref a_this, .long g1, .int g3]) ++ List.replicate (5 - (lg_sl ([.ref a_this, .long g1, .int g3])).length) Slot.unset).toArray = ls at hl ⊢
  have hl : lv_has ls 5 [(0, .ref a_this), (1, .long g1), (3, .int g3)] := hl
  generalize hQ : MQ below _ args s 0 0 _ = QQ
  change W p l e rm_X8_type s m args below meth c s.heap [] 0 0 QQ _
  have j32 : ∀ (x1 : Int64), ∀ (nn : Nat), ∀ (x4 : Int32), ∀ (v_text_length : Int32), ∀ (v_text_bytes : (Nat → Int32)), ∀ (ls : Array Slot), lv_has ls 5 [(0, .ref a_this), (1, .long x1), (4, .int x4)] → ∀ (H : Heap) (locs : List Loc), va_P G.1 vwCl [(a_this, .inr (8, [.ref a_this_text, .ref a_this_reader, .ref a_this_told, .ref a_this_draft, .ref a_this_now, .ref a_this_firstImage, .ref a_this_secondImage, .ref a_this_kept, .ref a_this_offers, .ref a_this_seen, .ref a_this_rents, .long v_traced])), (a_this_text, .inr (7, [.ref a_this_text_bytes, .int v_text_length, .int v_text_token, .int v_text_place, .int v_text_number, .int v_text_next])), (a_this_text_bytes, .inl (G.2.2.1, 300, .inl v_text_bytes))] H → va_D A [(a_this, .inr (8, [.ref a_this_text, .ref a_this_reader, .ref a_this_told, .ref a_this_draft, .ref a_this_now, .ref a_this_firstImage, .ref a_this_secondImage, .ref a_this_kept, .ref a_this_offers, .ref a_this_seen, .ref a_this_rents, .long v_traced])), (a_this_text, .inr (7, [.ref a_this_text_bytes, .int v_text_length, .int v_text_token, .int v_text_place, .int v_text_number, .int v_text_next])), (a_this_text_bytes, .inl (G.2.2.1, 300, .inl v_text_bytes))] → va_S A s.heap H locs → f_X8_type_b32 x1 nn x4 v_text_length v_text_bytes = some (R0, R1, R2) → W p l e rm_X8_type s m args below meth c H locs 0 0 QQ (F0 m 32 ls []) := by
    intro x1
    intro nn
    induction nn with
    | zero =>
      intro x4 v_text_length v_text_bytes ls hl H locs hP hD hS hf
      rw [f_X8_type_b32] at hf
      cases hf
    | succ n32 ih =>
      intro x4 v_text_length v_text_bytes ls hl H locs hP hD hS hf
      rw [f_X8_type_b32] at hf
      refine lv_iload hx hb dX8_type_32 (lv_at hl 2 rfl) ?_
      refine lv_if_lt (tgt := 62) hx hb dX8_type_34 (by decide) (fun hc8 => ?_) (fun hc8 => ?_)
      · have hf := if_t hf hc8
        refine lv_aload_n hx hb dX8_type_62 rfl (lv_at hl 0 rfl) ?_
        refine va_get (D := G.1) (ci := 8) (v := .ref a_this_text) (C := RX8) (T := TX8) (N := 12) hx hb hts inX8 hown hK hP 0 rfl rfl 0 (by decide) lk10 (fun _ h9 => h9) rfl dX8_type_63 ?_
        refine va_get (D := G.1) (ci := 7) (v := .int v_text_length) (C := RX7) (T := TX7) (N := 6) hx hb hts inX7 hown hK hP 1 rfl rfl 1 (by decide) lk84 (fun _ h9 => h9) rfl dX8_type_66 ?_
        obtain ⟨hr0, hr1, hr2⟩ := so3 hf
        subst hr0
        subst hr1
        subst hr2
        rw [← hQ]
        exact W.iret (v := v_text_length) hx hb hr (fun t ht hW => ⟨⟨rfl, by rw [ht]; exact hP⟩, hS.F ht⟩) hS.2.2 dX8_type_69
      · have hf := if_f hf hc8
        refine lv_aload_n hx hb dX8_type_37 rfl (lv_at hl 0 rfl) ?_
        refine va_get (D := G.1) (ci := 8) (v := .ref a_this_text) (C := RX8) (T := TX8) (N := 12) hx hb hts inX8 hown hK hP 0 rfl rfl 0 (by decide) lk10 (fun _ h9 => h9) rfl dX8_type_38 ?_
        refine lv_lload_n hx hb dX8_type_41 rfl (lv_at hl 1 rfl) ?_
        refine lv_bipush (v := (8 : Int32)) hx hb dX8_type_42 (by decide) ?_
        refine lv_iload hx hb dX8_type_44 (lv_at hl 2 rfl) ?_
        refine lv_imul hx hb dX8_type_46 ?_
        refine lv_lushr (v := (zlushr x1 ((8 : Int32) * x4))) hx hb dX8_type_47 rfl ?_
        refine lv_l2i (v := (((zlushr x1 ((8 : Int32) * x4))).toInt32)) hx hb dX8_type_48 rfl ?_
        refine lv_sipush (v := (255 : Int32)) hx hb dX8_type_49 (by decide) ?_
        refine lv_iand hx hb dX8_type_52 ?_
        obtain ⟨w9, w10, hu, hf⟩ := bd2_some hf
        refine zWn (wr := [(a_this, .inr (8, [.ref a_this_text, .ref a_this_reader, .ref a_this_told, .ref a_this_draft, .ref a_this_now, .ref a_this_firstImage, .ref a_this_secondImage, .ref a_this_kept, .ref a_this_offers, .ref a_this_seen, .ref a_this_rents, .long v_traced]))]) (ws2 := [(a_this, .inr (8, [.ref a_this_text, .ref a_this_reader, .ref a_this_told, .ref a_this_draft, .ref a_this_now, .ref a_this_firstImage, .ref a_this_secondImage, .ref a_this_kept, .ref a_this_offers, .ref a_this_seen, .ref a_this_rents, .long v_traced])), (a_this_text, .inr (7, [.ref a_this_text_bytes, .int w9, .int v_text_token, .int v_text_place, .int v_text_number, .int v_text_next])), (a_this_text_bytes, .inl (G.2.2.1, 300, .inl w10))]) (va_runV (As := [.int ((((zlushr x1 ((8 : Int32) * x4))).toInt32) &&& (255 : Int32))]) (rest := []) hC (c_X7_append l G _ a_this_text a_this_text_bytes (v_text_length) (v_text_token) (v_text_place) (v_text_number) (v_text_next) (v_text_bytes) (((((zlushr x1 ((8 : Int32) * x4))).toInt32) &&& (255 : Int32))) w9 w10 hu) (cwV 1 hts gX8_type_X7_append rfl rfl rfl hd_X7_append ⟨(Nat.le_of_ble_eq_true rfl), (Nat.le_of_ble_eq_true rfl)⟩) (zPVw hE hP hD [1, 2] rfl rfl 1 rfl rfl) rfl rfl hl.1 rfl (lv_room (Nat.le_of_ble_eq_true rfl)) dX8_type_53 ⟨Nat.zero_le _, Nat.zero_le _⟩) hP hD hS hA [1, 2] [0] [0, 1, 2] rfl rfl rfl rfl (by decide) rfl rfl rfl (fun H locs hP hD hS => ?_)
        refine lv_iinc (v := (x4 + (-1 : Int32))) (lv' := [(4, .int (x4 + (-1 : Int32))), (0, .ref a_this), (1, .long x1)]) hx hb dX8_type_56 hl (k := 2) rfl rfl (by decide) rfl (fun ls hl => ?_)
        refine lv_goto (tgt := 32) hx hb dX8_type_59 (by decide) ?_
        exact ih ((x4 + (-1 : Int32))) (w9) (w10) ls (lv_sub hl [1, 2, 0] rfl) _ _ hP hD hS hf
  have hSH := hS
  unfold f_X8_type at hf
  refine lv_iload_n hx hb dX8_type_0 rfl (lv_at hl 2 rfl) ?_
  refine lv_iconst (v := (1 : Int32)) hx hb dX8_type_1 (by decide) ?_
  refine lv_icmp_lt (tgt := 11) hx hb dX8_type_2 (by decide) (fun hc11 => ?_) (fun hc11 => ?_)
  · have hf := if_t hf hc11
    refine lv_iconst (v := (-1 : Int32)) hx hb dX8_type_11 (by decide) ?_
    obtain ⟨hr0, hr1, hr2⟩ := so3 hf
    subst hr0
    subst hr1
    subst hr2
    rw [← hQ]
    exact W.iret (v := (-1 : Int32)) hx hb hr (fun t ht hW => ⟨⟨rfl, by rw [ht]; exact hP⟩, hS.F ht⟩) hS.2.2 dX8_type_12
  · have hf := if_f hf hc11
    refine lv_iload_n hx hb dX8_type_5 rfl (lv_at hl 2 rfl) ?_
    refine lv_bipush (v := (8 : Int32)) hx hb dX8_type_6 (by decide) ?_
    refine lv_icmp_le (tgt := 13) hx hb dX8_type_8 (by decide) (fun hc12 => ?_) (fun hc12 => ?_)
    · have hf := if_t hf hc12
      refine lv_aload_n hx hb dX8_type_13 rfl (lv_at hl 0 rfl) ?_
      refine va_get (D := G.1) (ci := 8) (v := .ref a_this_text) (C := RX8) (T := TX8) (N := 12) hx hb hts inX8 hown hK hP 0 rfl rfl 0 (by decide) lk10 (fun _ h9 => h9) rfl dX8_type_14 ?_
      refine lv_iload_n hx hb dX8_type_17 rfl (lv_at hl 2 rfl) ?_
      obtain ⟨r13, hu, hf⟩ := bd1_some hf
      refine zRi (va_runV (As := [.int g3]) (rest := []) hC (c_X7_hasRoomFor l G a_this_text a_this_text_bytes (v_text_length) (v_text_token) (v_text_place) (v_text_number) (v_text_next) (g3) r13 hu) (cwV 1 hts gX8_type_X7_hasRoomFor rfl rfl rfl hd_X7_hasRoomFor ⟨(Nat.le_of_ble_eq_true rfl), (Nat.le_of_ble_eq_true rfl)⟩) (zPV hE hP [1] rfl 1 rfl rfl) rfl rfl hl.1 rfl (lv_room (Nat.le_of_ble_eq_true rfl)) dX8_type_18 ⟨Nat.zero_le _, Nat.zero_le _⟩) ?_
      refine lv_if_ne (tgt := 27) hx hb dX8_type_21 (by decide) (fun hc14 => ?_) (fun hc14 => ?_)
      · have hf := if_f hf hc14
        refine lv_iload_n hx hb dX8_type_27 rfl (lv_at hl 2 rfl) ?_
        refine lv_iconst (v := (1 : Int32)) hx hb dX8_type_28 (by decide) ?_
        refine lv_isub hx hb dX8_type_29 ?_
        refine lv_istore (lv' := [(4, .int (g3 - (1 : Int32))), (0, .ref a_this), (1, .long g1), (3, .int g3)]) hx hb dX8_type_30 hl (by decide) rfl (fun ls hl => ?_)
        exact j32 (g1) zF ((g3 - (1 : Int32))) (v_text_length) (v_text_bytes) ls (lv_sub hl [1, 2, 0] rfl) _ _ hP hD hS hf
      · have hf := if_t hf hc14
        refine lv_bipush (v := (-3 : Int32)) hx hb dX8_type_24 (by decide) ?_
        obtain ⟨hr0, hr1, hr2⟩ := so3 hf
        subst hr0
        subst hr1
        subst hr2
        rw [← hQ]
        exact W.iret (v := (-3 : Int32)) hx hb hr (fun t ht hW => ⟨⟨rfl, by rw [ht]; exact hP⟩, hS.F ht⟩) hS.2.2 dX8_type_26
    · have hf := if_f hf hc12
      refine lv_iconst (v := (-1 : Int32)) hx hb dX8_type_11 (by decide) ?_
      obtain ⟨hr0, hr1, hr2⟩ := so3 hf
      subst hr0
      subst hr1
      subst hr2
      rw [← hQ]
      exact W.iret (v := (-1 : Int32)) hx hb hr (fun t ht hW => ⟨⟨rfl, by rw [ht]; exact hP⟩, hS.F ht⟩) hS.2.2 dX8_type_12
