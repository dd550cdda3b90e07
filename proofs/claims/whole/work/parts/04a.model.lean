def f_X9_in   (g0 : Int32) (g1 : Int32) (g2 : Int32) : Option (Int32) := if g0 < g1 then (some ((0 : Int32))) else (if g2 < g0 then (some ((0 : Int32))) else (some ((1 : Int32))))
abbrev rm_X9_in : Room := { frames := 0, cells := 0, slots := 0, locals := 0 }
set_option maxHeartbeats 4000000 in
set_option maxRecDepth 100000 in
theorem c_X9_in (l : Launch) (G : zG) (g0 : Int32) (g1 : Int32) (g2 : Int32) (R0 : Int32) (hf : f_X9_in g0 g1 g2 = some R0) : Met l yX9_in wsX9_in rm_X9_in (va_Pc [.int g0, .int g1, .int g2] (zR G [])) (zSv (some (.int R0))) 0 0 (fun _ => False) := by
  refine Met.ofW (cc := cX9_in) (maxL := 3) (ret := (some .boolean)) (by decide) rfl ?_
  intro p e s m args below meth c s₁ B hml hv
  obtain ⟨hargs, hP, hE⟩ := hv
  have hx := B.exec
  have hb := B.bytes
  have hr := B.returns
  have hts := atoms_spec (ws := wsX9_in) B.pre
  have hown : s.vm.findClass RX9 = some m.cls := findClass_of_methodNamed B.named
  have hlocks := B.notSynchronized
  have hK := hE.1
  have hC : CallFix p m c cX9_in 3 s args wsX9_in RX9 := ⟨hx, hb, hml, hown, hts⟩
  have hl := lv_entry ([.int g0, .int g1, .int g2]) (n := 3) (Nat.le_of_ble_eq_true rfl)
  have hent : entryFrame m args 3 = F0 m 0 ((lg_sl ([.int g0, .int g1, .int g2]) ++ List.replicate (3 - (lg_sl ([.int g0, .int g1, .int g2])).length) Slot.unset).toArray) [] := by rw [hargs]; exact lg_entry_eq m [.int g0, .int g1, .int g2] 3
  refine W.eq hent ?_
  clear hent
  generalize (lg_sl ([.int g0, .int g1, .int g2]) ++ List.replicate (3 - (lg_sl ([.int g0, .int g1, .int g2])).length) Slot.unset).toArray = ls at hl ⊢
  have hl : lv_has ls 3 [(0, .int g0), (1, .int g1), (2, .int g2)] := hl
  generalize hQ : MQ below _ args s 0 0 _ = QQ
  change W p l e rm_X9_in s m args below meth c s.heap [] 0 0 QQ _
  unfold f_X9_in at hf
  refine lv_iload_n hx hb dX9_in_0 rfl (lv_at hl 0 rfl) ?_
  refine lv_iload_n hx hb dX9_in_1 rfl (lv_at hl 1 rfl) ?_
  refine lv_icmp_lt (tgt := 14) hx hb dX9_in_2 (by decide) (fun hc3 => ?_) (fun hc3 => ?_)
  · have hf := if_t hf hc3
    refine lv_iconst (v := (0 : Int32)) hx hb dX9_in_14 (by decide) ?_
    have hr0 := so1 hf
    subst hr0
    rw [← hQ]
    exact W.zret (v := (0 : Int32)) hx hb hr rfl (fun t ht hW => ⟨rfl, ht⟩) (fun _ h => by cases h) dX9_in_15
  · have hf := if_f hf hc3
    refine lv_iload_n hx hb dX9_in_5 rfl (lv_at hl 0 rfl) ?_
    refine lv_iload_n hx hb dX9_in_6 rfl (lv_at hl 2 rfl) ?_
    refine lv_icmp_gt (tgt := 14) hx hb dX9_in_7 (by decide) (fun hc4 => ?_) (fun hc4 => ?_)
    · have hf := if_t hf hc4
      refine lv_iconst (v := (0 : Int32)) hx hb dX9_in_14 (by decide) ?_
      have hr0 := so1 hf
      subst hr0
      rw [← hQ]
      exact W.zret (v := (0 : Int32)) hx hb hr rfl (fun t ht hW => ⟨rfl, ht⟩) (fun _ h => by cases h) dX9_in_15
    · have hf := if_f hf hc4
      refine lv_iconst (v := (1 : Int32)) hx hb dX9_in_10 (by decide) ?_
      refine lv_goto (tgt := 15) hx hb dX9_in_11 (by decide) ?_
      have hr0 := so1 hf
      subst hr0
      rw [← hQ]
      exact W.zret (v := (1 : Int32)) hx hb hr rfl (fun t ht hW => ⟨rfl, ht⟩) (fun _ h => by cases h) dX9_in_15
theorem hd_X9_in : yX9_in.cls = RX9 ∧ yX9_in.cls ≠ "java/lang/invoke/MethodHandle" ∧ yX9_in.cls ≠ "java/lang/invoke/VarHandle" ∧ (parseMethodDescriptor yX9_in.desc).map (fun d => d.parameters.length) = some 3 := by decide +kernel
def f_X9_type_b37   (x1 : Int64) (v_thrown : Int32) : Nat → Int32 → Int32 → (Nat → Int32) → Option (Int32 × Int32 × Int32 × (Nat → Int32))
  | 0, _, _, _ => none
  | n37 + 1, x4, v_typed, v_text => if x4 < (0 : Int32) then (some (v_typed, v_thrown, v_typed, v_text)) else (gd (inB v_typed 300) (nm (upd v_text (v_typed).toNatClampNeg ((((zlshr x1 ((8 : Int32) * x4)) &&& (255 : Int64))).toInt32)) fun y9 => f_X9_type_b37 x1 v_thrown n37 ((x4 + (-1 : Int32))) ((v_typed + (1 : Int32))) (y9)))
def f_X9_type  (v_thrown : Int32) (v_typed : Int32) (v_text : (Nat → Int32)) (g1 : Int64) (g3 : Int32) : Option (Int32 × Int32 × Int32 × (Nat → Int32)) := bd1 (f_X9_in (g3) ((1 : Int32)) ((8 : Int32))) fun r10 => if r10 = (0 : Int32) then (some ((-1 : Int32), (0 : Int32), v_typed, v_text)) else (if (v_typed + g3) ≤ (300 : Int32) then (f_X9_type_b37 (g1) ((0 : Int32)) zF ((g3 - (1 : Int32))) (v_typed) (v_text)) else (some ((-3 : Int32), (0 : Int32), v_typed, v_text)))
abbrev rm_X9_type : Room := { frames := 1, cells := 0, slots := 0, locals := 22 }
set_option maxHeartbeats 4000000 in
set_option maxRecDepth 100000 in
theorem c_X9_type (l : Launch) (G : zG) (sz : Nat) (a_this : Nat) (a_this_text : Nat) (a_this_stars : Nat) (a_this_purses : Nat) (a_this_leases : Nat) (a_this_s : Nat) (a_this_kept : Nat) (a_this_isKept : Nat) (a_this_offers : Nat) (a_this_seen : Nat) (v_thrown : Int32) (v_trace : Int64) (v_typed : Int32) (v_next : Int32) (v_token : Int32) (v_place : Int32) (v_value : Int32) (v_fault : Int32) (v_squares : Int32) (v_starMany : Int32) (v_tenants : Int32) (v_draftSquares : Int32) (v_draftStars : Int32) (v_draftTenants : Int32) (v_draftLeases : Int32) (v_offerMany : Int32) (v_seenMany : Int32) (v_text : (Nat → Int32)) (g1 : Int64) (g3 : Int32) (R0 : Int32) (R1 : Int32) (R2 : Int32) (R3 : (Nat → Int32)) (hf : f_X9_type v_thrown v_typed v_text g1 g3 = some (R0, R1, R2, R3)) : Met l yX9_type wsX9_type rm_X9_type (va_Pc [.ref a_this, .long g1, .int g3] (zB G [(a_this, .inr (9, [.int v_thrown, .long v_trace, .ref a_this_text, .int v_typed, .int v_next, .int v_token, .int v_place, .int v_value, .int v_fault, .int v_squares, .ref a_this_stars, .ref a_this_purses, .ref a_this_leases, .int v_starMany, .int v_tenants, .int v_draftSquares, .int v_draftStars, .int v_draftTenants, .int v_draftLeases, .ref a_this_s, .ref a_this_kept, .ref a_this_isKept, .ref a_this_offers, .int v_offerMany, .ref a_this_seen, .int v_seenMany])), (a_this_text, .inl (G.2.1, 300, .inl v_text))] sz)) (zQ G (some (.int R0)) [(a_this, .inr (9, [.int R1, .long v_trace, .ref a_this_text, .int R2, .int v_next, .int v_token, .int v_place, .int v_value, .int v_fault, .int v_squares, .ref a_this_stars, .ref a_this_purses, .ref a_this_leases, .int v_starMany, .int v_tenants, .int v_draftSquares, .int v_draftStars, .int v_draftTenants, .int v_draftLeases, .ref a_this_s, .ref a_this_kept, .ref a_this_isKept, .ref a_this_offers, .int v_offerMany, .ref a_this_seen, .int v_seenMany])), (a_this_text, .inl (G.2.1, 300, .inl R3))] (va_A [(a_this, .inr (9, [.int v_thrown, .long v_trace, .ref a_this_text, .int v_typed, .int v_next, .int v_token, .int v_place, .int v_value, .int v_fault, .int v_squares, .ref a_this_stars, .ref a_this_purses, .ref a_this_leases, .int v_starMany, .int v_tenants, .int v_draftSquares, .int v_draftStars, .int v_draftTenants, .int v_draftLeases, .ref a_this_s, .ref a_this_kept, .ref a_this_isKept, .ref a_this_offers, .int v_offerMany, .ref a_this_seen, .int v_seenMany])), (a_this_text, .inl (G.2.1, 300, .inl v_text))] sz)) 0 0 (va_A [(a_this, .inr (9, [.int v_thrown, .long v_trace, .ref a_this_text, .int v_typed, .int v_next, .int v_token, .int v_place, .int v_value, .int v_fault, .int v_squares, .ref a_this_stars, .ref a_this_purses, .ref a_this_leases, .int v_starMany, .int v_tenants, .int v_draftSquares, .int v_draftStars, .int v_draftTenants, .int v_draftLeases, .ref a_this_s, .ref a_this_kept, .ref a_this_isKept, .ref a_this_offers, .int v_offerMany, .ref a_this_seen, .int v_seenMany])), (a_this_text, .inl (G.2.1, 300, .inl v_text))] sz) := by
  refine Met.ofW (cc := cX9_type) (maxL := 5) (ret := (some .int)) (by decide) rfl ?_
  intro p e s m args below meth c s₁ B hml hv
  obtain ⟨hargs, hsz, hP, hD0, hE⟩ := hv
  have hx := B.exec
  have hb := B.bytes
  have hr := B.returns
  have hts := atoms_spec (ws := wsX9_type) B.pre
  have hown : s.vm.findClass RX9 = some m.cls := findClass_of_methodNamed B.named
  have hlocks := B.notSynchronized
  have hK := hE.1
  have hC : CallFix p m c cX9_type 5 s args wsX9_type RX9 := ⟨hx, hb, hml, hown, hts⟩
  have inX9 : ∀ w ∈ wsX90, w ∈ wsX9_type := by decide +kernel
  have lk7 := hts (.fieldLink RX9 7 "SkyLeasesModel" "text" "[I") (by decide +kernel)
  have lk42 := hts (.fieldLink RX9 42 "SkyLeasesModel" "thrown" "I") (by decide +kernel)
  have lk49 := hts (.fieldLink RX9 49 "SkyLeasesModel" "typed" "I") (by decide +kernel)
  subst hsz
  have hD := hD0.self (sz := s.heap.size)
  generalize hAe : va_A [(a_this, .inr (9, [.int v_thrown, .long v_trace, .ref a_this_text, .int v_typed, .int v_next, .int v_token, .int v_place, .int v_value, .int v_fault, .int v_squares, .ref a_this_stars, .ref a_this_purses, .ref a_this_leases, .int v_starMany, .int v_tenants, .int v_draftSquares, .int v_draftStars, .int v_draftTenants, .int v_draftLeases, .ref a_this_s, .ref a_this_kept, .ref a_this_isKept, .ref a_this_offers, .int v_offerMany, .ref a_this_seen, .int v_seenMany])), (a_this_text, .inl (G.2.1, 300, .inl v_text))] s.heap.size = A at hD ⊢
  have hA : ∀ q : Nat, s.heap.size ≤ q → A q := fun q h => by rw [← hAe]; exact Or.inr h
  have hS : va_S A s.heap s.heap [] := va_S.rf
  have hP : va_P G.1 vwCl [(a_this, .inr (9, [.int v_thrown, .long v_trace, .ref a_this_text, .int v_typed, .int v_next, .int v_token, .int v_place, .int v_value, .int v_fault, .int v_squares, .ref a_this_stars, .ref a_this_purses, .ref a_this_leases, .int v_starMany, .int v_tenants, .int v_draftSquares, .int v_draftStars, .int v_draftTenants, .int v_draftLeases, .ref a_this_s, .ref a_this_kept, .ref a_this_isKept, .ref a_this_offers, .int v_offerMany, .ref a_this_seen, .int v_seenMany])), (a_this_text, .inl (G.2.1, 300, .inl v_text))] s.heap := hP
  have hl := lv_entry ([.ref a_this, .long g1, .int g3]) (n := 5) (Nat.le_of_ble_eq_true rfl)
  have hent : entryFrame m args 5 = F0 m 0 ((lg_sl ([.ref a_this, .long g1, .int g3]) ++ List.replicate (5 - (lg_sl ([.ref a_this, .long g1, .int g3])).length) Slot.unset).toArray) [] := by rw [hargs]; exact lg_entry_eq m [.ref a_this, .long g1, .int g3] 5
  refine W.eq hent ?_
  clear hent
  generalize (lg_sl ([.ref a_this, .long g1, .int g3]) ++ List.replicate (5 - (lg_sl ([.ref a_this, .long g1, .int g3])).length) Slot.unset).toArray = ls at hl ⊢
  have hl : lv_has ls 5 [(0, .ref a_this), (1, .long g1), (3, .int g3)] := hl
  generalize hQ : MQ below _ args s 0 0 _ = QQ
  change W p l e rm_X9_type s m args below meth c s.heap [] 0 0 QQ _
  have j37 : ∀ (x1 : Int64), ∀ (v_thrown : Int32), ∀ (nn : Nat), ∀ (x4 : Int32), ∀ (v_typed : Int32), ∀ (v_text : (Nat → Int32)), ∀ (ls : Array Slot), lv_has ls 5 [(0, .ref a_this), (1, .long x1), (4, .int x4)] → ∀ (H : Heap) (locs : List Loc), va_P G.1 vwCl [(a_this, .inr (9, [.int v_thrown, .long v_trace, .ref a_this_text, .int v_typed, .int v_next, .int v_token, .int v_place, .int v_value, .int v_fault, .int v_squares, .ref a_this_stars, .ref a_this_purses, .ref a_this_leases, .int v_starMany, .int v_tenants, .int v_draftSquares, .int v_draftStars, .int v_draftTenants, .int v_draftLeases, .ref a_this_s, .ref a_this_kept, .ref a_this_isKept, .ref a_this_offers, .int v_offerMany, .ref a_this_seen, .int v_seenMany])), (a_this_text, .inl (G.2.1, 300, .inl v_text))] H → va_D A [(a_this, .inr (9, [.int v_thrown, .long v_trace, .ref a_this_text, .int v_typed, .int v_next, .int v_token, .int v_place, .int v_value, .int v_fault, .int v_squares, .ref a_this_stars, .ref a_this_purses, .ref a_this_leases, .int v_starMany, .int v_tenants, .int v_draftSquares, .int v_draftStars, .int v_draftTenants, .int v_draftLeases, .ref a_this_s, .ref a_this_kept, .ref a_this_isKept, .ref a_this_offers, .int v_offerMany, .ref a_this_seen, .int v_seenMany])), (a_this_text, .inl (G.2.1, 300, .inl v_text))] → va_S A s.heap H locs → f_X9_type_b37 x1 v_thrown nn x4 v_typed v_text = some (R0, R1, R2, R3) → W p l e rm_X9_type s m args below meth c H locs 0 0 QQ (F0 m 37 ls []) := by
    intro x1 v_thrown
    intro nn
    induction nn with
    | zero =>
      intro x4 v_typed v_text ls hl H locs hP hD hS hf
      rw [f_X9_type_b37] at hf
      cases hf
    | succ n37 ih =>
      intro x4 v_typed v_text ls hl H locs hP hD hS hf
      rw [f_X9_type_b37] at hf
      refine lv_iload hx hb dX9_type_37 (lv_at hl 2 rfl) ?_
      refine lv_if_lt (tgt := 79) hx hb dX9_type_39 (by decide) (fun hc7 => ?_) (fun hc7 => ?_)
      · have hf := if_t hf hc7
        refine lv_aload_n hx hb dX9_type_79 rfl (lv_at hl 0 rfl) ?_
        refine va_get (D := G.1) (ci := 9) (v := .int v_typed) (C := RX9) (T := TX9) (N := 26) hx hb hts inX9 hown hK hP 0 rfl rfl 3 (by decide) lk49 (fun _ h9 => h9) rfl dX9_type_80 ?_
        obtain ⟨hr0, hr1, hr2, hr3⟩ := so4 hf
        subst hr0
        subst hr1
        subst hr2
        subst hr3
        rw [← hQ]
        exact W.iret (v := v_typed) hx hb hr (fun t ht hW => ⟨⟨rfl, by rw [ht]; exact hP⟩, hS.F ht⟩) hS.2.2 dX9_type_83
      · have hf := if_f hf hc7
        refine lv_aload_n hx hb dX9_type_42 rfl (lv_at hl 0 rfl) ?_
        refine va_get (D := G.1) (ci := 9) (v := .ref a_this_text) (C := RX9) (T := TX9) (N := 26) hx hb hts inX9 hown hK hP 0 rfl rfl 2 (by decide) lk7 (fun _ h9 => h9) rfl dX9_type_43 ?_
        refine lv_aload_n hx hb dX9_type_46 rfl (lv_at hl 0 rfl) ?_
        refine va_get (D := G.1) (ci := 9) (v := .int v_typed) (C := RX9) (T := TX9) (N := 26) hx hb hts inX9 hown hK hP 0 rfl rfl 3 (by decide) lk49 (fun _ h9 => h9) rfl dX9_type_47 ?_
        refine lv_lload_n hx hb dX9_type_50 rfl (lv_at hl 1 rfl) ?_
        refine lv_bipush (v := (8 : Int32)) hx hb dX9_type_51 (by decide) ?_
        refine lv_iload hx hb dX9_type_53 (lv_at hl 2 rfl) ?_
        refine lv_imul hx hb dX9_type_55 ?_
        refine lv_lshr (v := (zlshr x1 ((8 : Int32) * x4))) hx hb dX9_type_56 rfl ?_
        refine lv_ldc2 (own := RX9) (index := 52) (v := (255 : Int64)) hx hb hown (hts (.constantLong RX9 52 (255)) (by decide +kernel)) dX9_type_57 ?_
        refine lv_land hx hb dX9_type_60 ?_
        refine lv_l2i (v := ((((zlshr x1 ((8 : Int32) * x4)) &&& (255 : Int64))).toInt32)) hx hb dX9_type_61 rfl ?_
        obtain ⟨hg8, hf⟩ := gd_some hf
        refine z_iast hx hb hK hP hD hS 1 0 rfl rfl (inB_in hg8) dX9_type_62 (fun gg => [(a_this, .inr (9, [.int v_thrown, .long v_trace, .ref a_this_text, .int v_typed, .int v_next, .int v_token, .int v_place, .int v_value, .int v_fault, .int v_squares, .ref a_this_stars, .ref a_this_purses, .ref a_this_leases, .int v_starMany, .int v_tenants, .int v_draftSquares, .int v_draftStars, .int v_draftTenants, .int v_draftLeases, .ref a_this_s, .ref a_this_kept, .ref a_this_isKept, .ref a_this_offers, .int v_offerMany, .ref a_this_seen, .int v_seenMany])), (a_this_text, .inl (G.2.1, 300, .inl gg))]) (fun gg => rfl) (fun y9 H locs ey9 hP hD hS => ?_)
        have hf := nm_to hf ey9
        have hP : va_P G.1 vwCl [(a_this, .inr (9, [.int v_thrown, .long v_trace, .ref a_this_text, .int v_typed, .int v_next, .int v_token, .int v_place, .int v_value, .int v_fault, .int v_squares, .ref a_this_stars, .ref a_this_purses, .ref a_this_leases, .int v_starMany, .int v_tenants, .int v_draftSquares, .int v_draftStars, .int v_draftTenants, .int v_draftLeases, .ref a_this_s, .ref a_this_kept, .ref a_this_isKept, .ref a_this_offers, .int v_offerMany, .ref a_this_seen, .int v_seenMany])), (a_this_text, .inl (G.2.1, 300, .inl y9))] H := hP
        have hD : va_D A [(a_this, .inr (9, [.int v_thrown, .long v_trace, .ref a_this_text, .int v_typed, .int v_next, .int v_token, .int v_place, .int v_value, .int v_fault, .int v_squares, .ref a_this_stars, .ref a_this_purses, .ref a_this_leases, .int v_starMany, .int v_tenants, .int v_draftSquares, .int v_draftStars, .int v_draftTenants, .int v_draftLeases, .ref a_this_s, .ref a_this_kept, .ref a_this_isKept, .ref a_this_offers, .int v_offerMany, .ref a_this_seen, .int v_seenMany])), (a_this_text, .inl (G.2.1, 300, .inl y9))] := hD
        refine lv_aload_n hx hb dX9_type_63 rfl (lv_at hl 0 rfl) ?_
        refine lv_dup hx hb dX9_type_64 rfl ?_
        refine va_get (D := G.1) (ci := 9) (v := .int v_typed) (C := RX9) (T := TX9) (N := 26) hx hb hts inX9 hown hK hP 0 rfl rfl 3 (by decide) lk49 (fun _ h9 => h9) rfl dX9_type_65 ?_
        refine lv_iconst (v := (1 : Int32)) hx hb dX9_type_68 (by decide) ?_
        refine lv_iadd hx hb dX9_type_69 ?_
        refine va_put (D := G.1) (ci := 9) (v := .int (v_typed + (1 : Int32))) (ty := .int) (C := RX9) (T := TX9) (N := 26) hx hb hts inX9 tyX9 tyX9_ok nmX9 hown hK hP hD hS 0 rfl rfl 3 (by decide) lk49 (fun _ h9 => h9) rfl (by decide +kernel) rfl rfl (Nat.le_of_ble_eq_true rfl) dX9_type_70 (fun H locs hP hD hS => ?_)
        have hP : va_P G.1 vwCl [(a_this, .inr (9, [.int v_thrown, .long v_trace, .ref a_this_text, .int (v_typed + (1 : Int32)), .int v_next, .int v_token, .int v_place, .int v_value, .int v_fault, .int v_squares, .ref a_this_stars, .ref a_this_purses, .ref a_this_leases, .int v_starMany, .int v_tenants, .int v_draftSquares, .int v_draftStars, .int v_draftTenants, .int v_draftLeases, .ref a_this_s, .ref a_this_kept, .ref a_this_isKept, .ref a_this_offers, .int v_offerMany, .ref a_this_seen, .int v_seenMany])), (a_this_text, .inl (G.2.1, 300, .inl y9))] H := hP
        have hD : va_D A [(a_this, .inr (9, [.int v_thrown, .long v_trace, .ref a_this_text, .int (v_typed + (1 : Int32)), .int v_next, .int v_token, .int v_place, .int v_value, .int v_fault, .int v_squares, .ref a_this_stars, .ref a_this_purses, .ref a_this_leases, .int v_starMany, .int v_tenants, .int v_draftSquares, .int v_draftStars, .int v_draftTenants, .int v_draftLeases, .ref a_this_s, .ref a_this_kept, .ref a_this_isKept, .ref a_this_offers, .int v_offerMany, .ref a_this_seen, .int v_seenMany])), (a_this_text, .inl (G.2.1, 300, .inl y9))] := hD
        refine lv_iinc (v := (x4 + (-1 : Int32))) (lv' := [(4, .int (x4 + (-1 : Int32))), (0, .ref a_this), (1, .long x1)]) hx hb dX9_type_73 hl (k := 2) rfl rfl (by decide) rfl (fun ls hl => ?_)
        refine lv_goto (tgt := 37) hx hb dX9_type_76 (by decide) ?_
        exact ih ((x4 + (-1 : Int32))) ((v_typed + (1 : Int32))) (y9) ls (lv_sub hl [1, 2, 0] rfl) _ _ hP hD hS hf
  have hSH := hS
  unfold f_X9_type at hf
  refine lv_aload_n hx hb dX9_type_0 rfl (lv_at hl 0 rfl) ?_
  refine lv_iconst (v := (0 : Int32)) hx hb dX9_type_1 (by decide) ?_
  refine va_put (D := G.1) (ci := 9) (v := .int (0 : Int32)) (ty := .int) (C := RX9) (T := TX9) (N := 26) hx hb hts inX9 tyX9 tyX9_ok nmX9 hown hK hP hD hS 0 rfl rfl 0 (by decide) lk42 (fun _ h9 => h9) rfl (by decide +kernel) rfl rfl (Nat.le_of_ble_eq_true rfl) dX9_type_2 (fun H locs hP hD hS => ?_)
  have hP : va_P G.1 vwCl [(a_this, .inr (9, [.int (0 : Int32), .long v_trace, .ref a_this_text, .int v_typed, .int v_next, .int v_token, .int v_place, .int v_value, .int v_fault, .int v_squares, .ref a_this_stars, .ref a_this_purses, .ref a_this_leases, .int v_starMany, .int v_tenants, .int v_draftSquares, .int v_draftStars, .int v_draftTenants, .int v_draftLeases, .ref a_this_s, .ref a_this_kept, .ref a_this_isKept, .ref a_this_offers, .int v_offerMany, .ref a_this_seen, .int v_seenMany])), (a_this_text, .inl (G.2.1, 300, .inl v_text))] H := hP
  have hD : va_D A [(a_this, .inr (9, [.int (0 : Int32), .long v_trace, .ref a_this_text, .int v_typed, .int v_next, .int v_token, .int v_place, .int v_value, .int v_fault, .int v_squares, .ref a_this_stars, .ref a_this_purses, .ref a_this_leases, .int v_starMany, .int v_tenants, .int v_draftSquares, .int v_draftStars, .int v_draftTenants, .int v_draftLeases, .ref a_this_s, .ref a_this_kept, .ref a_this_isKept, .ref a_this_offers, .int v_offerMany, .ref a_this_seen, .int v_seenMany])), (a_this_text, .inl (G.2.1, 300, .inl v_text))] := hD
  refine lv_iload_n hx hb dX9_type_5 rfl (lv_at hl 2 rfl) ?_
  refine lv_iconst (v := (1 : Int32)) hx hb dX9_type_6 (by decide) ?_
  refine lv_bipush (v := (8 : Int32)) hx hb dX9_type_7 (by decide) ?_
  obtain ⟨r10, hu, hf⟩ := bd1_some hf
  refine zRi (va_runS (As := [.int g3, .int (1 : Int32), .int (8 : Int32)]) (rest := []) hC (c_X9_in l G (g3) ((1 : Int32)) ((8 : Int32)) r10 hu) (va_cwS 3 hts gX9_type_X9_in rfl rfl rfl hd_X9_in.2 ⟨(Nat.le_of_ble_eq_true rfl), (Nat.le_of_ble_eq_true rfl)⟩) (zPS hE hP [] rfl) rfl rfl hl.1 rfl (lv_room (Nat.le_of_ble_eq_true rfl)) dX9_type_9 ⟨Nat.zero_le _, Nat.zero_le _⟩) ?_
  refine lv_if_ne (tgt := 17) hx hb dX9_type_12 (by decide) (fun hc11 => ?_) (fun hc11 => ?_)
  · have hf := if_f hf hc11
    refine lv_aload_n hx hb dX9_type_17 rfl (lv_at hl 0 rfl) ?_
    refine va_get (D := G.1) (ci := 9) (v := .int v_typed) (C := RX9) (T := TX9) (N := 26) hx hb hts inX9 hown hK hP 0 rfl rfl 3 (by decide) lk49 (fun _ h9 => h9) rfl dX9_type_18 ?_
    refine lv_iload_n hx hb dX9_type_21 rfl (lv_at hl 2 rfl) ?_
    refine lv_iadd hx hb dX9_type_22 ?_
    refine lv_sipush (v := (300 : Int32)) hx hb dX9_type_23 (by decide) ?_
    refine lv_icmp_le (tgt := 32) hx hb dX9_type_26 (by decide) (fun hc12 => ?_) (fun hc12 => ?_)
    · have hf := if_t hf hc12
      refine lv_iload_n hx hb dX9_type_32 rfl (lv_at hl 2 rfl) ?_
      refine lv_iconst (v := (1 : Int32)) hx hb dX9_type_33 (by decide) ?_
      refine lv_isub hx hb dX9_type_34 ?_
      refine lv_istore (lv' := [(4, .int (g3 - (1 : Int32))), (0, .ref a_this), (1, .long g1), (3, .int g3)]) hx hb dX9_type_35 hl (by decide) rfl (fun ls hl => ?_)
      exact j37 (g1) ((0 : Int32)) zF ((g3 - (1 : Int32))) (v_typed) (v_text) ls (lv_sub hl [1, 2, 0] rfl) _ _ hP hD hS hf
    · have hf := if_f hf hc12
      refine lv_bipush (v := (-3 : Int32)) hx hb dX9_type_29 (by decide) ?_
      obtain ⟨hr0, hr1, hr2, hr3⟩ := so4 hf
      subst hr0
      subst hr1
      subst hr2
      subst hr3
      rw [← hQ]
      exact W.iret (v := (-3 : Int32)) hx hb hr (fun t ht hW => ⟨⟨rfl, by rw [ht]; exact hP⟩, hS.F ht⟩) hS.2.2 dX9_type_31
  · have hf := if_t hf hc11
    refine lv_iconst (v := (-1 : Int32)) hx hb dX9_type_15 (by decide) ?_
    obtain ⟨hr0, hr1, hr2, hr3⟩ := so4 hf
    subst hr0
    subst hr1
    subst hr2
    subst hr3
    rw [← hQ]
    exact W.iret (v := (-1 : Int32)) hx hb hr (fun t ht hW => ⟨⟨rfl, by rw [ht]; exact hP⟩, hS.F ht⟩) hS.2.2 dX9_type_16
def f_X9_clear  (v_thrown : Int32) (v_typed : Int32)  : Option (Int32 × Int32 × Int32) := some (v_typed, (0 : Int32), (0 : Int32))
abbrev rm_X9_clear : Room := { frames := 0, cells := 0, slots := 0, locals := 0 }
set_option maxHeartbeats 4000000 in
set_option maxRecDepth 100000 in
theorem c_X9_clear (l : Launch) (G : zG) (sz : Nat) (a_this : Nat) (a_this_text : Nat) (a_this_stars : Nat) (a_this_purses : Nat) (a_this_leases : Nat) (a_this_s : Nat) (a_this_kept : Nat) (a_this_isKept : Nat) (a_this_offers : Nat) (a_this_seen : Nat) (v_thrown : Int32) (v_trace : Int64) (v_typed : Int32) (v_next : Int32) (v_token : Int32) (v_place : Int32) (v_value : Int32) (v_fault : Int32) (v_squares : Int32) (v_starMany : Int32) (v_tenants : Int32) (v_draftSquares : Int32) (v_draftStars : Int32) (v_draftTenants : Int32) (v_draftLeases : Int32) (v_offerMany : Int32) (v_seenMany : Int32) (R0 : Int32) (R1 : Int32) (R2 : Int32) (hf : f_X9_clear v_thrown v_typed = some (R0, R1, R2)) : Met l yX9_clear wsX9_clear rm_X9_clear (va_Pc [.ref a_this] (zB G [(a_this, .inr (9, [.int v_thrown, .long v_trace, .ref a_this_text, .int v_typed, .int v_next, .int v_token, .int v_place, .int v_value, .int v_fault, .int v_squares, .ref a_this_stars, .ref a_this_purses, .ref a_this_leases, .int v_starMany, .int v_tenants, .int v_draftSquares, .int v_draftStars, .int v_draftTenants, .int v_draftLeases, .ref a_this_s, .ref a_this_kept, .ref a_this_isKept, .ref a_this_offers, .int v_offerMany, .ref a_this_seen, .int v_seenMany]))] sz)) (zQ G (some (.int R0)) [(a_this, .inr (9, [.int R1, .long v_trace, .ref a_this_text, .int R2, .int v_next, .int v_token, .int v_place, .int v_value, .int v_fault, .int v_squares, .ref a_this_stars, .ref a_this_purses, .ref a_this_leases, .int v_starMany, .int v_tenants, .int v_draftSquares, .int v_draftStars, .int v_draftTenants, .int v_draftLeases, .ref a_this_s, .ref a_this_kept, .ref a_this_isKept, .ref a_this_offers, .int v_offerMany, .ref a_this_seen, .int v_seenMany]))] (va_A [(a_this, .inr (9, [.int v_thrown, .long v_trace, .ref a_this_text, .int v_typed, .int v_next, .int v_token, .int v_place, .int v_value, .int v_fault, .int v_squares, .ref a_this_stars, .ref a_this_purses, .ref a_this_leases, .int v_starMany, .int v_tenants, .int v_draftSquares, .int v_draftStars, .int v_draftTenants, .int v_draftLeases, .ref a_this_s, .ref a_this_kept, .ref a_this_isKept, .ref a_this_offers, .int v_offerMany, .ref a_this_seen, .int v_seenMany]))] sz)) 0 0 (va_A [(a_this, .inr (9, [.int v_thrown, .long v_trace, .ref a_this_text, .int v_typed, .int v_next, .int v_token, .int v_place, .int v_value, .int v_fault, .int v_squares, .ref a_this_stars, .ref a_this_purses, .ref a_this_leases, .int v_starMany, .int v_tenants, .int v_draftSquares, .int v_draftStars, .int v_draftTenants, .int v_draftLeases, .ref a_this_s, .ref a_this_kept, .ref a_this_isKept, .ref a_this_offers, .int v_offerMany, .ref a_this_seen, .int v_seenMany]))] sz) := by
  refine Met.ofW (cc := cX9_clear) (maxL := 2) (ret := (some .int)) (by decide) rfl ?_
  intro p e s m args below meth c s₁ B hml hv
  obtain ⟨hargs, hsz, hP, hD0, hE⟩ := hv
  have hx := B.exec
  have hb := B.bytes
  have hr := B.returns
  have hts := atoms_spec (ws := wsX9_clear) B.pre
  have hown : s.vm.findClass RX9 = some m.cls := findClass_of_methodNamed B.named
  have hlocks := B.notSynchronized
  have hK := hE.1
  have hC : CallFix p m c cX9_clear 2 s args wsX9_clear RX9 := ⟨hx, hb, hml, hown, hts⟩
  have inX9 : ∀ w ∈ wsX90, w ∈ wsX9_clear := by decide +kernel
  have lk42 := hts (.fieldLink RX9 42 "SkyLeasesModel" "thrown" "I") (by decide +kernel)
  have lk49 := hts (.fieldLink RX9 49 "SkyLeasesModel" "typed" "I") (by decide +kernel)
  subst hsz
  have hD := hD0.self (sz := s.heap.size)
  generalize hAe : va_A [(a_this, .inr (9, [.int v_thrown, .long v_trace, .ref a_this_text, .int v_typed, .int v_next, .int v_token, .int v_place, .int v_value, .int v_fault, .int v_squares, .ref a_this_stars, .ref a_this_purses, .ref a_this_leases, .int v_starMany, .int v_tenants, .int v_draftSquares, .int v_draftStars, .int v_draftTenants, .int v_draftLeases, .ref a_this_s, .ref a_this_kept, .ref a_this_isKept, .ref a_this_offers, .int v_offerMany, .ref a_this_seen, .int v_seenMany]))] s.heap.size = A at hD ⊢
  have hA : ∀ q : Nat, s.heap.size ≤ q → A q := fun q h => by rw [← hAe]; exact Or.inr h
  have hS : va_S A s.heap s.heap [] := va_S.rf
  have hP : va_P G.1 vwCl [(a_this, .inr (9, [.int v_thrown, .long v_trace, .ref a_this_text, .int v_typed, .int v_next, .int v_token, .int v_place, .int v_value, .int v_fault, .int v_squares, .ref a_this_stars, .ref a_this_purses, .ref a_this_leases, .int v_starMany, .int v_tenants, .int v_draftSquares, .int v_draftStars, .int v_draftTenants, .int v_draftLeases, .ref a_this_s, .ref a_this_kept, .ref a_this_isKept, .ref a_this_offers, .int v_offerMany, .ref a_this_seen, .int v_seenMany]))] s.heap := hP
  have hl := lv_entry ([.ref a_this]) (n := 2) (Nat.le_of_ble_eq_true rfl)
  have hent : entryFrame m args 2 = F0 m 0 ((lg_sl ([.ref a_this]) ++ List.replicate (2 - (lg_sl ([.ref a_this])).length) Slot.unset).toArray) [] := by rw [hargs]; exact lg_entry_eq m [.ref a_this] 2
  refine W.eq hent ?_
  clear hent
  generalize (lg_sl ([.ref a_this]) ++ List.replicate (2 - (lg_sl ([.ref a_this])).length) Slot.unset).toArray = ls at hl ⊢
  have hl : lv_has ls 2 [(0, .ref a_this)] := hl
  generalize hQ : MQ below _ args s 0 0 _ = QQ
  change W p l e rm_X9_clear s m args below meth c s.heap [] 0 0 QQ _
  have hSH := hS
  unfold f_X9_clear at hf
  refine lv_aload_n hx hb dX9_clear_0 rfl (lv_at hl 0 rfl) ?_
  refine lv_iconst (v := (0 : Int32)) hx hb dX9_clear_1 (by decide) ?_
  refine va_put (D := G.1) (ci := 9) (v := .int (0 : Int32)) (ty := .int) (C := RX9) (T := TX9) (N := 26) hx hb hts inX9 tyX9 tyX9_ok nmX9 hown hK hP hD hS 0 rfl rfl 0 (by decide) lk42 (fun _ h9 => h9) rfl (by decide +kernel) rfl rfl (Nat.le_of_ble_eq_true rfl) dX9_clear_2 (fun H locs hP hD hS => ?_)
  have hP : va_P G.1 vwCl [(a_this, .inr (9, [.int (0 : Int32), .long v_trace, .ref a_this_text, .int v_typed, .int v_next, .int v_token, .int v_place, .int v_value, .int v_fault, .int v_squares, .ref a_this_stars, .ref a_this_purses, .ref a_this_leases, .int v_starMany, .int v_tenants, .int v_draftSquares, .int v_draftStars, .int v_draftTenants, .int v_draftLeases, .ref a_this_s, .ref a_this_kept, .ref a_this_isKept, .ref a_this_offers, .int v_offerMany, .ref a_this_seen, .int v_seenMany]))] H := hP
  have hD : va_D A [(a_this, .inr (9, [.int (0 : Int32), .long v_trace, .ref a_this_text, .int v_typed, .int v_next, .int v_token, .int v_place, .int v_value, .int v_fault, .int v_squares, .ref a_this_stars, .ref a_this_purses, .ref a_this_leases, .int v_starMany, .int v_tenants, .int v_draftSquares, .int v_draftStars, .int v_draftTenants, .int v_draftLeases, .ref a_this_s, .ref a_this_kept, .ref a_this_isKept, .ref a_this_offers, .int v_offerMany, .ref a_this_seen, .int v_seenMany]))] := hD
  refine lv_aload_n hx hb dX9_clear_5 rfl (lv_at hl 0 rfl) ?_
  refine va_get (D := G.1) (ci := 9) (v := .int v_typed) (C := RX9) (T := TX9) (N := 26) hx hb hts inX9 hown hK hP 0 rfl rfl 3 (by decide) lk49 (fun _ h9 => h9) rfl dX9_clear_6 ?_
  refine lv_istore_n (lv' := [(1, .int v_typed), (0, .ref a_this)]) hx hb dX9_clear_9 rfl hl (by decide) rfl (fun ls hl => ?_)
  refine lv_aload_n hx hb dX9_clear_10 rfl (lv_at hl 1 rfl) ?_
  refine lv_iconst (v := (0 : Int32)) hx hb dX9_clear_11 (by decide) ?_
  refine va_put (D := G.1) (ci := 9) (v := .int (0 : Int32)) (ty := .int) (C := RX9) (T := TX9) (N := 26) hx hb hts inX9 tyX9 tyX9_ok nmX9 hown hK hP hD hS 0 rfl rfl 3 (by decide) lk49 (fun _ h9 => h9) rfl (by decide +kernel) rfl rfl (Nat.le_of_ble_eq_true rfl) dX9_clear_12 (fun H locs hP hD hS => ?_)
  have hP : va_P G.1 vwCl [(a_this, .inr (9, [.int (0 : Int32), .long v_trace, .ref a_this_text, .int (0 : Int32), .int v_next, .int v_token, .int v_place, .int v_value, .int v_fault, .int v_squares, .ref a_this_stars, .ref a_this_purses, .ref a_this_leases, .int v_starMany, .int v_tenants, .int v_draftSquares, .int v_draftStars, .int v_draftTenants, .int v_draftLeases, .ref a_this_s, .ref a_this_kept, .ref a_this_isKept, .ref a_this_offers, .int v_offerMany, .ref a_this_seen, .int v_seenMany]))] H := hP
  have hD : va_D A [(a_this, .inr (9, [.int (0 : Int32), .long v_trace, .ref a_this_text, .int (0 : Int32), .int v_next, .int v_token, .int v_place, .int v_value, .int v_fault, .int v_squares, .ref a_this_stars, .ref a_this_purses, .ref a_this_leases, .int v_starMany, .int v_tenants, .int v_draftSquares, .int v_draftStars, .int v_draftTenants, .int v_draftLeases, .ref a_this_s, .ref a_this_kept, .ref a_this_isKept, .ref a_this_offers, .int v_offerMany, .ref a_this_seen, .int v_seenMany]))] := hD
  refine lv_iload_n hx hb dX9_clear_15 rfl (lv_at hl 0 rfl) ?_
  obtain ⟨hr0, hr1, hr2⟩ := so3 hf
  subst hr0
  subst hr1
  subst hr2
  rw [← hQ]
  exact W.iret (v := v_typed) hx hb hr (fun t ht hW => ⟨⟨rfl, by rw [ht]; exact hP⟩, hS.F ht⟩) hS.2.2 dX9_clear_16
def f_X9_byteAt  (v_typed : Int32) (v_text : (Nat → Int32)) (g1 : Int32) : Option (Int32) := if v_typed ≤ g1 then (some ((-1 : Int32))) else (gd (inB g1 300) (some ((v_text (g1).toNatClampNeg))))
abbrev rm_X9_byteAt : Room := { frames := 0, cells := 0, slots := 0, locals := 0 }
set_option maxHeartbeats 4000000 in
set_option maxRecDepth 100000 in
theorem c_X9_byteAt (l : Launch) (G : zG) (a_this : Nat) (a_this_text : Nat) (a_this_stars : Nat) (a_this_purses : Nat) (a_this_leases : Nat) (a_this_s : Nat) (a_this_kept : Nat) (a_this_isKept : Nat) (a_this_offers : Nat) (a_this_seen : Nat) (v_thrown : Int32) (v_trace : Int64) (v_typed : Int32) (v_next : Int32) (v_token : Int32) (v_place : Int32) (v_value : Int32) (v_fault : Int32) (v_squares : Int32) (v_starMany : Int32) (v_tenants : Int32) (v_draftSquares : Int32) (v_draftStars : Int32) (v_draftTenants : Int32) (v_draftLeases : Int32) (v_offerMany : Int32) (v_seenMany : Int32) (v_text : (Nat → Int32)) (g1 : Int32) (R0 : Int32) (hf : f_X9_byteAt v_typed v_text g1 = some R0) : Met l yX9_byteAt wsX9_byteAt rm_X9_byteAt (va_Pc [.ref a_this, .int g1] (zR G [(a_this, .inr (9, [.int v_thrown, .long v_trace, .ref a_this_text, .int v_typed, .int v_next, .int v_token, .int v_place, .int v_value, .int v_fault, .int v_squares, .ref a_this_stars, .ref a_this_purses, .ref a_this_leases, .int v_starMany, .int v_tenants, .int v_draftSquares, .int v_draftStars, .int v_draftTenants, .int v_draftLeases, .ref a_this_s, .ref a_this_kept, .ref a_this_isKept, .ref a_this_offers, .int v_offerMany, .ref a_this_seen, .int v_seenMany])), (a_this_text, .inl (G.2.1, 300, .inl v_text))])) (zSv (some (.int R0))) 0 0 (fun _ => False) := by
  refine Met.ofW (cc := cX9_byteAt) (maxL := 2) (ret := (some .int)) (by decide) rfl ?_
  intro p e s m args below meth c s₁ B hml hv
  obtain ⟨hargs, hP, hE⟩ := hv
  have hx := B.exec
  have hb := B.bytes
  have hr := B.returns
  have hts := atoms_spec (ws := wsX9_byteAt) B.pre
  have hown : s.vm.findClass RX9 = some m.cls := findClass_of_methodNamed B.named
  have hlocks := B.notSynchronized
  have hK := hE.1
  have hC : CallFix p m c cX9_byteAt 2 s args wsX9_byteAt RX9 := ⟨hx, hb, hml, hown, hts⟩
  have inX9 : ∀ w ∈ wsX90, w ∈ wsX9_byteAt := by decide +kernel
  have lk7 := hts (.fieldLink RX9 7 "SkyLeasesModel" "text" "[I") (by decide +kernel)
  have lk49 := hts (.fieldLink RX9 49 "SkyLeasesModel" "typed" "I") (by decide +kernel)
  have hl := lv_entry ([.ref a_this, .int g1]) (n := 2) (Nat.le_of_ble_eq_true rfl)
  have hent : entryFrame m args 2 = F0 m 0 ((lg_sl ([.ref a_this, .int g1]) ++ List.replicate (2 - (lg_sl ([.ref a_this, .int g1])).length) Slot.unset).toArray) [] := by rw [hargs]; exact lg_entry_eq m [.ref a_this, .int g1] 2
  refine W.eq hent ?_
  clear hent
  generalize (lg_sl ([.ref a_this, .int g1]) ++ List.replicate (2 - (lg_sl ([.ref a_this, .int g1])).length) Slot.unset).toArray = ls at hl ⊢
  have hl : lv_has ls 2 [(0, .ref a_this), (1, .int g1)] := hl
  generalize hQ : MQ below _ args s 0 0 _ = QQ
  change W p l e rm_X9_byteAt s m args below meth c s.heap [] 0 0 QQ _
  unfold f_X9_byteAt at hf
  refine lv_iload_n hx hb dX9_byteAt_0 rfl (lv_at hl 1 rfl) ?_
  refine lv_aload_n hx hb dX9_byteAt_1 rfl (lv_at hl 0 rfl) ?_
  refine va_get (D := G.1) (ci := 9) (v := .int v_typed) (C := RX9) (T := TX9) (N := 26) hx hb hts inX9 hown hK hP 0 rfl rfl 3 (by decide) lk49 (fun _ h9 => h9) rfl dX9_byteAt_2 ?_
  refine lv_icmp_ge (tgt := 17) hx hb dX9_byteAt_5 (by decide) (fun hc3 => ?_) (fun hc3 => ?_)
  · have hf := if_t hf hc3
    refine lv_iconst (v := (-1 : Int32)) hx hb dX9_byteAt_17 (by decide) ?_
    have hr0 := so1 hf
    subst hr0
    rw [← hQ]
    exact W.iret (v := (-1 : Int32)) hx hb hr (fun t ht hW => ⟨rfl, ht⟩) (fun _ h => by cases h) dX9_byteAt_18
  · have hf := if_f hf hc3
    refine lv_aload_n hx hb dX9_byteAt_8 rfl (lv_at hl 0 rfl) ?_
    refine va_get (D := G.1) (ci := 9) (v := .ref a_this_text) (C := RX9) (T := TX9) (N := 26) hx hb hts inX9 hown hK hP 0 rfl rfl 2 (by decide) lk7 (fun _ h9 => h9) rfl dX9_byteAt_9 ?_
    refine lv_iload_n hx hb dX9_byteAt_12 rfl (lv_at hl 1 rfl) ?_
    obtain ⟨hg4, hf⟩ := gd_some hf
    refine va_iald hx hb hK hP 1 0 rfl rfl (inB_in hg4) dX9_byteAt_13 ?_
    refine lv_goto (tgt := 18) hx hb dX9_byteAt_14 (by decide) ?_
    have hr0 := so1 hf
    subst hr0
    rw [← hQ]
    exact W.iret (v := (v_text (g1).toNatClampNeg)) hx hb hr (fun t ht hW => ⟨rfl, ht⟩) (fun _ h => by cases h) dX9_byteAt_18
def f_X9_add   (g0 : Int64) (g2 : Int32) : Option (Int64) := if g2 = (0 : Int32) then (some (g0)) else (some ((((256 : Int64) * g0) + ((g2).toInt64))))
abbrev rm_X9_add : Room := { frames := 0, cells := 0, slots := 0, locals := 0 }
set_option maxHeartbeats 4000000 in
set_option maxRecDepth 100000 in
theorem c_X9_add (l : Launch) (G : zG) (g0 : Int64) (g2 : Int32) (R0 : Int64) (hf : f_X9_add g0 g2 = some R0) : Met l yX9_add wsX9_add rm_X9_add (va_Pc [.long g0, .int g2] (zR G [])) (zSv (some (.long R0))) 0 0 (fun _ => False) := by
  refine Met.ofW (cc := cX9_add) (maxL := 3) (ret := (some .long)) (by decide) rfl ?_
  intro p e s m args below meth c s₁ B hml hv
  obtain ⟨hargs, hP, hE⟩ := hv
  have hx := B.exec
  have hb := B.bytes
  have hr := B.returns
  have hts := atoms_spec (ws := wsX9_add) B.pre
  have hown : s.vm.findClass RX9 = some m.cls := findClass_of_methodNamed B.named
  have hlocks := B.notSynchronized
  have hK := hE.1
  have hC : CallFix p m c cX9_add 3 s args wsX9_add RX9 := ⟨hx, hb, hml, hown, hts⟩
  have hl := lv_entry ([.long g0, .int g2]) (n := 3) (Nat.le_of_ble_eq_true rfl)
  have hent : entryFrame m args 3 = F0 m 0 ((lg_sl ([.long g0, .int g2]) ++ List.replicate (3 - (lg_sl ([.long g0, .int g2])).length) Slot.unset).toArray) [] := by rw [hargs]; exact lg_entry_eq m [.long g0, .int g2] 3
  refine W.eq hent ?_
  clear hent
  generalize (lg_sl ([.long g0, .int g2]) ++ List.replicate (3 - (lg_sl ([.long g0, .int g2])).length) Slot.unset).toArray = ls at hl ⊢
  have hl : lv_has ls 3 [(0, .long g0), (2, .int g2)] := hl
  generalize hQ : MQ below _ args s 0 0 _ = QQ
  change W p l e rm_X9_add s m args below meth c s.heap [] 0 0 QQ _
  unfold f_X9_add at hf
  refine lv_iload_n hx hb dX9_add_0 rfl (lv_at hl 1 rfl) ?_
  refine lv_if_ne (tgt := 8) hx hb dX9_add_1 (by decide) (fun hc2 => ?_) (fun hc2 => ?_)
  · have hf := if_f hf hc2
    refine lv_ldc2 (own := RX9) (index := 54) (v := (256 : Int64)) hx hb hown (hts (.constantLong RX9 54 (256)) (by decide +kernel)) dX9_add_8 ?_
    refine lv_lload_n hx hb dX9_add_11 rfl (lv_at hl 0 rfl) ?_
    refine lv_lmul hx hb dX9_add_12 ?_
    refine lv_iload_n hx hb dX9_add_13 rfl (lv_at hl 1 rfl) ?_
    refine lv_i2l (v := ((g2).toInt64)) hx hb dX9_add_14 rfl ?_
    refine lv_ladd hx hb dX9_add_15 ?_
    have hr0 := so1 hf
    subst hr0
    rw [← hQ]
    exact W.lret (v := (((256 : Int64) * g0) + ((g2).toInt64))) hx hb hr (fun t ht hW => ⟨rfl, ht⟩) (fun _ h => by cases h) dX9_add_16
  · have hf := if_t hf hc2
    refine lv_lload_n hx hb dX9_add_4 rfl (lv_at hl 0 rfl) ?_
    refine lv_goto (tgt := 16) hx hb dX9_add_5 (by decide) ?_
    have hr0 := so1 hf
    subst hr0
    rw [← hQ]
    exact W.lret (v := g0) hx hb hr (fun t ht hW => ⟨rfl, ht⟩) (fun _ h => by cases h) dX9_add_16
theorem hd_X9_add : yX9_add.cls = RX9 ∧ yX9_add.cls ≠ "java/lang/invoke/MethodHandle" ∧ yX9_add.cls ≠ "java/lang/invoke/VarHandle" ∧ (parseMethodDescriptor yX9_add.desc).map (fun d => d.parameters.length) = some 2 := by decide +kernel
def f_X9_named   (g0 : Int32) (g1 : Int32) (g2 : Int32) (g3 : Int32) (g4 : Int32) (g5 : Int32) : Option (Int64) := bd1 (f_X9_add ((0 : Int64)) (g0)) fun r7 => bd1 (f_X9_add (r7) (g1)) fun r8 => bd1 (f_X9_add (r8) (g2)) fun r9 => bd1 (f_X9_add (r9) (g3)) fun r10 => bd1 (f_X9_add (r10) (g4)) fun r11 => bd1 (f_X9_add (r11) (g5)) fun r12 => some (r12)
abbrev rm_X9_named : Room := { frames := 1, cells := 0, slots := 0, locals := 22 }
set_option maxHeartbeats 4000000 in
set_option maxRecDepth 100000 in
theorem c_X9_named (l : Launch) (G : zG) (g0 : Int32) (g1 : Int32) (g2 : Int32) (g3 : Int32) (g4 : Int32) (g5 : Int32) (R0 : Int64) (hf : f_X9_named g0 g1 g2 g3 g4 g5 = some R0) : Met l yX9_named wsX9_named rm_X9_named (va_Pc [.int g0, .int g1, .int g2, .int g3, .int g4, .int g5] (zR G [])) (zSv (some (.long R0))) 0 0 (fun _ => False) := by
  refine Met.ofW (cc := cX9_named) (maxL := 6) (ret := (some .long)) (by decide) rfl ?_
  intro p e s m args below meth c s₁ B hml hv
  obtain ⟨hargs, hP, hE⟩ := hv
  have hx := B.exec
  have hb := B.bytes
  have hr := B.returns
  have hts := atoms_spec (ws := wsX9_named) B.pre
  have hown : s.vm.findClass RX9 = some m.cls := findClass_of_methodNamed B.named
  have hlocks := B.notSynchronized
  have hK := hE.1
  have hC : CallFix p m c cX9_named 6 s args wsX9_named RX9 := ⟨hx, hb, hml, hown, hts⟩
  have hl := lv_entry ([.int g0, .int g1, .int g2, .int g3, .int g4, .int g5]) (n := 6) (Nat.le_of_ble_eq_true rfl)
  have hent : entryFrame m args 6 = F0 m 0 ((lg_sl ([.int g0, .int g1, .int g2, .int g3, .int g4, .int g5]) ++ List.replicate (6 - (lg_sl ([.int g0, .int g1, .int g2, .int g3, .int g4, .int g5])).length) Slot.unset).toArray) [] := by rw [hargs]; exact lg_entry_eq m [.int g0, .int g1, .int g2, .int g3, .int g4, .int g5] 6
  refine W.eq hent ?_
  clear hent
  generalize (lg_sl ([.int g0, .int g1, .int g2, .int g3, .int g4, .int g5]) ++ List.replicate (6 - (lg_sl ([.int g0, .int g1, .int g2, .int g3, .int g4, .int g5])).length) Slot.unset).toArray = ls at hl ⊢
  have hl : lv_has ls 6 [(0, .int g0), (1, .int g1), (2, .int g2), (3, .int g3), (4, .int g4), (5, .int g5)] := hl
  generalize hQ : MQ below _ args s 0 0 _ = QQ
  change W p l e rm_X9_named s m args below meth c s.heap [] 0 0 QQ _
  unfold f_X9_named at hf
  refine lv_lconst (v := (0 : Int64)) hx hb dX9_named_0 (by decide) ?_
  refine lv_iload_n hx hb dX9_named_1 rfl (lv_at hl 0 rfl) ?_
  obtain ⟨r7, hu, hf⟩ := bd1_some hf
  refine zRl (va_runS (As := [.long (0 : Int64), .int g0]) (rest := []) hC (c_X9_add l G ((0 : Int64)) (g0) r7 hu) (va_cwS 2 hts gX9_named_X9_add rfl rfl rfl hd_X9_add.2 ⟨(Nat.le_of_ble_eq_true rfl), (Nat.le_of_ble_eq_true rfl)⟩) (zPS hE hP [] rfl) rfl rfl hl.1 rfl (lv_room (Nat.le_of_ble_eq_true rfl)) dX9_named_2 ⟨Nat.zero_le _, Nat.zero_le _⟩) ?_
  refine lv_iload_n hx hb dX9_named_5 rfl (lv_at hl 1 rfl) ?_
  obtain ⟨r8, hu, hf⟩ := bd1_some hf
  refine zRl (va_runS (As := [.long r7, .int g1]) (rest := []) hC (c_X9_add l G (r7) (g1) r8 hu) (va_cwS 2 hts gX9_named_X9_add rfl rfl rfl hd_X9_add.2 ⟨(Nat.le_of_ble_eq_true rfl), (Nat.le_of_ble_eq_true rfl)⟩) (zPS hE hP [] rfl) rfl rfl hl.1 rfl (lv_room (Nat.le_of_ble_eq_true rfl)) dX9_named_6 ⟨Nat.zero_le _, Nat.zero_le _⟩) ?_
  refine lv_iload_n hx hb dX9_named_9 rfl (lv_at hl 2 rfl) ?_
  obtain ⟨r9, hu, hf⟩ := bd1_some hf
  refine zRl (va_runS (As := [.long r8, .int g2]) (rest := []) hC (c_X9_add l G (r8) (g2) r9 hu) (va_cwS 2 hts gX9_named_X9_add rfl rfl rfl hd_X9_add.2 ⟨(Nat.le_of_ble_eq_true rfl), (Nat.le_of_ble_eq_true rfl)⟩) (zPS hE hP [] rfl) rfl rfl hl.1 rfl (lv_room (Nat.le_of_ble_eq_true rfl)) dX9_named_10 ⟨Nat.zero_le _, Nat.zero_le _⟩) ?_
  refine lv_iload_n hx hb dX9_named_13 rfl (lv_at hl 3 rfl) ?_
  obtain ⟨r10, hu, hf⟩ := bd1_some hf
  refine zRl (va_runS (As := [.long r9, .int g3]) (rest := []) hC (c_X9_add l G (r9) (g3) r10 hu) (va_cwS 2 hts gX9_named_X9_add rfl rfl rfl hd_X9_add.2 ⟨(Nat.le_of_ble_eq_true rfl), (Nat.le_of_ble_eq_true rfl)⟩) (zPS hE hP [] rfl) rfl rfl hl.1 rfl (lv_room (Nat.le_of_ble_eq_true rfl)) dX9_named_14 ⟨Nat.zero_le _, Nat.zero_le _⟩) ?_
  refine lv_iload hx hb dX9_named_17 (lv_at hl 4 rfl) ?_
  obtain ⟨r11, hu, hf⟩ := bd1_some hf
  refine zRl (va_runS (As := [.long r10, .int g4]) (rest := []) hC (c_X9_add l G (r10) (g4) r11 hu) (va_cwS 2 hts gX9_named_X9_add rfl rfl rfl hd_X9_add.2 ⟨(Nat.le_of_ble_eq_true rfl), (Nat.le_of_ble_eq_true rfl)⟩) (zPS hE hP [] rfl) rfl rfl hl.1 rfl (lv_room (Nat.le_of_ble_eq_true rfl)) dX9_named_19 ⟨Nat.zero_le _, Nat.zero_le _⟩) ?_
  refine lv_iload hx hb dX9_named_22 (lv_at hl 5 rfl) ?_
  obtain ⟨r12, hu, hf⟩ := bd1_some hf
  refine zRl (va_runS (As := [.long r11, .int g5]) (rest := []) hC (c_X9_add l G (r11) (g5) r12 hu) (va_cwS 2 hts gX9_named_X9_add rfl rfl rfl hd_X9_add.2 ⟨(Nat.le_of_ble_eq_true rfl), (Nat.le_of_ble_eq_true rfl)⟩) (zPS hE hP [] rfl) rfl rfl hl.1 rfl (lv_room (Nat.le_of_ble_eq_true rfl)) dX9_named_24 ⟨Nat.zero_le _, Nat.zero_le _⟩) ?_
  have hr0 := so1 hf
  subst hr0
  rw [← hQ]
  exact W.lret (v := r12) hx hb hr (fun t ht hW => ⟨rfl, ht⟩) (fun _ h => by cases h) dX9_named_27
theorem hd_X9_named : yX9_named.cls = RX9 ∧ yX9_named.cls ≠ "java/lang/invoke/MethodHandle" ∧ yX9_named.cls ≠ "java/lang/invoke/VarHandle" ∧ (parseMethodDescriptor yX9_named.desc).map (fun d => d.parameters.length) = some 6 := by decide +kernel
def f_X9_wordOf_b45    (x0 : Int64) (t0 : Int32) : Option (Int32) := if t0 = (-9 : Int32) then (bd1 (f_X9_named ((116 : Int32)) ((101 : Int32)) ((110 : Int32)) ((97 : Int32)) ((110 : Int32)) ((116 : Int32))) fun r11 => if (lg_cmp x0 r11) = (0 : Int32) then (some ((2 : Int32))) else (bd1 (f_X9_named ((108 : Int32)) ((101 : Int32)) ((97 : Int32)) ((115 : Int32)) ((101 : Int32)) ((0 : Int32))) fun r13 => if (lg_cmp x0 r13) = (0 : Int32) then (some ((3 : Int32))) else (some ((-9 : Int32))))) else (some (t0))
def f_X9_wordOf   (g0 : Int64) : Option (Int32) := bd1 (f_X9_named ((115 : Int32)) ((107 : Int32)) ((121 : Int32)) ((0 : Int32)) ((0 : Int32)) ((0 : Int32))) fun r15 => if (lg_cmp g0 r15) = (0 : Int32) then (f_X9_wordOf_b45 (g0) ((0 : Int32))) else (bd1 (f_X9_named ((115 : Int32)) ((116 : Int32)) ((97 : Int32)) ((114 : Int32)) ((0 : Int32)) ((0 : Int32))) fun r17 => if (lg_cmp g0 r17) = (0 : Int32) then (f_X9_wordOf_b45 (g0) ((1 : Int32))) else (f_X9_wordOf_b45 (g0) ((-9 : Int32))))
abbrev rm_X9_wordOf : Room := { frames := 2, cells := 0, slots := 0, locals := 47 }
set_option maxHeartbeats 4000000 in
set_option maxRecDepth 100000 in
theorem c_X9_wordOf (l : Launch) (G : zG) (g0 : Int64) (R0 : Int32) (hf : f_X9_wordOf g0 = some R0) : Met l yX9_wordOf wsX9_wordOf rm_X9_wordOf (va_Pc [.long g0] (zR G [])) (zSv (some (.int R0))) 0 0 (fun _ => False) := by
  refine Met.ofW (cc := cX9_wordOf) (maxL := 3) (ret := (some .int)) (by decide) rfl ?_
  intro p e s m args below meth c s₁ B hml hv
  obtain ⟨hargs, hP, hE⟩ := hv
  have hx := B.exec
  have hb := B.bytes
  have hr := B.returns
  have hts := atoms_spec (ws := wsX9_wordOf) B.pre
  have hown : s.vm.findClass RX9 = some m.cls := findClass_of_methodNamed B.named
  have hlocks := B.notSynchronized
  have hK := hE.1
  have hC : CallFix p m c cX9_wordOf 3 s args wsX9_wordOf RX9 := ⟨hx, hb, hml, hown, hts⟩
  have hl := lv_entry ([.long g0]) (n := 3) (Nat.le_of_ble_eq_true rfl)
  have hent : entryFrame m args 3 = F0 m 0 ((lg_sl ([.long g0]) ++ List.replicate (3 - (lg_sl ([.long g0])).length) Slot.unset).toArray) [] := by rw [hargs]; exact lg_entry_eq m [.long g0] 3
  refine W.eq hent ?_
  clear hent
  generalize (lg_sl ([.long g0]) ++ List.replicate (3 - (lg_sl ([.long g0])).length) Slot.unset).toArray = ls at hl ⊢
  have hl : lv_has ls 3 [(0, .long g0)] := hl
  generalize hQ : MQ below _ args s 0 0 _ = QQ
  change W p l e rm_X9_wordOf s m args below meth c s.heap [] 0 0 QQ _
  have j45 : ∀ (x0 : Int64), ∀ (t0 : Int32), ∀ (ls : Array Slot), lv_has ls 3 [(0, .long x0)] → f_X9_wordOf_b45 x0 t0 = some R0 → W p l e rm_X9_wordOf s m args below meth c s.heap [] 0 0 QQ (F0 m 45 ls [.int t0]) := by
    intro x0 t0 ls hl hf
    unfold f_X9_wordOf_b45 at hf
    refine lv_istore_n (lv' := [(2, .int t0), (0, .long x0)]) hx hb dX9_wordOf_45 rfl hl (by decide) rfl (fun ls hl => ?_)
    refine lv_iload_n hx hb dX9_wordOf_46 rfl (lv_at hl 0 rfl) ?_
    refine lv_bipush (v := (-9 : Int32)) hx hb dX9_wordOf_47 (by decide) ?_
    refine lv_icmp_eq (tgt := 56) hx hb dX9_wordOf_49 (by decide) (fun hc10 => ?_) (fun hc10 => ?_)
    · have hf := if_t hf hc10
      refine lv_lload_n hx hb dX9_wordOf_56 rfl (lv_at hl 1 rfl) ?_
      refine lv_bipush (v := (116 : Int32)) hx hb dX9_wordOf_57 (by decide) ?_
      refine lv_bipush (v := (101 : Int32)) hx hb dX9_wordOf_59 (by decide) ?_
      refine lv_bipush (v := (110 : Int32)) hx hb dX9_wordOf_61 (by decide) ?_
      refine lv_bipush (v := (97 : Int32)) hx hb dX9_wordOf_63 (by decide) ?_
      refine lv_bipush (v := (110 : Int32)) hx hb dX9_wordOf_65 (by decide) ?_
      refine lv_bipush (v := (116 : Int32)) hx hb dX9_wordOf_67 (by decide) ?_
      obtain ⟨r11, hu, hf⟩ := bd1_some hf
      refine zRl (va_runS (As := [.int (116 : Int32), .int (101 : Int32), .int (110 : Int32), .int (97 : Int32), .int (110 : Int32), .int (116 : Int32)]) (rest := [.long x0]) hC (c_X9_named l G ((116 : Int32)) ((101 : Int32)) ((110 : Int32)) ((97 : Int32)) ((110 : Int32)) ((116 : Int32)) r11 hu) (va_cwS 6 hts gX9_wordOf_X9_named rfl rfl rfl hd_X9_named.2 ⟨(Nat.le_of_ble_eq_true rfl), (Nat.le_of_ble_eq_true rfl)⟩) (zPS hE hP [] rfl) rfl rfl hl.1 rfl (lv_room (Nat.le_of_ble_eq_true rfl)) dX9_wordOf_69 ⟨Nat.zero_le _, Nat.zero_le _⟩) ?_
      refine W.lcmp hx hb dX9_wordOf_72 ?_
      refine lv_if_ne (tgt := 80) hx hb dX9_wordOf_73 (by decide) (fun hc12 => ?_) (fun hc12 => ?_)
      · have hf := if_f hf hc12
        refine lv_lload_n hx hb dX9_wordOf_80 rfl (lv_at hl 1 rfl) ?_
        refine lv_bipush (v := (108 : Int32)) hx hb dX9_wordOf_81 (by decide) ?_
        refine lv_bipush (v := (101 : Int32)) hx hb dX9_wordOf_83 (by decide) ?_
        refine lv_bipush (v := (97 : Int32)) hx hb dX9_wordOf_85 (by decide) ?_
        refine lv_bipush (v := (115 : Int32)) hx hb dX9_wordOf_87 (by decide) ?_
        refine lv_bipush (v := (101 : Int32)) hx hb dX9_wordOf_89 (by decide) ?_
        refine lv_iconst (v := (0 : Int32)) hx hb dX9_wordOf_91 (by decide) ?_
        obtain ⟨r13, hu, hf⟩ := bd1_some hf
        refine zRl (va_runS (As := [.int (108 : Int32), .int (101 : Int32), .int (97 : Int32), .int (115 : Int32), .int (101 : Int32), .int (0 : Int32)]) (rest := [.long x0]) hC (c_X9_named l G ((108 : Int32)) ((101 : Int32)) ((97 : Int32)) ((115 : Int32)) ((101 : Int32)) ((0 : Int32)) r13 hu) (va_cwS 6 hts gX9_wordOf_X9_named rfl rfl rfl hd_X9_named.2 ⟨(Nat.le_of_ble_eq_true rfl), (Nat.le_of_ble_eq_true rfl)⟩) (zPS hE hP [] rfl) rfl rfl hl.1 rfl (lv_room (Nat.le_of_ble_eq_true rfl)) dX9_wordOf_92 ⟨Nat.zero_le _, Nat.zero_le _⟩) ?_
        refine W.lcmp hx hb dX9_wordOf_95 ?_
        refine lv_if_ne (tgt := 103) hx hb dX9_wordOf_96 (by decide) (fun hc14 => ?_) (fun hc14 => ?_)
        · have hf := if_f hf hc14
          refine lv_bipush (v := (-9 : Int32)) hx hb dX9_wordOf_103 (by decide) ?_
          have hr0 := so1 hf
          subst hr0
          rw [← hQ]
          exact W.iret (v := (-9 : Int32)) hx hb hr (fun t ht hW => ⟨rfl, ht⟩) (fun _ h => by cases h) dX9_wordOf_105
        · have hf := if_t hf hc14
          refine lv_iconst (v := (3 : Int32)) hx hb dX9_wordOf_99 (by decide) ?_
          refine lv_goto (tgt := 105) hx hb dX9_wordOf_100 (by decide) ?_
          have hr0 := so1 hf
          subst hr0
          rw [← hQ]
          exact W.iret (v := (3 : Int32)) hx hb hr (fun t ht hW => ⟨rfl, ht⟩) (fun _ h => by cases h) dX9_wordOf_105
      · have hf := if_t hf hc12
        refine lv_iconst (v := (2 : Int32)) hx hb dX9_wordOf_76 (by decide) ?_
        refine lv_goto (tgt := 105) hx hb dX9_wordOf_77 (by decide) ?_
        have hr0 := so1 hf
        subst hr0
        rw [← hQ]
        exact W.iret (v := (2 : Int32)) hx hb hr (fun t ht hW => ⟨rfl, ht⟩) (fun _ h => by cases h) dX9_wordOf_105
    · have hf := if_f hf hc10
      refine lv_iload_n hx hb dX9_wordOf_52 rfl (lv_at hl 0 rfl) ?_
      refine lv_goto (tgt := 105) hx hb dX9_wordOf_53 (by decide) ?_
      have hr0 := so1 hf
      subst hr0
      rw [← hQ]
      exact W.iret (v := t0) hx hb hr (fun t ht hW => ⟨rfl, ht⟩) (fun _ h => by cases h) dX9_wordOf_105
  unfold f_X9_wordOf at hf
  refine lv_lload_n hx hb dX9_wordOf_0 rfl (lv_at hl 0 rfl) ?_
  refine lv_bipush (v := (115 : Int32)) hx hb dX9_wordOf_1 (by decide) ?_
  refine lv_bipush (v := (107 : Int32)) hx hb dX9_wordOf_3 (by decide) ?_
  refine lv_bipush (v := (121 : Int32)) hx hb dX9_wordOf_5 (by decide) ?_
  refine lv_iconst (v := (0 : Int32)) hx hb dX9_wordOf_7 (by decide) ?_
  refine lv_iconst (v := (0 : Int32)) hx hb dX9_wordOf_8 (by decide) ?_
  refine lv_iconst (v := (0 : Int32)) hx hb dX9_wordOf_9 (by decide) ?_
  obtain ⟨r15, hu, hf⟩ := bd1_some hf
  refine zRl (va_runS (As := [.int (115 : Int32), .int (107 : Int32), .int (121 : Int32), .int (0 : Int32), .int (0 : Int32), .int (0 : Int32)]) (rest := [.long g0]) hC (c_X9_named l G ((115 : Int32)) ((107 : Int32)) ((121 : Int32)) ((0 : Int32)) ((0 : Int32)) ((0 : Int32)) r15 hu) (va_cwS 6 hts gX9_wordOf_X9_named rfl rfl rfl hd_X9_named.2 ⟨(Nat.le_of_ble_eq_true rfl), (Nat.le_of_ble_eq_true rfl)⟩) (zPS hE hP [] rfl) rfl rfl hl.1 rfl (lv_room (Nat.le_of_ble_eq_true rfl)) dX9_wordOf_10 ⟨Nat.zero_le _, Nat.zero_le _⟩) ?_
  refine W.lcmp hx hb dX9_wordOf_13 ?_
  refine lv_if_ne (tgt := 21) hx hb dX9_wordOf_14 (by decide) (fun hc16 => ?_) (fun hc16 => ?_)
  · have hf := if_f hf hc16
    refine lv_lload_n hx hb dX9_wordOf_21 rfl (lv_at hl 0 rfl) ?_
    refine lv_bipush (v := (115 : Int32)) hx hb dX9_wordOf_22 (by decide) ?_
    refine lv_bipush (v := (116 : Int32)) hx hb dX9_wordOf_24 (by decide) ?_
    refine lv_bipush (v := (97 : Int32)) hx hb dX9_wordOf_26 (by decide) ?_
    refine lv_bipush (v := (114 : Int32)) hx hb dX9_wordOf_28 (by decide) ?_
    refine lv_iconst (v := (0 : Int32)) hx hb dX9_wordOf_30 (by decide) ?_
    refine lv_iconst (v := (0 : Int32)) hx hb dX9_wordOf_31 (by decide) ?_
    obtain ⟨r17, hu, hf⟩ := bd1_some hf
    refine zRl (va_runS (As := [.int (115 : Int32), .int (116 : Int32), .int (97 : Int32), .int (114 : Int32), .int (0 : Int32), .int (0 : Int32)]) (rest := [.long g0]) hC (c_X9_named l G ((115 : Int32)) ((116 : Int32)) ((97 : Int32)) ((114 : Int32)) ((0 : Int32)) ((0 : Int32)) r17 hu) (va_cwS 6 hts gX9_wordOf_X9_named rfl rfl rfl hd_X9_named.2 ⟨(Nat.le_of_ble_eq_true rfl), (Nat.le_of_ble_eq_true rfl)⟩) (zPS hE hP [] rfl) rfl rfl hl.1 rfl (lv_room (Nat.le_of_ble_eq_true rfl)) dX9_wordOf_32 ⟨Nat.zero_le _, Nat.zero_le _⟩) ?_
    refine W.lcmp hx hb dX9_wordOf_35 ?_
    refine lv_if_ne (tgt := 43) hx hb dX9_wordOf_36 (by decide) (fun hc18 => ?_) (fun hc18 => ?_)
    · have hf := if_f hf hc18
      refine lv_bipush (v := (-9 : Int32)) hx hb dX9_wordOf_43 (by decide) ?_
      exact j45 (g0) ((-9 : Int32)) ls (lv_sub hl [0] rfl) hf
    · have hf := if_t hf hc18
      refine lv_iconst (v := (1 : Int32)) hx hb dX9_wordOf_39 (by decide) ?_
      refine lv_goto (tgt := 45) hx hb dX9_wordOf_40 (by decide) ?_
      exact j45 (g0) ((1 : Int32)) ls (lv_sub hl [0] rfl) hf
  · have hf := if_t hf hc16
    refine lv_iconst (v := (0 : Int32)) hx hb dX9_wordOf_17 (by decide) ?_
    refine lv_goto (tgt := 45) hx hb dX9_wordOf_18 (by decide) ?_
    exact j45 (g0) ((0 : Int32)) ls (lv_sub hl [0] rfl) hf
theorem hd_X9_byteAt : yX9_byteAt.cls = RX9 ∧ yX9_byteAt.cls ≠ "java/lang/invoke/MethodHandle" ∧ yX9_byteAt.cls ≠ "java/lang/invoke/VarHandle" ∧ (parseMethodDescriptor yX9_byteAt.desc).map (fun d => d.parameters.length) = some 1 := by decide +kernel
theorem hd_X9_wordOf : yX9_wordOf.cls = RX9 ∧ yX9_wordOf.cls ≠ "java/lang/invoke/MethodHandle" ∧ yX9_wordOf.cls ≠ "java/lang/invoke/VarHandle" ∧ (parseMethodDescriptor yX9_wordOf.desc).map (fun d => d.parameters.length) = some 1 := by decide +kernel
def f_X9_advances_b116  (k68 : Int64 → Int32 → Option (Int32 × Int32 × Int32 × Int32))  (t0 : Int64) (v_next : Int32) : Option (Int32 × Int32 × Int32 × Int32) := k68 (t0) ((v_next + (1 : Int32)))
def f_X9_advances_b153    (t1 : Int32) (v_next : Int32) (v_place : Int32) (v_value : Int32) : Option (Int32 × Int32 × Int32 × Int32) := some (v_next, t1, v_place, v_value)
def f_X9_advances_b68 (v_typed : Int32) (v_text : (Nat → Int32))  (v_place : Int32) : Nat → Int64 → Int32 → Option (Int32 × Int32 × Int32 × Int32)
  | 0, _, _ => none
  | n68 + 1, x2, v_next => bd1 (f_X9_byteAt (v_typed) (v_text) (v_next)) fun r26 => bd1 (f_X9_in (r26) ((97 : Int32)) ((122 : Int32))) fun r27 => if r27 = (0 : Int32) then (bd1 (f_X9_wordOf (x2)) fun r29 => if r29 = (-9 : Int32) then (f_X9_advances_b153 ((4 : Int32)) (v_next) (v_place) (r29)) else (f_X9_advances_b153 ((1 : Int32)) (v_next) (v_place) (r29))) else (if (7 : Int32) ≤ (v_next - v_place) then (f_X9_advances_b116 (f_X9_advances_b68 v_typed v_text v_place n68) (x2) (v_next)) else (bd1 (f_X9_byteAt (v_typed) (v_text) (v_next)) fun r32 => bd1 (f_X9_add (x2) (r32)) fun r33 => f_X9_advances_b116 (f_X9_advances_b68 v_typed v_text v_place n68) (r33) (v_next)))
def f_X9_advances_b229  (k175 : Int32 → Int32 → Option (Int32 × Int32 × Int32 × Int32))  (t1 : Int32) (v_next : Int32) : Option (Int32 × Int32 × Int32 × Int32) := k175 ((v_next + (1 : Int32))) (t1)
def f_X9_advances_b279    (t1 : Int32) (v_next : Int32) (v_place : Int32) (v_value : Int32) : Option (Int32 × Int32 × Int32 × Int32) := some (v_next, t1, v_place, v_value)
def f_X9_advances_b274    (v_next : Int32) (v_place : Int32) (v_value : Int32) : Option (Int32 × Int32 × Int32 × Int32) := f_X9_advances_b279 ((4 : Int32)) (v_next) (v_place) (v_value)
def f_X9_advances_b278    (v_next : Int32) (v_place : Int32) (v_value : Int32) : Option (Int32 × Int32 × Int32 × Int32) := f_X9_advances_b279 ((2 : Int32)) (v_next) (v_place) (v_value)
def f_X9_advances_b175 (v_typed : Int32) (v_text : (Nat → Int32))  (x1 : Int32) (v_place : Int32) : Nat → Int32 → Int32 → Option (Int32 × Int32 × Int32 × Int32)
  | 0, _, _ => none
  | n175 + 1, v_next, v_value => bd1 (f_X9_byteAt (v_typed) (v_text) (v_next)) fun r34 => bd1 (f_X9_in (r34) ((48 : Int32)) ((57 : Int32))) fun r35 => if r35 = (0 : Int32) then (if (99 : Int32) < v_value then (f_X9_advances_b274 (v_next) (v_place) (v_value)) else (if x1 = (48 : Int32) then (if (v_next - v_place) ≤ (1 : Int32) then (f_X9_advances_b278 (v_next) (v_place) (v_value)) else (f_X9_advances_b274 (v_next) (v_place) (v_value))) else (f_X9_advances_b278 (v_next) (v_place) (v_value)))) else (if v_value ≤ (99 : Int32) then (bd1 (f_X9_byteAt (v_typed) (v_text) (v_next)) fun r41 => f_X9_advances_b229 (f_X9_advances_b175 v_typed v_text x1 v_place n175) (((((10 : Int32) * v_value) + r41) - (48 : Int32))) (v_next)) else (f_X9_advances_b229 (f_X9_advances_b175 v_typed v_text x1 v_place n175) (v_value) (v_next)))
def f_X9_advances_b307    (t1 : Int32) (v_next : Int32) (v_place : Int32) (v_value : Int32) : Option (Int32 × Int32 × Int32 × Int32) := some (v_next, t1, v_place, v_value)
def f_X9_advances_b0 (v_typed : Int32) (v_text : (Nat → Int32))  (v_value : Int32) : Nat → Int32 → Option (Int32 × Int32 × Int32 × Int32)
  | 0, _ => none
  | n0 + 1, v_next => bd1 (f_X9_byteAt (v_typed) (v_text) (v_next)) fun r42 => if r42 = (32 : Int32) then (f_X9_advances_b0 v_typed v_text v_value n0 ((v_next + (1 : Int32)))) else (bd1 (f_X9_byteAt (v_typed) (v_text) (v_next)) fun r44 => if (0 : Int32) ≤ r44 then (bd1 (f_X9_in (r44) ((97 : Int32)) ((122 : Int32))) fun r46 => if r46 = (0 : Int32) then (bd1 (f_X9_in (r44) ((48 : Int32)) ((57 : Int32))) fun r48 => if r48 = (0 : Int32) then (if r44 = (59 : Int32) then (f_X9_advances_b307 ((3 : Int32)) ((v_next + (1 : Int32))) (v_next) (v_value)) else (f_X9_advances_b307 ((4 : Int32)) ((v_next + (1 : Int32))) (v_next) (v_value))) else (f_X9_advances_b175 v_typed v_text (r44) (v_next) zF (v_next) ((0 : Int32)))) else (f_X9_advances_b68 v_typed v_text (v_next) zF ((0 : Int64)) (v_next))) else (some (v_next, (0 : Int32), v_next, v_value)))
def f_X9_advances  (v_typed : Int32) (v_next : Int32) (v_token : Int32) (v_place : Int32) (v_value : Int32) (v_text : (Nat → Int32))  : Option (Int32 × Int32 × Int32 × Int32) := f_X9_advances_b0 v_typed v_text (v_value) zF (v_next)
abbrev rm_X9_advances : Room := { frames := 3, cells := 0, slots := 0, locals := 69 }
set_option maxHeartbeats 4000000 in
set_option maxRecDepth 100000 in
theorem c_X9_advances (l : Launch) (G : zG) (sz : Nat) (a_this : Nat) (a_this_text : Nat) (a_this_stars : Nat) (a_this_purses : Nat) (a_this_leases : Nat) (a_this_s : Nat) (a_this_kept : Nat) (a_this_isKept : Nat) (a_this_offers : Nat) (a_this_seen : Nat) (v_thrown : Int32) (v_trace : Int64) (v_typed : Int32) (v_next : Int32) (v_token : Int32) (v_place : Int32) (v_value : Int32) (v_fault : Int32) (v_squares : Int32) (v_starMany : Int32) (v_tenants : Int32) (v_draftSquares : Int32) (v_draftStars : Int32) (v_draftTenants : Int32) (v_draftLeases : Int32) (v_offerMany : Int32) (v_seenMany : Int32) (v_text : (Nat → Int32)) (R1 : Int32) (R2 : Int32) (R3 : Int32) (R4 : Int32) (hf : f_X9_advances v_typed v_next v_token v_place v_value v_text = some (R1, R2, R3, R4)) : Met l yX9_advances wsX9_advances rm_X9_advances (va_Pc [.ref a_this] (zB G [(a_this, .inr (9, [.int v_thrown, .long v_trace, .ref a_this_text, .int v_typed, .int v_next, .int v_token, .int v_place, .int v_value, .int v_fault, .int v_squares, .ref a_this_stars, .ref a_this_purses, .ref a_this_leases, .int v_starMany, .int v_tenants, .int v_draftSquares, .int v_draftStars, .int v_draftTenants, .int v_draftLeases, .ref a_this_s, .ref a_this_kept, .ref a_this_isKept, .ref a_this_offers, .int v_offerMany, .ref a_this_seen, .int v_seenMany])), (a_this_text, .inl (G.2.1, 300, .inl v_text))] sz)) (zQ G none [(a_this, .inr (9, [.int v_thrown, .long v_trace, .ref a_this_text, .int v_typed, .int R1, .int R2, .int R3, .int R4, .int v_fault, .int v_squares, .ref a_this_stars, .ref a_this_purses, .ref a_this_leases, .int v_starMany, .int v_tenants, .int v_draftSquares, .int v_draftStars, .int v_draftTenants, .int v_draftLeases, .ref a_this_s, .ref a_this_kept, .ref a_this_isKept, .ref a_this_offers, .int v_offerMany, .ref a_this_seen, .int v_seenMany])), (a_this_text, .inl (G.2.1, 300, .inl v_text))] (va_A [(a_this, .inr (9, [.int v_thrown, .long v_trace, .ref a_this_text, .int v_typed, .int v_next, .int v_token, .int v_place, .int v_value, .int v_fault, .int v_squares, .ref a_this_stars, .ref a_this_purses, .ref a_this_leases, .int v_starMany, .int v_tenants, .int v_draftSquares, .int v_draftStars, .int v_draftTenants, .int v_draftLeases, .ref a_this_s, .ref a_this_kept, .ref a_this_isKept, .ref a_this_offers, .int v_offerMany, .ref a_this_seen, .int v_seenMany])), (a_this_text, .inl (G.2.1, 300, .inl v_text))] sz)) 0 0 (va_A [(a_this, .inr (9, [.int v_thrown, .long v_trace, .ref a_this_text, .int v_typed, .int v_next, .int v_token, .int v_place, .int v_value, .int v_fault, .int v_squares, .ref a_this_stars, .ref a_this_purses, .ref a_this_leases, .int v_starMany, .int v_tenants, .int v_draftSquares, .int v_draftStars, .int v_draftTenants, .int v_draftLeases, .ref a_this_s, .ref a_this_kept, .ref a_this_isKept, .ref a_this_offers, .int v_offerMany, .ref a_this_seen, .int v_seenMany])), (a_this_text, .inl (G.2.1, 300, .inl v_text))] sz) := by
  refine Met.ofW (cc := cX9_advances) (maxL := 4) (ret := none) (by decide) rfl ?_
  intro p e s m args below meth c s₁ B hml hv
  obtain ⟨hargs, hsz, hP, hD0, hE⟩ := hv
  have hx := B.exec
  have hb := B.bytes
  have hr := B.returns
  have hts := atoms_spec (ws := wsX9_advances) B.pre
  have hown : s.vm.findClass RX9 = some m.cls := findClass_of_methodNamed B.named
  have hlocks := B.notSynchronized
  have hK := hE.1
  have hC : CallFix p m c cX9_advances 4 s args wsX9_advances RX9 := ⟨hx, hb, hml, hown, hts⟩
  have inX9 : ∀ w ∈ wsX90, w ∈ wsX9_advances := by decide +kernel
  have lk64 := hts (.fieldLink RX9 64 "SkyLeasesModel" "next" "I") (by decide +kernel)
  have lk71 := hts (.fieldLink RX9 71 "SkyLeasesModel" "place" "I") (by decide +kernel)
  have lk74 := hts (.fieldLink RX9 74 "SkyLeasesModel" "token" "I") (by decide +kernel)
  have lk81 := hts (.fieldLink RX9 81 "SkyLeasesModel" "value" "I") (by decide +kernel)
  subst hsz
  have hD := hD0.self (sz := s.heap.size)
  generalize hAe : va_A [(a_this, .inr (9, [.int v_thrown, .long v_trace, .ref a_this_text, .int v_typed, .int v_next, .int v_token, .int v_place, .int v_value, .int v_fault, .int v_squares, .ref a_this_stars, .ref a_this_purses, .ref a_this_leases, .int v_starMany, .int v_tenants, .int v_draftSquares, .int v_draftStars, .int v_draftTenants, .int v_draftLeases, .ref a_this_s, .ref a_this_kept, .ref a_this_isKept, .ref a_this_offers, .int v_offerMany, .ref a_this_seen, .int v_seenMany])), (a_this_text, .inl (G.2.1, 300, .inl v_text))] s.heap.size = A at hD ⊢
  have hA : ∀ q : Nat, s.heap.size ≤ q → A q := fun q h => by rw [← hAe]; exact Or.inr h
  have hS : va_S A s.heap s.heap [] := va_S.rf
  have hP : va_P G.1 vwCl [(a_this, .inr (9, [.int v_thrown, .long v_trace, .ref a_this_text, .int v_typed, .int v_next, .int v_token, .int v_place, .int v_value, .int v_fault, .int v_squares, .ref a_this_stars, .ref a_this_purses, .ref a_this_leases, .int v_starMany, .int v_tenants, .int v_draftSquares, .int v_draftStars, .int v_draftTenants, .int v_draftLeases, .ref a_this_s, .ref a_this_kept, .ref a_this_isKept, .ref a_this_offers, .int v_offerMany, .ref a_this_seen, .int v_seenMany])), (a_this_text, .inl (G.2.1, 300, .inl v_text))] s.heap := hP
  have hl := lv_entry ([.ref a_this]) (n := 4) (Nat.le_of_ble_eq_true rfl)
  have hent : entryFrame m args 4 = F0 m 0 ((lg_sl ([.ref a_this]) ++ List.replicate (4 - (lg_sl ([.ref a_this])).length) Slot.unset).toArray) [] := by rw [hargs]; exact lg_entry_eq m [.ref a_this] 4
  refine W.eq hent ?_
  clear hent
  generalize (lg_sl ([.ref a_this]) ++ List.replicate (4 - (lg_sl ([.ref a_this])).length) Slot.unset).toArray = ls at hl ⊢
  have hl : lv_has ls 4 [(0, .ref a_this)] := hl
  generalize hQ : MQ below _ args s 0 0 _ = QQ
  change W p l e rm_X9_advances s m args below meth c s.heap [] 0 0 QQ _
  have j116 : ∀ (v_token : Int32), ∀ (v_place : Int32), ∀ (v_value : Int32), ∀ (k68 : Int64 → Int32 → Option (Int32 × Int32 × Int32 × Int32)), (∀ (x2 : Int64), ∀ (v_next : Int32), ∀ (ls : Array Slot), lv_has ls 4 [(0, .ref a_this), (2, .long x2)] → ∀ (H : Heap) (locs : List Loc), va_P G.1 vwCl [(a_this, .inr (9, [.int v_thrown, .long v_trace, .ref a_this_text, .int v_typed, .int v_next, .int v_token, .int v_place, .int v_value, .int v_fault, .int v_squares, .ref a_this_stars, .ref a_this_purses, .ref a_this_leases, .int v_starMany, .int v_tenants, .int v_draftSquares, .int v_draftStars, .int v_draftTenants, .int v_draftLeases, .ref a_this_s, .ref a_this_kept, .ref a_this_isKept, .ref a_this_offers, .int v_offerMany, .ref a_this_seen, .int v_seenMany])), (a_this_text, .inl (G.2.1, 300, .inl v_text))] H → va_D A [(a_this, .inr (9, [.int v_thrown, .long v_trace, .ref a_this_text, .int v_typed, .int v_next, .int v_token, .int v_place, .int v_value, .int v_fault, .int v_squares, .ref a_this_stars, .ref a_this_purses, .ref a_this_leases, .int v_starMany, .int v_tenants, .int v_draftSquares, .int v_draftStars, .int v_draftTenants, .int v_draftLeases, .ref a_this_s, .ref a_this_kept, .ref a_this_isKept, .ref a_this_offers, .int v_offerMany, .ref a_this_seen, .int v_seenMany])), (a_this_text, .inl (G.2.1, 300, .inl v_text))] → va_S A s.heap H locs → k68 x2 v_next = some (R1, R2, R3, R4) → W p l e rm_X9_advances s m args below meth c H locs 0 0 QQ (F0 m 68 ls [])) → ∀ (t0 : Int64), ∀ (v_next : Int32), ∀ (ls : Array Slot), lv_has ls 4 [(0, .ref a_this)] → ∀ (H : Heap) (locs : List Loc), va_P G.1 vwCl [(a_this, .inr (9, [.int v_thrown, .long v_trace, .ref a_this_text, .int v_typed, .int v_next, .int v_token, .int v_place, .int v_value, .int v_fault, .int v_squares, .ref a_this_stars, .ref a_this_purses, .ref a_this_leases, .int v_starMany, .int v_tenants, .int v_draftSquares, .int v_draftStars, .int v_draftTenants, .int v_draftLeases, .ref a_this_s, .ref a_this_kept, .ref a_this_isKept, .ref a_this_offers, .int v_offerMany, .ref a_this_seen, .int v_seenMany])), (a_this_text, .inl (G.2.1, 300, .inl v_text))] H → va_D A [(a_this, .inr (9, [.int v_thrown, .long v_trace, .ref a_this_text, .int v_typed, .int v_next, .int v_token, .int v_place, .int v_value, .int v_fault, .int v_squares, .ref a_this_stars, .ref a_this_purses, .ref a_this_leases, .int v_starMany, .int v_tenants, .int v_draftSquares, .int v_draftStars, .int v_draftTenants, .int v_draftLeases, .ref a_this_s, .ref a_this_kept, .ref a_this_isKept, .ref a_this_offers, .int v_offerMany, .ref a_this_seen, .int v_seenMany])), (a_this_text, .inl (G.2.1, 300, .inl v_text))] → va_S A s.heap H locs → f_X9_advances_b116 k68 t0 v_next = some (R1, R2, R3, R4) → W p l e rm_X9_advances s m args below meth c H locs 0 0 QQ (F0 m 116 ls [.long t0]) := by
    intro v_token v_place v_value k68 hk68 t0 v_next ls hl H locs hP hD hS hf
    unfold f_X9_advances_b116 at hf
    refine lv_lstore_n (lv' := [(2, .long t0), (0, .ref a_this)]) hx hb dX9_advances_116 rfl hl (by decide) rfl (fun ls hl => ?_)
    refine lv_aload_n hx hb dX9_advances_117 rfl (lv_at hl 1 rfl) ?_
    refine lv_dup hx hb dX9_advances_118 rfl ?_
    refine va_get (D := G.1) (ci := 9) (v := .int v_next) (C := RX9) (T := TX9) (N := 26) hx hb hts inX9 hown hK hP 0 rfl rfl 4 (by decide) lk64 (fun _ h9 => h9) rfl dX9_advances_119 ?_
    refine lv_iconst (v := (1 : Int32)) hx hb dX9_advances_122 (by decide) ?_
    refine lv_iadd hx hb dX9_advances_123 ?_
    refine va_put (D := G.1) (ci := 9) (v := .int (v_next + (1 : Int32))) (ty := .int) (C := RX9) (T := TX9) (N := 26) hx hb hts inX9 tyX9 tyX9_ok nmX9 hown hK hP hD hS 0 rfl rfl 4 (by decide) lk64 (fun _ h9 => h9) rfl (by decide +kernel) rfl rfl (Nat.le_of_ble_eq_true rfl) dX9_advances_124 (fun H locs hP hD hS => ?_)
    have hP : va_P G.1 vwCl [(a_this, .inr (9, [.int v_thrown, .long v_trace, .ref a_this_text, .int v_typed, .int (v_next + (1 : Int32)), .int v_token, .int v_place, .int v_value, .int v_fault, .int v_squares, .ref a_this_stars, .ref a_this_purses, .ref a_this_leases, .int v_starMany, .int v_tenants, .int v_draftSquares, .int v_draftStars, .int v_draftTenants, .int v_draftLeases, .ref a_this_s, .ref a_this_kept, .ref a_this_isKept, .ref a_this_offers, .int v_offerMany, .ref a_this_seen, .int v_seenMany])), (a_this_text, .inl (G.2.1, 300, .inl v_text))] H := hP
    have hD : va_D A [(a_this, .inr (9, [.int v_thrown, .long v_trace, .ref a_this_text, .int v_typed, .int (v_next + (1 : Int32)), .int v_token, .int v_place, .int v_value, .int v_fault, .int v_squares, .ref a_this_stars, .ref a_this_purses, .ref a_this_leases, .int v_starMany, .int v_tenants, .int v_draftSquares, .int v_draftStars, .int v_draftTenants, .int v_draftLeases, .ref a_this_s, .ref a_this_kept, .ref a_this_isKept, .ref a_this_offers, .int v_offerMany, .ref a_this_seen, .int v_seenMany])), (a_this_text, .inl (G.2.1, 300, .inl v_text))] := hD
    refine lv_goto (tgt := 68) hx hb dX9_advances_127 (by decide) ?_
    exact hk68 (t0) ((v_next + (1 : Int32))) ls (lv_sub hl [1, 0] rfl) _ _ hP hD hS hf
  have j153 : ∀ (t1 : Int32), ∀ (v_next : Int32), ∀ (v_token : Int32), ∀ (v_place : Int32), ∀ (v_value : Int32), ∀ (ls : Array Slot), lv_has ls 4 [] → ∀ (H : Heap) (locs : List Loc), va_P G.1 vwCl [(a_this, .inr (9, [.int v_thrown, .long v_trace, .ref a_this_text, .int v_typed, .int v_next, .int v_token, .int v_place, .int v_value, .int v_fault, .int v_squares, .ref a_this_stars, .ref a_this_purses, .ref a_this_leases, .int v_starMany, .int v_tenants, .int v_draftSquares, .int v_draftStars, .int v_draftTenants, .int v_draftLeases, .ref a_this_s, .ref a_this_kept, .ref a_this_isKept, .ref a_this_offers, .int v_offerMany, .ref a_this_seen, .int v_seenMany])), (a_this_text, .inl (G.2.1, 300, .inl v_text))] H → va_D A [(a_this, .inr (9, [.int v_thrown, .long v_trace, .ref a_this_text, .int v_typed, .int v_next, .int v_token, .int v_place, .int v_value, .int v_fault, .int v_squares, .ref a_this_stars, .ref a_this_purses, .ref a_this_leases, .int v_starMany, .int v_tenants, .int v_draftSquares, .int v_draftStars, .int v_draftTenants, .int v_draftLeases, .ref a_this_s, .ref a_this_kept, .ref a_this_isKept, .ref a_this_offers, .int v_offerMany, .ref a_this_seen, .int v_seenMany])), (a_this_text, .inl (G.2.1, 300, .inl v_text))] → va_S A s.heap H locs → f_X9_advances_b153 t1 v_next v_place v_value = some (R1, R2, R3, R4) → W p l e rm_X9_advances s m args below meth c H locs 0 0 QQ (F0 m 153 ls [.int t1, .ref a_this]) := by
    intro t1 v_next v_token v_place v_value ls hl H locs hP hD hS hf
    unfold f_X9_advances_b153 at hf
    refine va_put (D := G.1) (ci := 9) (v := .int t1) (ty := .int) (C := RX9) (T := TX9) (N := 26) hx hb hts inX9 tyX9 tyX9_ok nmX9 hown hK hP hD hS 0 rfl rfl 5 (by decide) lk74 (fun _ h9 => h9) rfl (by decide +kernel) rfl rfl (Nat.le_of_ble_eq_true rfl) dX9_advances_153 (fun H locs hP hD hS => ?_)
    have hP : va_P G.1 vwCl [(a_this, .inr (9, [.int v_thrown, .long v_trace, .ref a_this_text, .int v_typed, .int v_next, .int t1, .int v_place, .int v_value, .int v_fault, .int v_squares, .ref a_this_stars, .ref a_this_purses, .ref a_this_leases, .int v_starMany, .int v_tenants, .int v_draftSquares, .int v_draftStars, .int v_draftTenants, .int v_draftLeases, .ref a_this_s, .ref a_this_kept, .ref a_this_isKept, .ref a_this_offers, .int v_offerMany, .ref a_this_seen, .int v_seenMany])), (a_this_text, .inl (G.2.1, 300, .inl v_text))] H := hP
    have hD : va_D A [(a_this, .inr (9, [.int v_thrown, .long v_trace, .ref a_this_text, .int v_typed, .int v_next, .int t1, .int v_place, .int v_value, .int v_fault, .int v_squares, .ref a_this_stars, .ref a_this_purses, .ref a_this_leases, .int v_starMany, .int v_tenants, .int v_draftSquares, .int v_draftStars, .int v_draftTenants, .int v_draftLeases, .ref a_this_s, .ref a_this_kept, .ref a_this_isKept, .ref a_this_offers, .int v_offerMany, .ref a_this_seen, .int v_seenMany])), (a_this_text, .inl (G.2.1, 300, .inl v_text))] := hD
    refine lv_goto (tgt := 310) hx hb dX9_advances_156 (by decide) ?_
    obtain ⟨hr0, hr1, hr2, hr3⟩ := so4 hf
    subst hr0
    subst hr1
    subst hr2
    subst hr3
    rw [← hQ]
    exact W.vret hx hb hr (fun t ht hW => ⟨⟨rfl, by rw [ht]; exact hP⟩, hS.F ht⟩) hS.2.2 dX9_advances_310
  have j68 : ∀ (v_token : Int32), ∀ (v_place : Int32), ∀ (v_value : Int32), ∀ (nn : Nat), ∀ (x2 : Int64), ∀ (v_next : Int32), ∀ (ls : Array Slot), lv_has ls 4 [(0, .ref a_this), (2, .long x2)] → ∀ (H : Heap) (locs : List Loc), va_P G.1 vwCl [(a_this, .inr (9, [.int v_thrown, .long v_trace, .ref a_this_text, .int v_typed, .int v_next, .int v_token, .int v_place, .int v_value, .int v_fault, .int v_squares, .ref a_this_stars, .ref a_this_purses, .ref a_this_leases, .int v_starMany, .int v_tenants, .int v_draftSquares, .int v_draftStars, .int v_draftTenants, .int v_draftLeases, .ref a_this_s, .ref a_this_kept, .ref a_this_isKept, .ref a_this_offers, .int v_offerMany, .ref a_this_seen, .int v_seenMany])), (a_this_text, .inl (G.2.1, 300, .inl v_text))] H → va_D A [(a_this, .inr (9, [.int v_thrown, .long v_trace, .ref a_this_text, .int v_typed, .int v_next, .int v_token, .int v_place, .int v_value, .int v_fault, .int v_squares, .ref a_this_stars, .ref a_this_purses, .ref a_this_leases, .int v_starMany, .int v_tenants, .int v_draftSquares, .int v_draftStars, .int v_draftTenants, .int v_draftLeases, .ref a_this_s, .ref a_this_kept, .ref a_this_isKept, .ref a_this_offers, .int v_offerMany, .ref a_this_seen, .int v_seenMany])), (a_this_text, .inl (G.2.1, 300, .inl v_text))] → va_S A s.heap H locs → f_X9_advances_b68 v_typed v_text v_place nn x2 v_next = some (R1, R2, R3, R4) → W p l e rm_X9_advances s m args below meth c H locs 0 0 QQ (F0 m 68 ls []) := by
    intro v_token v_place v_value
    intro nn
    induction nn with
    | zero =>
      intro x2 v_next ls hl H locs hP hD hS hf
      rw [f_X9_advances_b68] at hf
      cases hf
    | succ n68 ih =>
      intro x2 v_next ls hl H locs hP hD hS hf
      rw [f_X9_advances_b68] at hf
      refine lv_aload_n hx hb dX9_advances_68 rfl (lv_at hl 0 rfl) ?_
      refine lv_aload_n hx hb dX9_advances_69 rfl (lv_at hl 0 rfl) ?_
      refine va_get (D := G.1) (ci := 9) (v := .int v_next) (C := RX9) (T := TX9) (N := 26) hx hb hts inX9 hown hK hP 0 rfl rfl 4 (by decide) lk64 (fun _ h9 => h9) rfl dX9_advances_70 ?_
      obtain ⟨r26, hu, hf⟩ := bd1_some hf
      refine zRi (va_runV (As := [.int v_next]) (rest := []) hC (c_X9_byteAt l G a_this a_this_text a_this_stars a_this_purses a_this_leases a_this_s a_this_kept a_this_isKept a_this_offers a_this_seen (v_thrown) (v_trace) (v_typed) (v_next) (v_token) (v_place) (v_value) (v_fault) (v_squares) (v_starMany) (v_tenants) (v_draftSquares) (v_draftStars) (v_draftTenants) (v_draftLeases) (v_offerMany) (v_seenMany) (v_text) (v_next) r26 hu) (cwV 1 hts gX9_advances_X9_byteAt rfl rfl rfl hd_X9_byteAt ⟨(Nat.le_of_ble_eq_true rfl), (Nat.le_of_ble_eq_true rfl)⟩) (zPV hE hP [0, 1] rfl 0 rfl rfl) rfl rfl hl.1 rfl (lv_room (Nat.le_of_ble_eq_true rfl)) dX9_advances_73 ⟨Nat.zero_le _, Nat.zero_le _⟩) ?_
      refine lv_bipush (v := (97 : Int32)) hx hb dX9_advances_76 (by decide) ?_
      refine lv_bipush (v := (122 : Int32)) hx hb dX9_advances_78 (by decide) ?_
      obtain ⟨r27, hu, hf⟩ := bd1_some hf
      refine zRi (va_runS (As := [.int r26, .int (97 : Int32), .int (122 : Int32)]) (rest := []) hC (c_X9_in l G (r26) ((97 : Int32)) ((122 : Int32)) r27 hu) (va_cwS 3 hts gX9_advances_X9_in rfl rfl rfl hd_X9_in.2 ⟨(Nat.le_of_ble_eq_true rfl), (Nat.le_of_ble_eq_true rfl)⟩) (zPS hE hP [] rfl) rfl rfl hl.1 rfl (lv_room (Nat.le_of_ble_eq_true rfl)) dX9_advances_80 ⟨Nat.zero_le _, Nat.zero_le _⟩) ?_
      refine lv_if_eq (tgt := 130) hx hb dX9_advances_83 (by decide) (fun hc28 => ?_) (fun hc28 => ?_)
      · have hf := if_t hf hc28
        refine lv_aload_n hx hb dX9_advances_130 rfl (lv_at hl 0 rfl) ?_
        refine lv_lload_n hx hb dX9_advances_131 rfl (lv_at hl 1 rfl) ?_
        obtain ⟨r29, hu, hf⟩ := bd1_some hf
        refine zRi (va_runS (As := [.long x2]) (rest := [.ref a_this]) hC (c_X9_wordOf l G (x2) r29 hu) (va_cwS 1 hts gX9_advances_X9_wordOf rfl rfl rfl hd_X9_wordOf.2 ⟨(Nat.le_of_ble_eq_true rfl), (Nat.le_of_ble_eq_true rfl)⟩) (zPS hE hP [] rfl) rfl rfl hl.1 rfl (lv_room (Nat.le_of_ble_eq_true rfl)) dX9_advances_132 ⟨Nat.zero_le _, Nat.zero_le _⟩) ?_
        refine va_put (D := G.1) (ci := 9) (v := .int r29) (ty := .int) (C := RX9) (T := TX9) (N := 26) hx hb hts inX9 tyX9 tyX9_ok nmX9 hown hK hP hD hS 0 rfl rfl 7 (by decide) lk81 (fun _ h9 => h9) rfl (by decide +kernel) rfl rfl (Nat.le_of_ble_eq_true rfl) dX9_advances_135 (fun H locs hP hD hS => ?_)
        have hP : va_P G.1 vwCl [(a_this, .inr (9, [.int v_thrown, .long v_trace, .ref a_this_text, .int v_typed, .int v_next, .int v_token, .int v_place, .int r29, .int v_fault, .int v_squares, .ref a_this_stars, .ref a_this_purses, .ref a_this_leases, .int v_starMany, .int v_tenants, .int v_draftSquares, .int v_draftStars, .int v_draftTenants, .int v_draftLeases, .ref a_this_s, .ref a_this_kept, .ref a_this_isKept, .ref a_this_offers, .int v_offerMany, .ref a_this_seen, .int v_seenMany])), (a_this_text, .inl (G.2.1, 300, .inl v_text))] H := hP
        have hD : va_D A [(a_this, .inr (9, [.int v_thrown, .long v_trace, .ref a_this_text, .int v_typed, .int v_next, .int v_token, .int v_place, .int r29, .int v_fault, .int v_squares, .ref a_this_stars, .ref a_this_purses, .ref a_this_leases, .int v_starMany, .int v_tenants, .int v_draftSquares, .int v_draftStars, .int v_draftTenants, .int v_draftLeases, .ref a_this_s, .ref a_this_kept, .ref a_this_isKept, .ref a_this_offers, .int v_offerMany, .ref a_this_seen, .int v_seenMany])), (a_this_text, .inl (G.2.1, 300, .inl v_text))] := hD
        refine lv_aload_n hx hb dX9_advances_138 rfl (lv_at hl 0 rfl) ?_
        refine lv_aload_n hx hb dX9_advances_139 rfl (lv_at hl 0 rfl) ?_
        refine va_get (D := G.1) (ci := 9) (v := .int r29) (C := RX9) (T := TX9) (N := 26) hx hb hts inX9 hown hK hP 0 rfl rfl 7 (by decide) lk81 (fun _ h9 => h9) rfl dX9_advances_140 ?_
        refine lv_bipush (v := (-9 : Int32)) hx hb dX9_advances_143 (by decide) ?_
        refine lv_icmp_ne (tgt := 152) hx hb dX9_advances_145 (by decide) (fun hc30 => ?_) (fun hc30 => ?_)
        · have hf := if_f hf hc30
          refine lv_iconst (v := (1 : Int32)) hx hb dX9_advances_152 (by decide) ?_
          exact j153 ((1 : Int32)) (v_next) (v_token) (v_place) (r29) ls (lv_sub hl [] rfl) _ _ hP hD hS hf
        · have hf := if_t hf hc30
          refine lv_iconst (v := (4 : Int32)) hx hb dX9_advances_148 (by decide) ?_
          refine lv_goto (tgt := 153) hx hb dX9_advances_149 (by decide) ?_
          exact j153 ((4 : Int32)) (v_next) (v_token) (v_place) (r29) ls (lv_sub hl [] rfl) _ _ hP hD hS hf
      · have hf := if_f hf hc28
        refine lv_aload_n hx hb dX9_advances_86 rfl (lv_at hl 0 rfl) ?_
        refine va_get (D := G.1) (ci := 9) (v := .int v_next) (C := RX9) (T := TX9) (N := 26) hx hb hts inX9 hown hK hP 0 rfl rfl 4 (by decide) lk64 (fun _ h9 => h9) rfl dX9_advances_87 ?_
        refine lv_aload_n hx hb dX9_advances_90 rfl (lv_at hl 0 rfl) ?_
        refine va_get (D := G.1) (ci := 9) (v := .int v_place) (C := RX9) (T := TX9) (N := 26) hx hb hts inX9 hown hK hP 0 rfl rfl 6 (by decide) lk71 (fun _ h9 => h9) rfl dX9_advances_91 ?_
        refine lv_isub hx hb dX9_advances_94 ?_
        refine lv_bipush (v := (7 : Int32)) hx hb dX9_advances_95 (by decide) ?_
        refine lv_icmp_ge (tgt := 115) hx hb dX9_advances_97 (by decide) (fun hc31 => ?_) (fun hc31 => ?_)
        · have hf := if_t hf hc31
          refine lv_lload_n hx hb dX9_advances_115 rfl (lv_at hl 1 rfl) ?_
          exact j116 (v_token) (v_place) (v_value) (f_X9_advances_b68 v_typed v_text v_place n68) ih (x2) (v_next) ls (lv_sub hl [0] rfl) _ _ hP hD hS hf
        · have hf := if_f hf hc31
          refine lv_lload_n hx hb dX9_advances_100 rfl (lv_at hl 1 rfl) ?_
          refine lv_aload_n hx hb dX9_advances_101 rfl (lv_at hl 0 rfl) ?_
          refine lv_aload_n hx hb dX9_advances_102 rfl (lv_at hl 0 rfl) ?_
          refine va_get (D := G.1) (ci := 9) (v := .int v_next) (C := RX9) (T := TX9) (N := 26) hx hb hts inX9 hown hK hP 0 rfl rfl 4 (by decide) lk64 (fun _ h9 => h9) rfl dX9_advances_103 ?_
          obtain ⟨r32, hu, hf⟩ := bd1_some hf
          refine zRi (va_runV (As := [.int v_next]) (rest := [.long x2]) hC (c_X9_byteAt l G a_this a_this_text a_this_stars a_this_purses a_this_leases a_this_s a_this_kept a_this_isKept a_this_offers a_this_seen (v_thrown) (v_trace) (v_typed) (v_next) (v_token) (v_place) (v_value) (v_fault) (v_squares) (v_starMany) (v_tenants) (v_draftSquares) (v_draftStars) (v_draftTenants) (v_draftLeases) (v_offerMany) (v_seenMany) (v_text) (v_next) r32 hu) (cwV 1 hts gX9_advances_X9_byteAt rfl rfl rfl hd_X9_byteAt ⟨(Nat.le_of_ble_eq_true rfl), (Nat.le_of_ble_eq_true rfl)⟩) (zPV hE hP [0, 1] rfl 0 rfl rfl) rfl rfl hl.1 rfl (lv_room (Nat.le_of_ble_eq_true rfl)) dX9_advances_106 ⟨Nat.zero_le _, Nat.zero_le _⟩) ?_
          obtain ⟨r33, hu, hf⟩ := bd1_some hf
          refine zRl (va_runS (As := [.long x2, .int r32]) (rest := []) hC (c_X9_add l G (x2) (r32) r33 hu) (va_cwS 2 hts gX9_advances_X9_add rfl rfl rfl hd_X9_add.2 ⟨(Nat.le_of_ble_eq_true rfl), (Nat.le_of_ble_eq_true rfl)⟩) (zPS hE hP [] rfl) rfl rfl hl.1 rfl (lv_room (Nat.le_of_ble_eq_true rfl)) dX9_advances_109 ⟨Nat.zero_le _, Nat.zero_le _⟩) ?_
          refine lv_goto (tgt := 116) hx hb dX9_advances_112 (by decide) ?_
          exact j116 (v_token) (v_place) (v_value) (f_X9_advances_b68 v_typed v_text v_place n68) ih (r33) (v_next) ls (lv_sub hl [0] rfl) _ _ hP hD hS hf
  have j229 : ∀ (x1 : Int32), ∀ (v_token : Int32), ∀ (v_place : Int32), ∀ (k175 : Int32 → Int32 → Option (Int32 × Int32 × Int32 × Int32)), (∀ (v_next : Int32), ∀ (v_value : Int32), ∀ (ls : Array Slot), lv_has ls 4 [(0, .ref a_this), (1, .int x1)] → ∀ (H : Heap) (locs : List Loc), va_P G.1 vwCl [(a_this, .inr (9, [.int v_thrown, .long v_trace, .ref a_this_text, .int v_typed, .int v_next, .int v_token, .int v_place, .int v_value, .int v_fault, .int v_squares, .ref a_this_stars, .ref a_this_purses, .ref a_this_leases, .int v_starMany, .int v_tenants, .int v_draftSquares, .int v_draftStars, .int v_draftTenants, .int v_draftLeases, .ref a_this_s, .ref a_this_kept, .ref a_this_isKept, .ref a_this_offers, .int v_offerMany, .ref a_this_seen, .int v_seenMany])), (a_this_text, .inl (G.2.1, 300, .inl v_text))] H → va_D A [(a_this, .inr (9, [.int v_thrown, .long v_trace, .ref a_this_text, .int v_typed, .int v_next, .int v_token, .int v_place, .int v_value, .int v_fault, .int v_squares, .ref a_this_stars, .ref a_this_purses, .ref a_this_leases, .int v_starMany, .int v_tenants, .int v_draftSquares, .int v_draftStars, .int v_draftTenants, .int v_draftLeases, .ref a_this_s, .ref a_this_kept, .ref a_this_isKept, .ref a_this_offers, .int v_offerMany, .ref a_this_seen, .int v_seenMany])), (a_this_text, .inl (G.2.1, 300, .inl v_text))] → va_S A s.heap H locs → k175 v_next v_value = some (R1, R2, R3, R4) → W p l e rm_X9_advances s m args below meth c H locs 0 0 QQ (F0 m 175 ls [])) → ∀ (t1 : Int32), ∀ (v_next : Int32), ∀ (v_value : Int32), ∀ (ls : Array Slot), lv_has ls 4 [(0, .ref a_this), (1, .int x1)] → ∀ (H : Heap) (locs : List Loc), va_P G.1 vwCl [(a_this, .inr (9, [.int v_thrown, .long v_trace, .ref a_this_text, .int v_typed, .int v_next, .int v_token, .int v_place, .int v_value, .int v_fault, .int v_squares, .ref a_this_stars, .ref a_this_purses, .ref a_this_leases, .int v_starMany, .int v_tenants, .int v_draftSquares, .int v_draftStars, .int v_draftTenants, .int v_draftLeases, .ref a_this_s, .ref a_this_kept, .ref a_this_isKept, .ref a_this_offers, .int v_offerMany, .ref a_this_seen, .int v_seenMany])), (a_this_text, .inl (G.2.1, 300, .inl v_text))] H → va_D A [(a_this, .inr (9, [.int v_thrown, .long v_trace, .ref a_this_text, .int v_typed, .int v_next, .int v_token, .int v_place, .int v_value, .int v_fault, .int v_squares, .ref a_this_stars, .ref a_this_purses, .ref a_this_leases, .int v_starMany, .int v_tenants, .int v_draftSquares, .int v_draftStars, .int v_draftTenants, .int v_draftLeases, .ref a_this_s, .ref a_this_kept, .ref a_this_isKept, .ref a_this_offers, .int v_offerMany, .ref a_this_seen, .int v_seenMany])), (a_this_text, .inl (G.2.1, 300, .inl v_text))] → va_S A s.heap H locs → f_X9_advances_b229 k175 t1 v_next = some (R1, R2, R3, R4) → W p l e rm_X9_advances s m args below meth c H locs 0 0 QQ (F0 m 229 ls [.int t1, .ref a_this]) := by
    intro x1 v_token v_place k175 hk175 t1 v_next v_value ls hl H locs hP hD hS hf
    unfold f_X9_advances_b229 at hf
    refine va_put (D := G.1) (ci := 9) (v := .int t1) (ty := .int) (C := RX9) (T := TX9) (N := 26) hx hb hts inX9 tyX9 tyX9_ok nmX9 hown hK hP hD hS 0 rfl rfl 7 (by decide) lk81 (fun _ h9 => h9) rfl (by decide +kernel) rfl rfl (Nat.le_of_ble_eq_true rfl) dX9_advances_229 (fun H locs hP hD hS => ?_)
    have hP : va_P G.1 vwCl [(a_this, .inr (9, [.int v_thrown, .long v_trace, .ref a_this_text, .int v_typed, .int v_next, .int v_token, .int v_place, .int t1, .int v_fault, .int v_squares, .ref a_this_stars, .ref a_this_purses, .ref a_this_leases, .int v_starMany, .int v_tenants, .int v_draftSquares, .int v_draftStars, .int v_draftTenants, .int v_draftLeases, .ref a_this_s, .ref a_this_kept, .ref a_this_isKept, .ref a_this_offers, .int v_offerMany, .ref a_this_seen, .int v_seenMany])), (a_this_text, .inl (G.2.1, 300, .inl v_text))] H := hP
    have hD : va_D A [(a_this, .inr (9, [.int v_thrown, .long v_trace, .ref a_this_text, .int v_typed, .int v_next, .int v_token, .int v_place, .int t1, .int v_fault, .int v_squares, .ref a_this_stars, .ref a_this_purses, .ref a_this_leases, .int v_starMany, .int v_tenants, .int v_draftSquares, .int v_draftStars, .int v_draftTenants, .int v_draftLeases, .ref a_this_s, .ref a_this_kept, .ref a_this_isKept, .ref a_this_offers, .int v_offerMany, .ref a_this_seen, .int v_seenMany])), (a_this_text, .inl (G.2.1, 300, .inl v_text))] := hD
    refine lv_aload_n hx hb dX9_advances_232 rfl (lv_at hl 0 rfl) ?_
    refine lv_dup hx hb dX9_advances_233 rfl ?_
    refine va_get (D := G.1) (ci := 9) (v := .int v_next) (C := RX9) (T := TX9) (N := 26) hx hb hts inX9 hown hK hP 0 rfl rfl 4 (by decide) lk64 (fun _ h9 => h9) rfl dX9_advances_234 ?_
    refine lv_iconst (v := (1 : Int32)) hx hb dX9_advances_237 (by decide) ?_
    refine lv_iadd hx hb dX9_advances_238 ?_
    refine va_put (D := G.1) (ci := 9) (v := .int (v_next + (1 : Int32))) (ty := .int) (C := RX9) (T := TX9) (N := 26) hx hb hts inX9 tyX9 tyX9_ok nmX9 hown hK hP hD hS 0 rfl rfl 4 (by decide) lk64 (fun _ h9 => h9) rfl (by decide +kernel) rfl rfl (Nat.le_of_ble_eq_true rfl) dX9_advances_239 (fun H locs hP hD hS => ?_)
    have hP : va_P G.1 vwCl [(a_this, .inr (9, [.int v_thrown, .long v_trace, .ref a_this_text, .int v_typed, .int (v_next + (1 : Int32)), .int v_token, .int v_place, .int t1, .int v_fault, .int v_squares, .ref a_this_stars, .ref a_this_purses, .ref a_this_leases, .int v_starMany, .int v_tenants, .int v_draftSquares, .int v_draftStars, .int v_draftTenants, .int v_draftLeases, .ref a_this_s, .ref a_this_kept, .ref a_this_isKept, .ref a_this_offers, .int v_offerMany, .ref a_this_seen, .int v_seenMany])), (a_this_text, .inl (G.2.1, 300, .inl v_text))] H := hP
    have hD : va_D A [(a_this, .inr (9, [.int v_thrown, .long v_trace, .ref a_this_text, .int v_typed, .int (v_next + (1 : Int32)), .int v_token, .int v_place, .int t1, .int v_fault, .int v_squares, .ref a_this_stars, .ref a_this_purses, .ref a_this_leases, .int v_starMany, .int v_tenants, .int v_draftSquares, .int v_draftStars, .int v_draftTenants, .int v_draftLeases, .ref a_this_s, .ref a_this_kept, .ref a_this_isKept, .ref a_this_offers, .int v_offerMany, .ref a_this_seen, .int v_seenMany])), (a_this_text, .inl (G.2.1, 300, .inl v_text))] := hD
    refine lv_goto (tgt := 175) hx hb dX9_advances_242 (by decide) ?_
    exact hk175 ((v_next + (1 : Int32))) (t1) ls (lv_sub hl [0, 1] rfl) _ _ hP hD hS hf
  have j279 : ∀ (t1 : Int32), ∀ (v_next : Int32), ∀ (v_token : Int32), ∀ (v_place : Int32), ∀ (v_value : Int32), ∀ (ls : Array Slot), lv_has ls 4 [] → ∀ (H : Heap) (locs : List Loc), va_P G.1 vwCl [(a_this, .inr (9, [.int v_thrown, .long v_trace, .ref a_this_text, .int v_typed, .int v_next, .int v_token, .int v_place, .int v_value, .int v_fault, .int v_squares, .ref a_this_stars, .ref a_this_purses, .ref a_this_leases, .int v_starMany, .int v_tenants, .int v_draftSquares, .int v_draftStars, .int v_draftTenants, .int v_draftLeases, .ref a_this_s, .ref a_this_kept, .ref a_this_isKept, .ref a_this_offers, .int v_offerMany, .ref a_this_seen, .int v_seenMany])), (a_this_text, .inl (G.2.1, 300, .inl v_text))] H → va_D A [(a_this, .inr (9, [.int v_thrown, .long v_trace, .ref a_this_text, .int v_typed, .int v_next, .int v_token, .int v_place, .int v_value, .int v_fault, .int v_squares, .ref a_this_stars, .ref a_this_purses, .ref a_this_leases, .int v_starMany, .int v_tenants, .int v_draftSquares, .int v_draftStars, .int v_draftTenants, .int v_draftLeases, .ref a_this_s, .ref a_this_kept, .ref a_this_isKept, .ref a_this_offers, .int v_offerMany, .ref a_this_seen, .int v_seenMany])), (a_this_text, .inl (G.2.1, 300, .inl v_text))] → va_S A s.heap H locs → f_X9_advances_b279 t1 v_next v_place v_value = some (R1, R2, R3, R4) → W p l e rm_X9_advances s m args below meth c H locs 0 0 QQ (F0 m 279 ls [.int t1, .ref a_this]) := by
    intro t1 v_next v_token v_place v_value ls hl H locs hP hD hS hf
    unfold f_X9_advances_b279 at hf
    refine va_put (D := G.1) (ci := 9) (v := .int t1) (ty := .int) (C := RX9) (T := TX9) (N := 26) hx hb hts inX9 tyX9 tyX9_ok nmX9 hown hK hP hD hS 0 rfl rfl 5 (by decide) lk74 (fun _ h9 => h9) rfl (by decide +kernel) rfl rfl (Nat.le_of_ble_eq_true rfl) dX9_advances_279 (fun H locs hP hD hS => ?_)
    have hP : va_P G.1 vwCl [(a_this, .inr (9, [.int v_thrown, .long v_trace, .ref a_this_text, .int v_typed, .int v_next, .int t1, .int v_place, .int v_value, .int v_fault, .int v_squares, .ref a_this_stars, .ref a_this_purses, .ref a_this_leases, .int v_starMany, .int v_tenants, .int v_draftSquares, .int v_draftStars, .int v_draftTenants, .int v_draftLeases, .ref a_this_s, .ref a_this_kept, .ref a_this_isKept, .ref a_this_offers, .int v_offerMany, .ref a_this_seen, .int v_seenMany])), (a_this_text, .inl (G.2.1, 300, .inl v_text))] H := hP
    have hD : va_D A [(a_this, .inr (9, [.int v_thrown, .long v_trace, .ref a_this_text, .int v_typed, .int v_next, .int t1, .int v_place, .int v_value, .int v_fault, .int v_squares, .ref a_this_stars, .ref a_this_purses, .ref a_this_leases, .int v_starMany, .int v_tenants, .int v_draftSquares, .int v_draftStars, .int v_draftTenants, .int v_draftLeases, .ref a_this_s, .ref a_this_kept, .ref a_this_isKept, .ref a_this_offers, .int v_offerMany, .ref a_this_seen, .int v_seenMany])), (a_this_text, .inl (G.2.1, 300, .inl v_text))] := hD
    refine lv_goto (tgt := 310) hx hb dX9_advances_282 (by decide) ?_
    obtain ⟨hr0, hr1, hr2, hr3⟩ := so4 hf
    subst hr0
    subst hr1
    subst hr2
    subst hr3
    rw [← hQ]
    exact W.vret hx hb hr (fun t ht hW => ⟨⟨rfl, by rw [ht]; exact hP⟩, hS.F ht⟩) hS.2.2 dX9_advances_310
  have j274 : ∀ (v_next : Int32), ∀ (v_token : Int32), ∀ (v_place : Int32), ∀ (v_value : Int32), ∀ (ls : Array Slot), lv_has ls 4 [] → ∀ (H : Heap) (locs : List Loc), va_P G.1 vwCl [(a_this, .inr (9, [.int v_thrown, .long v_trace, .ref a_this_text, .int v_typed, .int v_next, .int v_token, .int v_place, .int v_value, .int v_fault, .int v_squares, .ref a_this_stars, .ref a_this_purses, .ref a_this_leases, .int v_starMany, .int v_tenants, .int v_draftSquares, .int v_draftStars, .int v_draftTenants, .int v_draftLeases, .ref a_this_s, .ref a_this_kept, .ref a_this_isKept, .ref a_this_offers, .int v_offerMany, .ref a_this_seen, .int v_seenMany])), (a_this_text, .inl (G.2.1, 300, .inl v_text))] H → va_D A [(a_this, .inr (9, [.int v_thrown, .long v_trace, .ref a_this_text, .int v_typed, .int v_next, .int v_token, .int v_place, .int v_value, .int v_fault, .int v_squares, .ref a_this_stars, .ref a_this_purses, .ref a_this_leases, .int v_starMany, .int v_tenants, .int v_draftSquares, .int v_draftStars, .int v_draftTenants, .int v_draftLeases, .ref a_this_s, .ref a_this_kept, .ref a_this_isKept, .ref a_this_offers, .int v_offerMany, .ref a_this_seen, .int v_seenMany])), (a_this_text, .inl (G.2.1, 300, .inl v_text))] → va_S A s.heap H locs → f_X9_advances_b274 v_next v_place v_value = some (R1, R2, R3, R4) → W p l e rm_X9_advances s m args below meth c H locs 0 0 QQ (F0 m 274 ls [.ref a_this]) := by
    intro v_next v_token v_place v_value ls hl H locs hP hD hS hf
    unfold f_X9_advances_b274 at hf
    refine lv_iconst (v := (4 : Int32)) hx hb dX9_advances_274 (by decide) ?_
    refine lv_goto (tgt := 279) hx hb dX9_advances_275 (by decide) ?_
    exact j279 ((4 : Int32)) (v_next) (v_token) (v_place) (v_value) ls (lv_sub hl [] rfl) _ _ hP hD hS hf
  have j278 : ∀ (v_next : Int32), ∀ (v_token : Int32), ∀ (v_place : Int32), ∀ (v_value : Int32), ∀ (ls : Array Slot), lv_has ls 4 [] → ∀ (H : Heap) (locs : List Loc), va_P G.1 vwCl [(a_this, .inr (9, [.int v_thrown, .long v_trace, .ref a_this_text, .int v_typed, .int v_next, .int v_token, .int v_place, .int v_value, .int v_fault, .int v_squares, .ref a_this_stars, .ref a_this_purses, .ref a_this_leases, .int v_starMany, .int v_tenants, .int v_draftSquares, .int v_draftStars, .int v_draftTenants, .int v_draftLeases, .ref a_this_s, .ref a_this_kept, .ref a_this_isKept, .ref a_this_offers, .int v_offerMany, .ref a_this_seen, .int v_seenMany])), (a_this_text, .inl (G.2.1, 300, .inl v_text))] H → va_D A [(a_this, .inr (9, [.int v_thrown, .long v_trace, .ref a_this_text, .int v_typed, .int v_next, .int v_token, .int v_place, .int v_value, .int v_fault, .int v_squares, .ref a_this_stars, .ref a_this_purses, .ref a_this_leases, .int v_starMany, .int v_tenants, .int v_draftSquares, .int v_draftStars, .int v_draftTenants, .int v_draftLeases, .ref a_this_s, .ref a_this_kept, .ref a_this_isKept, .ref a_this_offers, .int v_offerMany, .ref a_this_seen, .int v_seenMany])), (a_this_text, .inl (G.2.1, 300, .inl v_text))] → va_S A s.heap H locs → f_X9_advances_b278 v_next v_place v_value = some (R1, R2, R3, R4) → W p l e rm_X9_advances s m args below meth c H locs 0 0 QQ (F0 m 278 ls [.ref a_this]) := by
    intro v_next v_token v_place v_value ls hl H locs hP hD hS hf
    unfold f_X9_advances_b278 at hf
    refine lv_iconst (v := (2 : Int32)) hx hb dX9_advances_278 (by decide) ?_
    exact j279 ((2 : Int32)) (v_next) (v_token) (v_place) (v_value) ls (lv_sub hl [] rfl) _ _ hP hD hS hf
  have j175 : ∀ (x1 : Int32), ∀ (v_token : Int32), ∀ (v_place : Int32), ∀ (nn : Nat), ∀ (v_next : Int32), ∀ (v_value : Int32), ∀ (ls : Array Slot), lv_has ls 4 [(0, .ref a_this), (1, .int x1)] → ∀ (H : Heap) (locs : List Loc), va_P G.1 vwCl [(a_this, .inr (9, [.int v_thrown, .long v_trace, .ref a_this_text, .int v_typed, .int v_next, .int v_token, .int v_place, .int v_value, .int v_fault, .int v_squares, .ref a_this_stars, .ref a_this_purses, .ref a_this_leases, .int v_starMany, .int v_tenants, .int v_draftSquares, .int v_draftStars, .int v_draftTenants, .int v_draftLeases, .ref a_this_s, .ref a_this_kept, .ref a_this_isKept, .ref a_this_offers, .int v_offerMany, .ref a_this_seen, .int v_seenMany])), (a_this_text, .inl (G.2.1, 300, .inl v_text))] H → va_D A [(a_this, .inr (9, [.int v_thrown, .long v_trace, .ref a_this_text, .int v_typed, .int v_next, .int v_token, .int v_place, .int v_value, .int v_fault, .int v_squares, .ref a_this_stars, .ref a_this_purses, .ref a_this_leases, .int v_starMany, .int v_tenants, .int v_draftSquares, .int v_draftStars, .int v_draftTenants, .int v_draftLeases, .ref a_this_s, .ref a_this_kept, .ref a_this_isKept, .ref a_this_offers, .int v_offerMany, .ref a_this_seen, .int v_seenMany])), (a_this_text, .inl (G.2.1, 300, .inl v_text))] → va_S A s.heap H locs → f_X9_advances_b175 v_typed v_text x1 v_place nn v_next v_value = some (R1, R2, R3, R4) → W p l e rm_X9_advances s m args below meth c H locs 0 0 QQ (F0 m 175 ls []) := by
    intro x1 v_token v_place
    intro nn
    induction nn with
    | zero =>
      intro v_next v_value ls hl H locs hP hD hS hf
      rw [f_X9_advances_b175] at hf
      cases hf
    | succ n175 ih =>
      intro v_next v_value ls hl H locs hP hD hS hf
      rw [f_X9_advances_b175] at hf
      refine lv_aload_n hx hb dX9_advances_175 rfl (lv_at hl 0 rfl) ?_
      refine lv_aload_n hx hb dX9_advances_176 rfl (lv_at hl 0 rfl) ?_
      refine va_get (D := G.1) (ci := 9) (v := .int v_next) (C := RX9) (T := TX9) (N := 26) hx hb hts inX9 hown hK hP 0 rfl rfl 4 (by decide) lk64 (fun _ h9 => h9) rfl dX9_advances_177 ?_
      obtain ⟨r34, hu, hf⟩ := bd1_some hf
      refine zRi (va_runV (As := [.int v_next]) (rest := []) hC (c_X9_byteAt l G a_this a_this_text a_this_stars a_this_purses a_this_leases a_this_s a_this_kept a_this_isKept a_this_offers a_this_seen (v_thrown) (v_trace) (v_typed) (v_next) (v_token) (v_place) (v_value) (v_fault) (v_squares) (v_starMany) (v_tenants) (v_draftSquares) (v_draftStars) (v_draftTenants) (v_draftLeases) (v_offerMany) (v_seenMany) (v_text) (v_next) r34 hu) (cwV 1 hts gX9_advances_X9_byteAt rfl rfl rfl hd_X9_byteAt ⟨(Nat.le_of_ble_eq_true rfl), (Nat.le_of_ble_eq_true rfl)⟩) (zPV hE hP [0, 1] rfl 0 rfl rfl) rfl rfl hl.1 rfl (lv_room (Nat.le_of_ble_eq_true rfl)) dX9_advances_180 ⟨Nat.zero_le _, Nat.zero_le _⟩) ?_
      refine lv_bipush (v := (48 : Int32)) hx hb dX9_advances_183 (by decide) ?_
      refine lv_bipush (v := (57 : Int32)) hx hb dX9_advances_185 (by decide) ?_
      obtain ⟨r35, hu, hf⟩ := bd1_some hf
      refine zRi (va_runS (As := [.int r34, .int (48 : Int32), .int (57 : Int32)]) (rest := []) hC (c_X9_in l G (r34) ((48 : Int32)) ((57 : Int32)) r35 hu) (va_cwS 3 hts gX9_advances_X9_in rfl rfl rfl hd_X9_in.2 ⟨(Nat.le_of_ble_eq_true rfl), (Nat.le_of_ble_eq_true rfl)⟩) (zPS hE hP [] rfl) rfl rfl hl.1 rfl (lv_room (Nat.le_of_ble_eq_true rfl)) dX9_advances_187 ⟨Nat.zero_le _, Nat.zero_le _⟩) ?_
      refine lv_if_eq (tgt := 245) hx hb dX9_advances_190 (by decide) (fun hc36 => ?_) (fun hc36 => ?_)
      · have hf := if_t hf hc36
        refine lv_aload_n hx hb dX9_advances_245 rfl (lv_at hl 0 rfl) ?_
        refine lv_aload_n hx hb dX9_advances_246 rfl (lv_at hl 0 rfl) ?_
        refine va_get (D := G.1) (ci := 9) (v := .int v_value) (C := RX9) (T := TX9) (N := 26) hx hb hts inX9 hown hK hP 0 rfl rfl 7 (by decide) lk81 (fun _ h9 => h9) rfl dX9_advances_247 ?_
        refine lv_bipush (v := (99 : Int32)) hx hb dX9_advances_250 (by decide) ?_
        refine lv_icmp_gt (tgt := 274) hx hb dX9_advances_252 (by decide) (fun hc37 => ?_) (fun hc37 => ?_)
        · have hf := if_t hf hc37
          exact j274 (v_next) (v_token) (v_place) (v_value) ls (lv_sub hl [] rfl) _ _ hP hD hS hf
        · have hf := if_f hf hc37
          refine lv_iload_n hx hb dX9_advances_255 rfl (lv_at hl 1 rfl) ?_
          refine lv_bipush (v := (48 : Int32)) hx hb dX9_advances_256 (by decide) ?_
          refine lv_icmp_ne (tgt := 278) hx hb dX9_advances_258 (by decide) (fun hc38 => ?_) (fun hc38 => ?_)
          · have hf := if_f hf hc38
            exact j278 (v_next) (v_token) (v_place) (v_value) ls (lv_sub hl [] rfl) _ _ hP hD hS hf
          · have hf := if_t hf hc38
            refine lv_aload_n hx hb dX9_advances_261 rfl (lv_at hl 0 rfl) ?_
            refine va_get (D := G.1) (ci := 9) (v := .int v_next) (C := RX9) (T := TX9) (N := 26) hx hb hts inX9 hown hK hP 0 rfl rfl 4 (by decide) lk64 (fun _ h9 => h9) rfl dX9_advances_262 ?_
            refine lv_aload_n hx hb dX9_advances_265 rfl (lv_at hl 0 rfl) ?_
            refine va_get (D := G.1) (ci := 9) (v := .int v_place) (C := RX9) (T := TX9) (N := 26) hx hb hts inX9 hown hK hP 0 rfl rfl 6 (by decide) lk71 (fun _ h9 => h9) rfl dX9_advances_266 ?_
            refine lv_isub hx hb dX9_advances_269 ?_
            refine lv_iconst (v := (1 : Int32)) hx hb dX9_advances_270 (by decide) ?_
            refine lv_icmp_le (tgt := 278) hx hb dX9_advances_271 (by decide) (fun hc39 => ?_) (fun hc39 => ?_)
            · have hf := if_t hf hc39
              exact j278 (v_next) (v_token) (v_place) (v_value) ls (lv_sub hl [] rfl) _ _ hP hD hS hf
            · have hf := if_f hf hc39
              exact j274 (v_next) (v_token) (v_place) (v_value) ls (lv_sub hl [] rfl) _ _ hP hD hS hf
      · have hf := if_f hf hc36
        refine lv_aload_n hx hb dX9_advances_193 rfl (lv_at hl 0 rfl) ?_
        refine lv_aload_n hx hb dX9_advances_194 rfl (lv_at hl 0 rfl) ?_
        refine va_get (D := G.1) (ci := 9) (v := .int v_value) (C := RX9) (T := TX9) (N := 26) hx hb hts inX9 hown hK hP 0 rfl rfl 7 (by decide) lk81 (fun _ h9 => h9) rfl dX9_advances_195 ?_
        refine lv_bipush (v := (99 : Int32)) hx hb dX9_advances_198 (by decide) ?_
        refine lv_icmp_le (tgt := 210) hx hb dX9_advances_200 (by decide) (fun hc40 => ?_) (fun hc40 => ?_)
        · have hf := if_t hf hc40
          refine lv_bipush (v := (10 : Int32)) hx hb dX9_advances_210 (by decide) ?_
          refine lv_aload_n hx hb dX9_advances_212 rfl (lv_at hl 0 rfl) ?_
          refine va_get (D := G.1) (ci := 9) (v := .int v_value) (C := RX9) (T := TX9) (N := 26) hx hb hts inX9 hown hK hP 0 rfl rfl 7 (by decide) lk81 (fun _ h9 => h9) rfl dX9_advances_213 ?_
          refine lv_imul hx hb dX9_advances_216 ?_
          refine lv_aload_n hx hb dX9_advances_217 rfl (lv_at hl 0 rfl) ?_
          refine lv_aload_n hx hb dX9_advances_218 rfl (lv_at hl 0 rfl) ?_
          refine va_get (D := G.1) (ci := 9) (v := .int v_next) (C := RX9) (T := TX9) (N := 26) hx hb hts inX9 hown hK hP 0 rfl rfl 4 (by decide) lk64 (fun _ h9 => h9) rfl dX9_advances_219 ?_
          obtain ⟨r41, hu, hf⟩ := bd1_some hf
          refine zRi (va_runV (As := [.int v_next]) (rest := [.int ((10 : Int32) * v_value), .ref a_this]) hC (c_X9_byteAt l G a_this a_this_text a_this_stars a_this_purses a_this_leases a_this_s a_this_kept a_this_isKept a_this_offers a_this_seen (v_thrown) (v_trace) (v_typed) (v_next) (v_token) (v_place) (v_value) (v_fault) (v_squares) (v_starMany) (v_tenants) (v_draftSquares) (v_draftStars) (v_draftTenants) (v_draftLeases) (v_offerMany) (v_seenMany) (v_text) (v_next) r41 hu) (cwV 1 hts gX9_advances_X9_byteAt rfl rfl rfl hd_X9_byteAt ⟨(Nat.le_of_ble_eq_true rfl), (Nat.le_of_ble_eq_true rfl)⟩) (zPV hE hP [0, 1] rfl 0 rfl rfl) rfl rfl hl.1 rfl (lv_room (Nat.le_of_ble_eq_true rfl)) dX9_advances_222 ⟨Nat.zero_le _, Nat.zero_le _⟩) ?_
          refine lv_iadd hx hb dX9_advances_225 ?_
          refine lv_bipush (v := (48 : Int32)) hx hb dX9_advances_226 (by decide) ?_
          refine lv_isub hx hb dX9_advances_228 ?_
          exact j229 (x1) (v_token) (v_place) (f_X9_advances_b175 v_typed v_text x1 v_place n175) ih (((((10 : Int32) * v_value) + r41) - (48 : Int32))) (v_next) (v_value) ls (lv_sub hl [0, 1] rfl) _ _ hP hD hS hf
        · have hf := if_f hf hc40
          refine lv_aload_n hx hb dX9_advances_203 rfl (lv_at hl 0 rfl) ?_
          refine va_get (D := G.1) (ci := 9) (v := .int v_value) (C := RX9) (T := TX9) (N := 26) hx hb hts inX9 hown hK hP 0 rfl rfl 7 (by decide) lk81 (fun _ h9 => h9) rfl dX9_advances_204 ?_
          refine lv_goto (tgt := 229) hx hb dX9_advances_207 (by decide) ?_
          exact j229 (x1) (v_token) (v_place) (f_X9_advances_b175 v_typed v_text x1 v_place n175) ih (v_value) (v_next) (v_value) ls (lv_sub hl [0, 1] rfl) _ _ hP hD hS hf
  have j307 : ∀ (t1 : Int32), ∀ (v_next : Int32), ∀ (v_token : Int32), ∀ (v_place : Int32), ∀ (v_value : Int32), ∀ (ls : Array Slot), lv_has ls 4 [] → ∀ (H : Heap) (locs : List Loc), va_P G.1 vwCl [(a_this, .inr (9, [.int v_thrown, .long v_trace, .ref a_this_text, .int v_typed, .int v_next, .int v_token, .int v_place, .int v_value, .int v_fault, .int v_squares, .ref a_this_stars, .ref a_this_purses, .ref a_this_leases, .int v_starMany, .int v_tenants, .int v_draftSquares, .int v_draftStars, .int v_draftTenants, .int v_draftLeases, .ref a_this_s, .ref a_this_kept, .ref a_this_isKept, .ref a_this_offers, .int v_offerMany, .ref a_this_seen, .int v_seenMany])), (a_this_text, .inl (G.2.1, 300, .inl v_text))] H → va_D A [(a_this, .inr (9, [.int v_thrown, .long v_trace, .ref a_this_text, .int v_typed, .int v_next, .int v_token, .int v_place, .int v_value, .int v_fault, .int v_squares, .ref a_this_stars, .ref a_this_purses, .ref a_this_leases, .int v_starMany, .int v_tenants, .int v_draftSquares, .int v_draftStars, .int v_draftTenants, .int v_draftLeases, .ref a_this_s, .ref a_this_kept, .ref a_this_isKept, .ref a_this_offers, .int v_offerMany, .ref a_this_seen, .int v_seenMany])), (a_this_text, .inl (G.2.1, 300, .inl v_text))] → va_S A s.heap H locs → f_X9_advances_b307 t1 v_next v_place v_value = some (R1, R2, R3, R4) → W p l e rm_X9_advances s m args below meth c H locs 0 0 QQ (F0 m 307 ls [.int t1, .ref a_this]) := by
    intro t1 v_next v_token v_place v_value ls hl H locs hP hD hS hf
    unfold f_X9_advances_b307 at hf
    refine va_put (D := G.1) (ci := 9) (v := .int t1) (ty := .int) (C := RX9) (T := TX9) (N := 26) hx hb hts inX9 tyX9 tyX9_ok nmX9 hown hK hP hD hS 0 rfl rfl 5 (by decide) lk74 (fun _ h9 => h9) rfl (by decide +kernel) rfl rfl (Nat.le_of_ble_eq_true rfl) dX9_advances_307 (fun H locs hP hD hS => ?_)
    have hP : va_P G.1 vwCl [(a_this, .inr (9, [.int v_thrown, .long v_trace, .ref a_this_text, .int v_typed, .int v_next, .int t1, .int v_place, .int v_value, .int v_fault, .int v_squares, .ref a_this_stars, .ref a_this_purses, .ref a_this_leases, .int v_starMany, .int v_tenants, .int v_draftSquares, .int v_draftStars, .int v_draftTenants, .int v_draftLeases, .ref a_this_s, .ref a_this_kept, .ref a_this_isKept, .ref a_this_offers, .int v_offerMany, .ref a_this_seen, .int v_seenMany])), (a_this_text, .inl (G.2.1, 300, .inl v_text))] H := hP
    have hD : va_D A [(a_this, .inr (9, [.int v_thrown, .long v_trace, .ref a_this_text, .int v_typed, .int v_next, .int t1, .int v_place, .int v_value, .int v_fault, .int v_squares, .ref a_this_stars, .ref a_this_purses, .ref a_this_leases, .int v_starMany, .int v_tenants, .int v_draftSquares, .int v_draftStars, .int v_draftTenants, .int v_draftLeases, .ref a_this_s, .ref a_this_kept, .ref a_this_isKept, .ref a_this_offers, .int v_offerMany, .ref a_this_seen, .int v_seenMany])), (a_this_text, .inl (G.2.1, 300, .inl v_text))] := hD
    obtain ⟨hr0, hr1, hr2, hr3⟩ := so4 hf
    subst hr0
    subst hr1
    subst hr2
    subst hr3
    rw [← hQ]
    exact W.vret hx hb hr (fun t ht hW => ⟨⟨rfl, by rw [ht]; exact hP⟩, hS.F ht⟩) hS.2.2 dX9_advances_310
  have j0 : ∀ (v_token : Int32), ∀ (v_place : Int32), ∀ (v_value : Int32), ∀ (nn : Nat), ∀ (v_next : Int32), ∀ (ls : Array Slot), lv_has ls 4 [(0, .ref a_this)] → ∀ (H : Heap) (locs : List Loc), va_P G.1 vwCl [(a_this, .inr (9, [.int v_thrown, .long v_trace, .ref a_this_text, .int v_typed, .int v_next, .int v_token, .int v_place, .int v_value, .int v_fault, .int v_squares, .ref a_this_stars, .ref a_this_purses, .ref a_this_leases, .int v_starMany, .int v_tenants, .int v_draftSquares, .int v_draftStars, .int v_draftTenants, .int v_draftLeases, .ref a_this_s, .ref a_this_kept, .ref a_this_isKept, .ref a_this_offers, .int v_offerMany, .ref a_this_seen, .int v_seenMany])), (a_this_text, .inl (G.2.1, 300, .inl v_text))] H → va_D A [(a_this, .inr (9, [.int v_thrown, .long v_trace, .ref a_this_text, .int v_typed, .int v_next, .int v_token, .int v_place, .int v_value, .int v_fault, .int v_squares, .ref a_this_stars, .ref a_this_purses, .ref a_this_leases, .int v_starMany, .int v_tenants, .int v_draftSquares, .int v_draftStars, .int v_draftTenants, .int v_draftLeases, .ref a_this_s, .ref a_this_kept, .ref a_this_isKept, .ref a_this_offers, .int v_offerMany, .ref a_this_seen, .int v_seenMany])), (a_this_text, .inl (G.2.1, 300, .inl v_text))] → va_S A s.heap H locs → f_X9_advances_b0 v_typed v_text v_value nn v_next = some (R1, R2, R3, R4) → W p l e rm_X9_advances s m args below meth c H locs 0 0 QQ (F0 m 0 ls []) := by
    intro v_token v_place v_value
    intro nn
    induction nn with
    | zero =>
      intro v_next ls hl H locs hP hD hS hf
      rw [f_X9_advances_b0] at hf
      cases hf
    | succ n0 ih =>
      intro v_next ls hl H locs hP hD hS hf
      rw [f_X9_advances_b0] at hf
      refine lv_aload_n hx hb dX9_advances_0 rfl (lv_at hl 0 rfl) ?_
      refine lv_aload_n hx hb dX9_advances_1 rfl (lv_at hl 0 rfl) ?_
      refine va_get (D := G.1) (ci := 9) (v := .int v_next) (C := RX9) (T := TX9) (N := 26) hx hb hts inX9 hown hK hP 0 rfl rfl 4 (by decide) lk64 (fun _ h9 => h9) rfl dX9_advances_2 ?_
      obtain ⟨r42, hu, hf⟩ := bd1_some hf
      refine zRi (va_runV (As := [.int v_next]) (rest := []) hC (c_X9_byteAt l G a_this a_this_text a_this_stars a_this_purses a_this_leases a_this_s a_this_kept a_this_isKept a_this_offers a_this_seen (v_thrown) (v_trace) (v_typed) (v_next) (v_token) (v_place) (v_value) (v_fault) (v_squares) (v_starMany) (v_tenants) (v_draftSquares) (v_draftStars) (v_draftTenants) (v_draftLeases) (v_offerMany) (v_seenMany) (v_text) (v_next) r42 hu) (cwV 1 hts gX9_advances_X9_byteAt rfl rfl rfl hd_X9_byteAt ⟨(Nat.le_of_ble_eq_true rfl), (Nat.le_of_ble_eq_true rfl)⟩) (zPV hE hP [0, 1] rfl 0 rfl rfl) rfl rfl hl.1 rfl (lv_room (Nat.le_of_ble_eq_true rfl)) dX9_advances_5 ⟨Nat.zero_le _, Nat.zero_le _⟩) ?_
      refine lv_bipush (v := (32 : Int32)) hx hb dX9_advances_8 (by decide) ?_
      refine lv_icmp_ne (tgt := 26) hx hb dX9_advances_10 (by decide) (fun hc43 => ?_) (fun hc43 => ?_)
      · have hf := if_f hf hc43
        refine lv_aload_n hx hb dX9_advances_26 rfl (lv_at hl 0 rfl) ?_
        refine lv_aload_n hx hb dX9_advances_27 rfl (lv_at hl 0 rfl) ?_
        refine va_get (D := G.1) (ci := 9) (v := .int v_next) (C := RX9) (T := TX9) (N := 26) hx hb hts inX9 hown hK hP 0 rfl rfl 4 (by decide) lk64 (fun _ h9 => h9) rfl dX9_advances_28 ?_
        refine va_put (D := G.1) (ci := 9) (v := .int v_next) (ty := .int) (C := RX9) (T := TX9) (N := 26) hx hb hts inX9 tyX9 tyX9_ok nmX9 hown hK hP hD hS 0 rfl rfl 6 (by decide) lk71 (fun _ h9 => h9) rfl (by decide +kernel) rfl rfl (Nat.le_of_ble_eq_true rfl) dX9_advances_31 (fun H locs hP hD hS => ?_)
        have hP : va_P G.1 vwCl [(a_this, .inr (9, [.int v_thrown, .long v_trace, .ref a_this_text, .int v_typed, .int v_next, .int v_token, .int v_next, .int v_value, .int v_fault, .int v_squares, .ref a_this_stars, .ref a_this_purses, .ref a_this_leases, .int v_starMany, .int v_tenants, .int v_draftSquares, .int v_draftStars, .int v_draftTenants, .int v_draftLeases, .ref a_this_s, .ref a_this_kept, .ref a_this_isKept, .ref a_this_offers, .int v_offerMany, .ref a_this_seen, .int v_seenMany])), (a_this_text, .inl (G.2.1, 300, .inl v_text))] H := hP
        have hD : va_D A [(a_this, .inr (9, [.int v_thrown, .long v_trace, .ref a_this_text, .int v_typed, .int v_next, .int v_token, .int v_next, .int v_value, .int v_fault, .int v_squares, .ref a_this_stars, .ref a_this_purses, .ref a_this_leases, .int v_starMany, .int v_tenants, .int v_draftSquares, .int v_draftStars, .int v_draftTenants, .int v_draftLeases, .ref a_this_s, .ref a_this_kept, .ref a_this_isKept, .ref a_this_offers, .int v_offerMany, .ref a_this_seen, .int v_seenMany])), (a_this_text, .inl (G.2.1, 300, .inl v_text))] := hD
        refine lv_aload_n hx hb dX9_advances_34 rfl (lv_at hl 0 rfl) ?_
        refine lv_aload_n hx hb dX9_advances_35 rfl (lv_at hl 0 rfl) ?_
        refine va_get (D := G.1) (ci := 9) (v := .int v_next) (C := RX9) (T := TX9) (N := 26) hx hb hts inX9 hown hK hP 0 rfl rfl 4 (by decide) lk64 (fun _ h9 => h9) rfl dX9_advances_36 ?_
        obtain ⟨r44, hu, hf⟩ := bd1_some hf
        refine zRi (va_runV (As := [.int v_next]) (rest := []) hC (c_X9_byteAt l G a_this a_this_text a_this_stars a_this_purses a_this_leases a_this_s a_this_kept a_this_isKept a_this_offers a_this_seen (v_thrown) (v_trace) (v_typed) (v_next) (v_token) (v_next) (v_value) (v_fault) (v_squares) (v_starMany) (v_tenants) (v_draftSquares) (v_draftStars) (v_draftTenants) (v_draftLeases) (v_offerMany) (v_seenMany) (v_text) (v_next) r44 hu) (cwV 1 hts gX9_advances_X9_byteAt rfl rfl rfl hd_X9_byteAt ⟨(Nat.le_of_ble_eq_true rfl), (Nat.le_of_ble_eq_true rfl)⟩) (zPV hE hP [0, 1] rfl 0 rfl rfl) rfl rfl hl.1 rfl (lv_room (Nat.le_of_ble_eq_true rfl)) dX9_advances_39 ⟨Nat.zero_le _, Nat.zero_le _⟩) ?_
        refine lv_istore_n (lv' := [(1, .int r44), (0, .ref a_this)]) hx hb dX9_advances_42 rfl hl (by decide) rfl (fun ls hl => ?_)
        refine lv_iload_n hx hb dX9_advances_43 rfl (lv_at hl 0 rfl) ?_
        refine lv_if_ge (tgt := 55) hx hb dX9_advances_44 (by decide) (fun hc45 => ?_) (fun hc45 => ?_)
        · have hf := if_t hf hc45
          refine lv_iload_n hx hb dX9_advances_55 rfl (lv_at hl 0 rfl) ?_
          refine lv_bipush (v := (97 : Int32)) hx hb dX9_advances_56 (by decide) ?_
          refine lv_bipush (v := (122 : Int32)) hx hb dX9_advances_58 (by decide) ?_
          obtain ⟨r46, hu, hf⟩ := bd1_some hf
          refine zRi (va_runS (As := [.int r44, .int (97 : Int32), .int (122 : Int32)]) (rest := []) hC (c_X9_in l G (r44) ((97 : Int32)) ((122 : Int32)) r46 hu) (va_cwS 3 hts gX9_advances_X9_in rfl rfl rfl hd_X9_in.2 ⟨(Nat.le_of_ble_eq_true rfl), (Nat.le_of_ble_eq_true rfl)⟩) (zPS hE hP [] rfl) rfl rfl hl.1 rfl (lv_room (Nat.le_of_ble_eq_true rfl)) dX9_advances_60 ⟨Nat.zero_le _, Nat.zero_le _⟩) ?_
          refine lv_if_eq (tgt := 159) hx hb dX9_advances_63 (by decide) (fun hc47 => ?_) (fun hc47 => ?_)
          · have hf := if_t hf hc47
            refine lv_iload_n hx hb dX9_advances_159 rfl (lv_at hl 0 rfl) ?_
            refine lv_bipush (v := (48 : Int32)) hx hb dX9_advances_160 (by decide) ?_
            refine lv_bipush (v := (57 : Int32)) hx hb dX9_advances_162 (by decide) ?_
            obtain ⟨r48, hu, hf⟩ := bd1_some hf
            refine zRi (va_runS (As := [.int r44, .int (48 : Int32), .int (57 : Int32)]) (rest := []) hC (c_X9_in l G (r44) ((48 : Int32)) ((57 : Int32)) r48 hu) (va_cwS 3 hts gX9_advances_X9_in rfl rfl rfl hd_X9_in.2 ⟨(Nat.le_of_ble_eq_true rfl), (Nat.le_of_ble_eq_true rfl)⟩) (zPS hE hP [] rfl) rfl rfl hl.1 rfl (lv_room (Nat.le_of_ble_eq_true rfl)) dX9_advances_164 ⟨Nat.zero_le _, Nat.zero_le _⟩) ?_
            refine lv_if_eq (tgt := 285) hx hb dX9_advances_167 (by decide) (fun hc49 => ?_) (fun hc49 => ?_)
            · have hf := if_t hf hc49
              refine lv_aload_n hx hb dX9_advances_285 rfl (lv_at hl 1 rfl) ?_
              refine lv_dup hx hb dX9_advances_286 rfl ?_
              refine va_get (D := G.1) (ci := 9) (v := .int v_next) (C := RX9) (T := TX9) (N := 26) hx hb hts inX9 hown hK hP 0 rfl rfl 4 (by decide) lk64 (fun _ h9 => h9) rfl dX9_advances_287 ?_
              refine lv_iconst (v := (1 : Int32)) hx hb dX9_advances_290 (by decide) ?_
              refine lv_iadd hx hb dX9_advances_291 ?_
              refine va_put (D := G.1) (ci := 9) (v := .int (v_next + (1 : Int32))) (ty := .int) (C := RX9) (T := TX9) (N := 26) hx hb hts inX9 tyX9 tyX9_ok nmX9 hown hK hP hD hS 0 rfl rfl 4 (by decide) lk64 (fun _ h9 => h9) rfl (by decide +kernel) rfl rfl (Nat.le_of_ble_eq_true rfl) dX9_advances_292 (fun H locs hP hD hS => ?_)
              have hP : va_P G.1 vwCl [(a_this, .inr (9, [.int v_thrown, .long v_trace, .ref a_this_text, .int v_typed, .int (v_next + (1 : Int32)), .int v_token, .int v_next, .int v_value, .int v_fault, .int v_squares, .ref a_this_stars, .ref a_this_purses, .ref a_this_leases, .int v_starMany, .int v_tenants, .int v_draftSquares, .int v_draftStars, .int v_draftTenants, .int v_draftLeases, .ref a_this_s, .ref a_this_kept, .ref a_this_isKept, .ref a_this_offers, .int v_offerMany, .ref a_this_seen, .int v_seenMany])), (a_this_text, .inl (G.2.1, 300, .inl v_text))] H := hP
              have hD : va_D A [(a_this, .inr (9, [.int v_thrown, .long v_trace, .ref a_this_text, .int v_typed, .int (v_next + (1 : Int32)), .int v_token, .int v_next, .int v_value, .int v_fault, .int v_squares, .ref a_this_stars, .ref a_this_purses, .ref a_this_leases, .int v_starMany, .int v_tenants, .int v_draftSquares, .int v_draftStars, .int v_draftTenants, .int v_draftLeases, .ref a_this_s, .ref a_this_kept, .ref a_this_isKept, .ref a_this_offers, .int v_offerMany, .ref a_this_seen, .int v_seenMany])), (a_this_text, .inl (G.2.1, 300, .inl v_text))] := hD
              refine lv_aload_n hx hb dX9_advances_295 rfl (lv_at hl 1 rfl) ?_
              refine lv_iload_n hx hb dX9_advances_296 rfl (lv_at hl 0 rfl) ?_
              refine lv_bipush (v := (59 : Int32)) hx hb dX9_advances_297 (by decide) ?_
              refine lv_icmp_ne (tgt := 306) hx hb dX9_advances_299 (by decide) (fun hc50 => ?_) (fun hc50 => ?_)
              · have hf := if_f hf hc50
                refine lv_iconst (v := (4 : Int32)) hx hb dX9_advances_306 (by decide) ?_
                exact j307 ((4 : Int32)) ((v_next + (1 : Int32))) (v_token) (v_next) (v_value) ls (lv_sub hl [] rfl) _ _ hP hD hS hf
              · have hf := if_t hf hc50
                refine lv_iconst (v := (3 : Int32)) hx hb dX9_advances_302 (by decide) ?_
                refine lv_goto (tgt := 307) hx hb dX9_advances_303 (by decide) ?_
                exact j307 ((3 : Int32)) ((v_next + (1 : Int32))) (v_token) (v_next) (v_value) ls (lv_sub hl [] rfl) _ _ hP hD hS hf
            · have hf := if_f hf hc49
              refine lv_aload_n hx hb dX9_advances_170 rfl (lv_at hl 1 rfl) ?_
              refine lv_iconst (v := (0 : Int32)) hx hb dX9_advances_171 (by decide) ?_
              refine va_put (D := G.1) (ci := 9) (v := .int (0 : Int32)) (ty := .int) (C := RX9) (T := TX9) (N := 26) hx hb hts inX9 tyX9 tyX9_ok nmX9 hown hK hP hD hS 0 rfl rfl 7 (by decide) lk81 (fun _ h9 => h9) rfl (by decide +kernel) rfl rfl (Nat.le_of_ble_eq_true rfl) dX9_advances_172 (fun H locs hP hD hS => ?_)
              have hP : va_P G.1 vwCl [(a_this, .inr (9, [.int v_thrown, .long v_trace, .ref a_this_text, .int v_typed, .int v_next, .int v_token, .int v_next, .int (0 : Int32), .int v_fault, .int v_squares, .ref a_this_stars, .ref a_this_purses, .ref a_this_leases, .int v_starMany, .int v_tenants, .int v_draftSquares, .int v_draftStars, .int v_draftTenants, .int v_draftLeases, .ref a_this_s, .ref a_this_kept, .ref a_this_isKept, .ref a_this_offers, .int v_offerMany, .ref a_this_seen, .int v_seenMany])), (a_this_text, .inl (G.2.1, 300, .inl v_text))] H := hP
              have hD : va_D A [(a_this, .inr (9, [.int v_thrown, .long v_trace, .ref a_this_text, .int v_typed, .int v_next, .int v_token, .int v_next, .int (0 : Int32), .int v_fault, .int v_squares, .ref a_this_stars, .ref a_this_purses, .ref a_this_leases, .int v_starMany, .int v_tenants, .int v_draftSquares, .int v_draftStars, .int v_draftTenants, .int v_draftLeases, .ref a_this_s, .ref a_this_kept, .ref a_this_isKept, .ref a_this_offers, .int v_offerMany, .ref a_this_seen, .int v_seenMany])), (a_this_text, .inl (G.2.1, 300, .inl v_text))] := hD
              exact j175 (r44) (v_token) (v_next) zF (v_next) ((0 : Int32)) ls (lv_sub hl [1, 0] rfl) _ _ hP hD hS hf
          · have hf := if_f hf hc47
            refine lv_lconst (v := (0 : Int64)) hx hb dX9_advances_66 (by decide) ?_
            refine lv_lstore_n (lv' := [(2, .long (0 : Int64)), (1, .int r44), (0, .ref a_this)]) hx hb dX9_advances_67 rfl hl (by decide) rfl (fun ls hl => ?_)
            exact j68 (v_token) (v_next) (v_value) zF ((0 : Int64)) (v_next) ls (lv_sub hl [2, 0] rfl) _ _ hP hD hS hf
        · have hf := if_f hf hc45
          refine lv_aload_n hx hb dX9_advances_47 rfl (lv_at hl 1 rfl) ?_
          refine lv_iconst (v := (0 : Int32)) hx hb dX9_advances_48 (by decide) ?_
          refine va_put (D := G.1) (ci := 9) (v := .int (0 : Int32)) (ty := .int) (C := RX9) (T := TX9) (N := 26) hx hb hts inX9 tyX9 tyX9_ok nmX9 hown hK hP hD hS 0 rfl rfl 5 (by decide) lk74 (fun _ h9 => h9) rfl (by decide +kernel) rfl rfl (Nat.le_of_ble_eq_true rfl) dX9_advances_49 (fun H locs hP hD hS => ?_)
          have hP : va_P G.1 vwCl [(a_this, .inr (9, [.int v_thrown, .long v_trace, .ref a_this_text, .int v_typed, .int v_next, .int (0 : Int32), .int v_next, .int v_value, .int v_fault, .int v_squares, .ref a_this_stars, .ref a_this_purses, .ref a_this_leases, .int v_starMany, .int v_tenants, .int v_draftSquares, .int v_draftStars, .int v_draftTenants, .int v_draftLeases, .ref a_this_s, .ref a_this_kept, .ref a_this_isKept, .ref a_this_offers, .int v_offerMany, .ref a_this_seen, .int v_seenMany])), (a_this_text, .inl (G.2.1, 300, .inl v_text))] H := hP
          have hD : va_D A [(a_this, .inr (9, [.int v_thrown, .long v_trace, .ref a_this_text, .int v_typed, .int v_next, .int (0 : Int32), .int v_next, .int v_value, .int v_fault, .int v_squares, .ref a_this_stars, .ref a_this_purses, .ref a_this_leases, .int v_starMany, .int v_tenants, .int v_draftSquares, .int v_draftStars, .int v_draftTenants, .int v_draftLeases, .ref a_this_s, .ref a_this_kept, .ref a_this_isKept, .ref a_this_offers, .int v_offerMany, .ref a_this_seen, .int v_seenMany])), (a_this_text, .inl (G.2.1, 300, .inl v_text))] := hD
          refine lv_goto (tgt := 310) hx hb dX9_advances_52 (by decide) ?_
          obtain ⟨hr0, hr1, hr2, hr3⟩ := so4 hf
          subst hr0
          subst hr1
          subst hr2
          subst hr3
          rw [← hQ]
          exact W.vret hx hb hr (fun t ht hW => ⟨⟨rfl, by rw [ht]; exact hP⟩, hS.F ht⟩) hS.2.2 dX9_advances_310
      · have hf := if_t hf hc43
        refine lv_aload_n hx hb dX9_advances_13 rfl (lv_at hl 0 rfl) ?_
        refine lv_dup hx hb dX9_advances_14 rfl ?_
        refine va_get (D := G.1) (ci := 9) (v := .int v_next) (C := RX9) (T := TX9) (N := 26) hx hb hts inX9 hown hK hP 0 rfl rfl 4 (by decide) lk64 (fun _ h9 => h9) rfl dX9_advances_15 ?_
        refine lv_iconst (v := (1 : Int32)) hx hb dX9_advances_18 (by decide) ?_
        refine lv_iadd hx hb dX9_advances_19 ?_
        refine va_put (D := G.1) (ci := 9) (v := .int (v_next + (1 : Int32))) (ty := .int) (C := RX9) (T := TX9) (N := 26) hx hb hts inX9 tyX9 tyX9_ok nmX9 hown hK hP hD hS 0 rfl rfl 4 (by decide) lk64 (fun _ h9 => h9) rfl (by decide +kernel) rfl rfl (Nat.le_of_ble_eq_true rfl) dX9_advances_20 (fun H locs hP hD hS => ?_)
        have hP : va_P G.1 vwCl [(a_this, .inr (9, [.int v_thrown, .long v_trace, .ref a_this_text, .int v_typed, .int (v_next + (1 : Int32)), .int v_token, .int v_place, .int v_value, .int v_fault, .int v_squares, .ref a_this_stars, .ref a_this_purses, .ref a_this_leases, .int v_starMany, .int v_tenants, .int v_draftSquares, .int v_draftStars, .int v_draftTenants, .int v_draftLeases, .ref a_this_s, .ref a_this_kept, .ref a_this_isKept, .ref a_this_offers, .int v_offerMany, .ref a_this_seen, .int v_seenMany])), (a_this_text, .inl (G.2.1, 300, .inl v_text))] H := hP
        have hD : va_D A [(a_this, .inr (9, [.int v_thrown, .long v_trace, .ref a_this_text, .int v_typed, .int (v_next + (1 : Int32)), .int v_token, .int v_place, .int v_value, .int v_fault, .int v_squares, .ref a_this_stars, .ref a_this_purses, .ref a_this_leases, .int v_starMany, .int v_tenants, .int v_draftSquares, .int v_draftStars, .int v_draftTenants, .int v_draftLeases, .ref a_this_s, .ref a_this_kept, .ref a_this_isKept, .ref a_this_offers, .int v_offerMany, .ref a_this_seen, .int v_seenMany])), (a_this_text, .inl (G.2.1, 300, .inl v_text))] := hD
        refine lv_goto (tgt := 0) hx hb dX9_advances_23 (by decide) ?_
        exact ih ((v_next + (1 : Int32))) ls (lv_sub hl [0] rfl) _ _ hP hD hS hf
  have hSH := hS
  unfold f_X9_advances at hf
  exact j0 (v_token) (v_place) (v_value) zF (v_next) ls (lv_sub hl [0] rfl) _ _ hP hD hS hf
def f_X9_isWell  (v_fault : Int32)  : Option (Int32) := if (0 : Int32) ≤ v_fault then (some ((0 : Int32))) else (some ((1 : Int32)))
abbrev rm_X9_isWell : Room := { frames := 0, cells := 0, slots := 0, locals := 0 }
set_option maxHeartbeats 4000000 in
set_option maxRecDepth 100000 in
theorem c_X9_isWell (l : Launch) (G : zG) (a_this : Nat) (a_this_text : Nat) (a_this_stars : Nat) (a_this_purses : Nat) (a_this_leases : Nat) (a_this_s : Nat) (a_this_kept : Nat) (a_this_isKept : Nat) (a_this_offers : Nat) (a_this_seen : Nat) (v_thrown : Int32) (v_trace : Int64) (v_typed : Int32) (v_next : Int32) (v_token : Int32) (v_place : Int32) (v_value : Int32) (v_fault : Int32) (v_squares : Int32) (v_starMany : Int32) (v_tenants : Int32) (v_draftSquares : Int32) (v_draftStars : Int32) (v_draftTenants : Int32) (v_draftLeases : Int32) (v_offerMany : Int32) (v_seenMany : Int32) (R0 : Int32) (hf : f_X9_isWell v_fault = some R0) : Met l yX9_isWell wsX9_isWell rm_X9_isWell (va_Pc [.ref a_this] (zR G [(a_this, .inr (9, [.int v_thrown, .long v_trace, .ref a_this_text, .int v_typed, .int v_next, .int v_token, .int v_place, .int v_value, .int v_fault, .int v_squares, .ref a_this_stars, .ref a_this_purses, .ref a_this_leases, .int v_starMany, .int v_tenants, .int v_draftSquares, .int v_draftStars, .int v_draftTenants, .int v_draftLeases, .ref a_this_s, .ref a_this_kept, .ref a_this_isKept, .ref a_this_offers, .int v_offerMany, .ref a_this_seen, .int v_seenMany]))])) (zSv (some (.int R0))) 0 0 (fun _ => False) := by
  refine Met.ofW (cc := cX9_isWell) (maxL := 1) (ret := (some .boolean)) (by decide) rfl ?_
  intro p e s m args below meth c s₁ B hml hv
  obtain ⟨hargs, hP, hE⟩ := hv
  have hx := B.exec
  have hb := B.bytes
  have hr := B.returns
  have hts := atoms_spec (ws := wsX9_isWell) B.pre
  have hown : s.vm.findClass RX9 = some m.cls := findClass_of_methodNamed B.named
  have hlocks := B.notSynchronized
  have hK := hE.1
  have hC : CallFix p m c cX9_isWell 1 s args wsX9_isWell RX9 := ⟨hx, hb, hml, hown, hts⟩
  have inX9 : ∀ w ∈ wsX90, w ∈ wsX9_isWell := by decide +kernel
  have lk84 := hts (.fieldLink RX9 84 "SkyLeasesModel" "fault" "I") (by decide +kernel)
  have hl := lv_entry ([.ref a_this]) (n := 1) (Nat.le_of_ble_eq_true rfl)
  have hent : entryFrame m args 1 = F0 m 0 ((lg_sl ([.ref a_this]) ++ List.replicate (1 - (lg_sl ([.ref a_this])).length) Slot.unset).toArray) [] := by rw [hargs]; exact lg_entry_eq m [.ref a_this] 1
  refine W.eq hent ?_
  clear hent
  generalize (lg_sl ([.ref a_this]) ++ List.replicate (1 - (lg_sl ([.ref a_this])).length) Slot.unset).toArray = ls at hl ⊢
  have hl : lv_has ls 1 [(0, .ref a_this)] := hl
  generalize hQ : MQ below _ args s 0 0 _ = QQ
  change W p l e rm_X9_isWell s m args below meth c s.heap [] 0 0 QQ _
  unfold f_X9_isWell at hf
  refine lv_aload_n hx hb dX9_isWell_0 rfl (lv_at hl 0 rfl) ?_
  refine va_get (D := G.1) (ci := 9) (v := .int v_fault) (C := RX9) (T := TX9) (N := 26) hx hb hts inX9 hown hK hP 0 rfl rfl 8 (by decide) lk84 (fun _ h9 => h9) rfl dX9_isWell_1 ?_
  refine lv_if_ge (tgt := 11) hx hb dX9_isWell_4 (by decide) (fun hc2 => ?_) (fun hc2 => ?_)
  · have hf := if_t hf hc2
    refine lv_iconst (v := (0 : Int32)) hx hb dX9_isWell_11 (by decide) ?_
    have hr0 := so1 hf
    subst hr0
    rw [← hQ]
    exact W.zret (v := (0 : Int32)) hx hb hr rfl (fun t ht hW => ⟨rfl, ht⟩) (fun _ h => by cases h) dX9_isWell_12
  · have hf := if_f hf hc2
    refine lv_iconst (v := (1 : Int32)) hx hb dX9_isWell_7 (by decide) ?_
    refine lv_goto (tgt := 12) hx hb dX9_isWell_8 (by decide) ?_
    have hr0 := so1 hf
    subst hr0
    rw [← hQ]
    exact W.zret (v := (1 : Int32)) hx hb hr rfl (fun t ht hW => ⟨rfl, ht⟩) (fun _ h => by cases h) dX9_isWell_12
theorem hd_X9_advances : yX9_advances.cls = RX9 ∧ yX9_advances.cls ≠ "java/lang/invoke/MethodHandle" ∧ yX9_advances.cls ≠ "java/lang/invoke/VarHandle" ∧ (parseMethodDescriptor yX9_advances.desc).map (fun d => d.parameters.length) = some 0 := by decide +kernel
theorem hd_X9_isWell : yX9_isWell.cls = RX9 ∧ yX9_isWell.cls ≠ "java/lang/invoke/MethodHandle" ∧ yX9_isWell.cls ≠ "java/lang/invoke/VarHandle" ∧ (parseMethodDescriptor yX9_isWell.desc).map (fun d => d.parameters.length) = some 0 := by decide +kernel
def f_X9_takes  (v_typed : Int32) (v_next : Int32) (v_token : Int32) (v_place : Int32) (v_value : Int32) (v_fault : Int32) (v_text : (Nat → Int32)) (g1 : Int32) : Option (Int32 × Int32 × Int32 × Int32 × Int32 × Int32) := bd1 (f_X9_isWell (v_fault)) fun r8 => if r8 = (0 : Int32) then (some ((0 : Int32), v_next, v_token, v_place, v_value, v_fault)) else (if g1 = (0 : Int32) then (some ((0 : Int32), v_next, v_token, v_place, v_value, v_place)) else (bd4 (f_X9_advances (v_typed) (v_next) (v_token) (v_place) (v_value) (v_text)) fun w11 w12 w13 w14 => some (v_value, w11, w12, w13, w14, v_fault)))
abbrev rm_X9_takes : Room := { frames := 4, cells := 0, slots := 0, locals := 92 }
set_option maxHeartbeats 4000000 in
set_option maxRecDepth 100000 in
theorem c_X9_takes (l : Launch) (G : zG) (sz : Nat) (a_this : Nat) (a_this_text : Nat) (a_this_stars : Nat) (a_this_purses : Nat) (a_this_leases : Nat) (a_this_s : Nat) (a_this_kept : Nat) (a_this_isKept : Nat) (a_this_offers : Nat) (a_this_seen : Nat) (v_thrown : Int32) (v_trace : Int64) (v_typed : Int32) (v_next : Int32) (v_token : Int32) (v_place : Int32) (v_value : Int32) (v_fault : Int32) (v_squares : Int32) (v_starMany : Int32) (v_tenants : Int32) (v_draftSquares : Int32) (v_draftStars : Int32) (v_draftTenants : Int32) (v_draftLeases : Int32) (v_offerMany : Int32) (v_seenMany : Int32) (v_text : (Nat → Int32)) (g1 : Int32) (R0 : Int32) (R1 : Int32) (R2 : Int32) (R3 : Int32) (R4 : Int32) (R5 : Int32) (hf : f_X9_takes v_typed v_next v_token v_place v_value v_fault v_text g1 = some (R0, R1, R2, R3, R4, R5)) : Met l yX9_takes wsX9_takes rm_X9_takes (va_Pc [.ref a_this, .int g1] (zB G [(a_this, .inr (9, [.int v_thrown, .long v_trace, .ref a_this_text, .int v_typed, .int v_next, .int v_token, .int v_place, .int v_value, .int v_fault, .int v_squares, .ref a_this_stars, .ref a_this_purses, .ref a_this_leases, .int v_starMany, .int v_tenants, .int v_draftSquares, .int v_draftStars, .int v_draftTenants, .int v_draftLeases, .ref a_this_s, .ref a_this_kept, .ref a_this_isKept, .ref a_this_offers, .int v_offerMany, .ref a_this_seen, .int v_seenMany])), (a_this_text, .inl (G.2.1, 300, .inl v_text))] sz)) (zQ G (some (.int R0)) [(a_this, .inr (9, [.int v_thrown, .long v_trace, .ref a_this_text, .int v_typed, .int R1, .int R2, .int R3, .int R4, .int R5, .int v_squares, .ref a_this_stars, .ref a_this_purses, .ref a_this_leases, .int v_starMany, .int v_tenants, .int v_draftSquares, .int v_draftStars, .int v_draftTenants, .int v_draftLeases, .ref a_this_s, .ref a_this_kept, .ref a_this_isKept, .ref a_this_offers, .int v_offerMany, .ref a_this_seen, .int v_seenMany])), (a_this_text, .inl (G.2.1, 300, .inl v_text))] (va_A [(a_this, .inr (9, [.int v_thrown, .long v_trace, .ref a_this_text, .int v_typed, .int v_next, .int v_token, .int v_place, .int v_value, .int v_fault, .int v_squares, .ref a_this_stars, .ref a_this_purses, .ref a_this_leases, .int v_starMany, .int v_tenants, .int v_draftSquares, .int v_draftStars, .int v_draftTenants, .int v_draftLeases, .ref a_this_s, .ref a_this_kept, .ref a_this_isKept, .ref a_this_offers, .int v_offerMany, .ref a_this_seen, .int v_seenMany])), (a_this_text, .inl (G.2.1, 300, .inl v_text))] sz)) 0 0 (va_A [(a_this, .inr (9, [.int v_thrown, .long v_trace, .ref a_this_text, .int v_typed, .int v_next, .int v_token, .int v_place, .int v_value, .int v_fault, .int v_squares, .ref a_this_stars, .ref a_this_purses, .ref a_this_leases, .int v_starMany, .int v_tenants, .int v_draftSquares, .int v_draftStars, .int v_draftTenants, .int v_draftLeases, .ref a_this_s, .ref a_this_kept, .ref a_this_isKept, .ref a_this_offers, .int v_offerMany, .ref a_this_seen, .int v_seenMany])), (a_this_text, .inl (G.2.1, 300, .inl v_text))] sz) := by
  refine Met.ofW (cc := cX9_takes) (maxL := 3) (ret := (some .int)) (by decide) rfl ?_
  intro p e s m args below meth c s₁ B hml hv
  obtain ⟨hargs, hsz, hP, hD0, hE⟩ := hv
  have hx := B.exec
  have hb := B.bytes
  have hr := B.returns
  have hts := atoms_spec (ws := wsX9_takes) B.pre
  have hown : s.vm.findClass RX9 = some m.cls := findClass_of_methodNamed B.named
  have hlocks := B.notSynchronized
  have hK := hE.1
  have hC : CallFix p m c cX9_takes 3 s args wsX9_takes RX9 := ⟨hx, hb, hml, hown, hts⟩
  have inX9 : ∀ w ∈ wsX90, w ∈ wsX9_takes := by decide +kernel
  have lk71 := hts (.fieldLink RX9 71 "SkyLeasesModel" "place" "I") (by decide +kernel)
  have lk81 := hts (.fieldLink RX9 81 "SkyLeasesModel" "value" "I") (by decide +kernel)
  have lk84 := hts (.fieldLink RX9 84 "SkyLeasesModel" "fault" "I") (by decide +kernel)
  subst hsz
  have hD := hD0.self (sz := s.heap.size)
  generalize hAe : va_A [(a_this, .inr (9, [.int v_thrown, .long v_trace, .ref a_this_text, .int v_typed, .int v_next, .int v_token, .int v_place, .int v_value, .int v_fault, .int v_squares, .ref a_this_stars, .ref a_this_purses, .ref a_this_leases, .int v_starMany, .int v_tenants, .int v_draftSquares, .int v_draftStars, .int v_draftTenants, .int v_draftLeases, .ref a_this_s, .ref a_this_kept, .ref a_this_isKept, .ref a_this_offers, .int v_offerMany, .ref a_this_seen, .int v_seenMany])), (a_this_text, .inl (G.2.1, 300, .inl v_text))] s.heap.size = A at hD ⊢
  have hA : ∀ q : Nat, s.heap.size ≤ q → A q := fun q h => by rw [← hAe]; exact Or.inr h
  have hS : va_S A s.heap s.heap [] := va_S.rf
  have hP : va_P G.1 vwCl [(a_this, .inr (9, [.int v_thrown, .long v_trace, .ref a_this_text, .int v_typed, .int v_next, .int v_token, .int v_place, .int v_value, .int v_fault, .int v_squares, .ref a_this_stars, .ref a_this_purses, .ref a_this_leases, .int v_starMany, .int v_tenants, .int v_draftSquares, .int v_draftStars, .int v_draftTenants, .int v_draftLeases, .ref a_this_s, .ref a_this_kept, .ref a_this_isKept, .ref a_this_offers, .int v_offerMany, .ref a_this_seen, .int v_seenMany])), (a_this_text, .inl (G.2.1, 300, .inl v_text))] s.heap := hP
  have hl := lv_entry ([.ref a_this, .int g1]) (n := 3) (Nat.le_of_ble_eq_true rfl)
  have hent : entryFrame m args 3 = F0 m 0 ((lg_sl ([.ref a_this, .int g1]) ++ List.replicate (3 - (lg_sl ([.ref a_this, .int g1])).length) Slot.unset).toArray) [] := by rw [hargs]; exact lg_entry_eq m [.ref a_this, .int g1] 3
  refine W.eq hent ?_
  clear hent
  generalize (lg_sl ([.ref a_this, .int g1]) ++ List.replicate (3 - (lg_sl ([.ref a_this, .int g1])).length) Slot.unset).toArray = ls at hl ⊢
  have hl : lv_has ls 3 [(0, .ref a_this), (1, .int g1)] := hl
  generalize hQ : MQ below _ args s 0 0 _ = QQ
  change W p l e rm_X9_takes s m args below meth c s.heap [] 0 0 QQ _
  have hSH := hS
  unfold f_X9_takes at hf
  refine lv_aload_n hx hb dX9_takes_0 rfl (lv_at hl 0 rfl) ?_
  obtain ⟨r8, hu, hf⟩ := bd1_some hf
  refine zRi (va_runV (As := []) (rest := []) hC (c_X9_isWell l G a_this a_this_text a_this_stars a_this_purses a_this_leases a_this_s a_this_kept a_this_isKept a_this_offers a_this_seen (v_thrown) (v_trace) (v_typed) (v_next) (v_token) (v_place) (v_value) (v_fault) (v_squares) (v_starMany) (v_tenants) (v_draftSquares) (v_draftStars) (v_draftTenants) (v_draftLeases) (v_offerMany) (v_seenMany) r8 hu) (cwV 0 hts gX9_takes_X9_isWell rfl rfl rfl hd_X9_isWell ⟨(Nat.le_of_ble_eq_true rfl), (Nat.le_of_ble_eq_true rfl)⟩) (zPV hE hP [0] rfl 0 rfl rfl) rfl rfl hl.1 rfl (lv_room (Nat.le_of_ble_eq_true rfl)) dX9_takes_1 ⟨Nat.zero_le _, Nat.zero_le _⟩) ?_
  refine lv_if_ne (tgt := 9) hx hb dX9_takes_4 (by decide) (fun hc9 => ?_) (fun hc9 => ?_)
  · have hf := if_f hf hc9
    refine lv_iload_n hx hb dX9_takes_9 rfl (lv_at hl 1 rfl) ?_
    refine lv_if_ne (tgt := 23) hx hb dX9_takes_10 (by decide) (fun hc10 => ?_) (fun hc10 => ?_)
    · have hf := if_f hf hc10
      refine lv_aload_n hx hb dX9_takes_23 rfl (lv_at hl 0 rfl) ?_
      refine va_get (D := G.1) (ci := 9) (v := .int v_value) (C := RX9) (T := TX9) (N := 26) hx hb hts inX9 hown hK hP 0 rfl rfl 7 (by decide) lk81 (fun _ h9 => h9) rfl dX9_takes_24 ?_
      refine lv_istore_n (lv' := [(2, .int v_value), (0, .ref a_this), (1, .int g1)]) hx hb dX9_takes_27 rfl hl (by decide) rfl (fun ls hl => ?_)
      refine lv_aload_n hx hb dX9_takes_28 rfl (lv_at hl 1 rfl) ?_
      obtain ⟨w11, w12, w13, w14, hu, hf⟩ := bd4_some hf
      refine zWn (wr := []) (ws2 := [(a_this, .inr (9, [.int v_thrown, .long v_trace, .ref a_this_text, .int v_typed, .int w11, .int w12, .int w13, .int w14, .int v_fault, .int v_squares, .ref a_this_stars, .ref a_this_purses, .ref a_this_leases, .int v_starMany, .int v_tenants, .int v_draftSquares, .int v_draftStars, .int v_draftTenants, .int v_draftLeases, .ref a_this_s, .ref a_this_kept, .ref a_this_isKept, .ref a_this_offers, .int v_offerMany, .ref a_this_seen, .int v_seenMany])), (a_this_text, .inl (G.2.1, 300, .inl v_text))]) (va_runV (As := []) (rest := []) hC (c_X9_advances l G _ a_this a_this_text a_this_stars a_this_purses a_this_leases a_this_s a_this_kept a_this_isKept a_this_offers a_this_seen (v_thrown) (v_trace) (v_typed) (v_next) (v_token) (v_place) (v_value) (v_fault) (v_squares) (v_starMany) (v_tenants) (v_draftSquares) (v_draftStars) (v_draftTenants) (v_draftLeases) (v_offerMany) (v_seenMany) (v_text) w11 w12 w13 w14 hu) (cwV 0 hts gX9_takes_X9_advances rfl rfl rfl hd_X9_advances ⟨(Nat.le_of_ble_eq_true rfl), (Nat.le_of_ble_eq_true rfl)⟩) (zPVw hE hP hD [0, 1] rfl rfl 0 rfl rfl) rfl rfl hl.1 rfl (lv_room (Nat.le_of_ble_eq_true rfl)) dX9_takes_29 ⟨Nat.zero_le _, Nat.zero_le _⟩) hP hD hS hA [0, 1] [] [0, 1] rfl rfl rfl rfl (by decide) rfl rfl rfl (fun H locs hP hD hS => ?_)
      refine lv_iload_n hx hb dX9_takes_32 rfl (lv_at hl 0 rfl) ?_
      obtain ⟨hr0, hr1, hr2, hr3, hr4, hr5⟩ := so6 hf
      subst hr0
      subst hr1
      subst hr2
      subst hr3
      subst hr4
      subst hr5
      rw [← hQ]
      exact W.iret (v := v_value) hx hb hr (fun t ht hW => ⟨⟨rfl, by rw [ht]; exact hP⟩, hS.F ht⟩) hS.2.2 dX9_takes_33
    · have hf := if_t hf hc10
      refine lv_aload_n hx hb dX9_takes_13 rfl (lv_at hl 0 rfl) ?_
      refine lv_aload_n hx hb dX9_takes_14 rfl (lv_at hl 0 rfl) ?_
      refine va_get (D := G.1) (ci := 9) (v := .int v_place) (C := RX9) (T := TX9) (N := 26) hx hb hts inX9 hown hK hP 0 rfl rfl 6 (by decide) lk71 (fun _ h9 => h9) rfl dX9_takes_15 ?_
      refine va_put (D := G.1) (ci := 9) (v := .int v_place) (ty := .int) (C := RX9) (T := TX9) (N := 26) hx hb hts inX9 tyX9 tyX9_ok nmX9 hown hK hP hD hS 0 rfl rfl 8 (by decide) lk84 (fun _ h9 => h9) rfl (by decide +kernel) rfl rfl (Nat.le_of_ble_eq_true rfl) dX9_takes_18 (fun H locs hP hD hS => ?_)
      have hP : va_P G.1 vwCl [(a_this, .inr (9, [.int v_thrown, .long v_trace, .ref a_this_text, .int v_typed, .int v_next, .int v_token, .int v_place, .int v_value, .int v_place, .int v_squares, .ref a_this_stars, .ref a_this_purses, .ref a_this_leases, .int v_starMany, .int v_tenants, .int v_draftSquares, .int v_draftStars, .int v_draftTenants, .int v_draftLeases, .ref a_this_s, .ref a_this_kept, .ref a_this_isKept, .ref a_this_offers, .int v_offerMany, .ref a_this_seen, .int v_seenMany])), (a_this_text, .inl (G.2.1, 300, .inl v_text))] H := hP
      have hD : va_D A [(a_this, .inr (9, [.int v_thrown, .long v_trace, .ref a_this_text, .int v_typed, .int v_next, .int v_token, .int v_place, .int v_value, .int v_place, .int v_squares, .ref a_this_stars, .ref a_this_purses, .ref a_this_leases, .int v_starMany, .int v_tenants, .int v_draftSquares, .int v_draftStars, .int v_draftTenants, .int v_draftLeases, .ref a_this_s, .ref a_this_kept, .ref a_this_isKept, .ref a_this_offers, .int v_offerMany, .ref a_this_seen, .int v_seenMany])), (a_this_text, .inl (G.2.1, 300, .inl v_text))] := hD
      refine lv_iconst (v := (0 : Int32)) hx hb dX9_takes_21 (by decide) ?_
      obtain ⟨hr0, hr1, hr2, hr3, hr4, hr5⟩ := so6 hf
      subst hr0
      subst hr1
      subst hr2
      subst hr3
      subst hr4
      subst hr5
      rw [← hQ]
      exact W.iret (v := (0 : Int32)) hx hb hr (fun t ht hW => ⟨⟨rfl, by rw [ht]; exact hP⟩, hS.F ht⟩) hS.2.2 dX9_takes_22
  · have hf := if_t hf hc9
    refine lv_iconst (v := (0 : Int32)) hx hb dX9_takes_7 (by decide) ?_
    obtain ⟨hr0, hr1, hr2, hr3, hr4, hr5⟩ := so6 hf
    subst hr0
    subst hr1
    subst hr2
    subst hr3
    subst hr4
    subst hr5
    rw [← hQ]
    exact W.iret (v := (0 : Int32)) hx hb hr (fun t ht hW => ⟨⟨rfl, by rw [ht]; exact hP⟩, hS.F ht⟩) hS.2.2 dX9_takes_8
theorem hd_X9_takes : yX9_takes.cls = RX9 ∧ yX9_takes.cls ≠ "java/lang/invoke/MethodHandle" ∧ yX9_takes.cls ≠ "java/lang/invoke/VarHandle" ∧ (parseMethodDescriptor yX9_takes.desc).map (fun d => d.parameters.length) = some 1 := by decide +kernel
def f_X9_number_b26 (v_typed : Int32) (v_text : (Nat → Int32))   (t1 : Int32) (v_next : Int32) (v_token : Int32) (v_place : Int32) (v_value : Int32) (v_fault : Int32) : Option (Int32 × Int32 × Int32 × Int32 × Int32 × Int32) := bd6 (f_X9_takes (v_typed) (v_next) (v_token) (v_place) (v_value) (v_fault) (v_text) (t1)) fun r10 w11 w12 w13 w14 w15 => some (r10, w11, w12, w13, w14, w15)
def f_X9_number_b25 (v_typed : Int32) (v_text : (Nat → Int32))   (v_next : Int32) (v_token : Int32) (v_place : Int32) (v_value : Int32) (v_fault : Int32) : Option (Int32 × Int32 × Int32 × Int32 × Int32 × Int32) := f_X9_number_b26 v_typed v_text ((0 : Int32)) (v_next) (v_token) (v_place) (v_value) (v_fault)
def f_X9_number  (v_typed : Int32) (v_next : Int32) (v_token : Int32) (v_place : Int32) (v_value : Int32) (v_fault : Int32) (v_text : (Nat → Int32)) (g1 : Int32) (g2 : Int32) : Option (Int32 × Int32 × Int32 × Int32 × Int32 × Int32) := if v_token = (2 : Int32) then (bd1 (f_X9_in (v_value) (g1) (g2)) fun r17 => if r17 = (0 : Int32) then (f_X9_number_b25 v_typed v_text (v_next) (v_token) (v_place) (v_value) (v_fault)) else (f_X9_number_b26 v_typed v_text ((1 : Int32)) (v_next) (v_token) (v_place) (v_value) (v_fault))) else (f_X9_number_b25 v_typed v_text (v_next) (v_token) (v_place) (v_value) (v_fault))
abbrev rm_X9_number : Room := { frames := 5, cells := 0, slots := 0, locals := 114 }
set_option maxHeartbeats 4000000 in
set_option maxRecDepth 100000 in
theorem c_X9_number (l : Launch) (G : zG) (sz : Nat) (a_this : Nat) (a_this_text : Nat) (a_this_stars : Nat) (a_this_purses : Nat) (a_this_leases : Nat) (a_this_s : Nat) (a_this_kept : Nat) (a_this_isKept : Nat) (a_this_offers : Nat) (a_this_seen : Nat) (v_thrown : Int32) (v_trace : Int64) (v_typed : Int32) (v_next : Int32) (v_token : Int32) (v_place : Int32) (v_value : Int32) (v_fault : Int32) (v_squares : Int32) (v_starMany : Int32) (v_tenants : Int32) (v_draftSquares : Int32) (v_draftStars : Int32) (v_draftTenants : Int32) (v_draftLeases : Int32) (v_offerMany : Int32) (v_seenMany : Int32) (v_text : (Nat → Int32)) (g1 : Int32) (g2 : Int32) (R0 : Int32) (R1 : Int32) (R2 : Int32) (R3 : Int32) (R4 : Int32) (R5 : Int32) (hf : f_X9_number v_typed v_next v_token v_place v_value v_fault v_text g1 g2 = some (R0, R1, R2, R3, R4, R5)) : Met l yX9_number wsX9_number rm_X9_number (va_Pc [.ref a_this, .int g1, .int g2] (zB G [(a_this, .inr (9, [.int v_thrown, .long v_trace, .ref a_this_text, .int v_typed, .int v_next, .int v_token, .int v_place, .int v_value, .int v_fault, .int v_squares, .ref a_this_stars, .ref a_this_purses, .ref a_this_leases, .int v_starMany, .int v_tenants, .int v_draftSquares, .int v_draftStars, .int v_draftTenants, .int v_draftLeases, .ref a_this_s, .ref a_this_kept, .ref a_this_isKept, .ref a_this_offers, .int v_offerMany, .ref a_this_seen, .int v_seenMany])), (a_this_text, .inl (G.2.1, 300, .inl v_text))] sz)) (zQ G (some (.int R0)) [(a_this, .inr (9, [.int v_thrown, .long v_trace, .ref a_this_text, .int v_typed, .int R1, .int R2, .int R3, .int R4, .int R5, .int v_squares, .ref a_this_stars, .ref a_this_purses, .ref a_this_leases, .int v_starMany, .int v_tenants, .int v_draftSquares, .int v_draftStars, .int v_draftTenants, .int v_draftLeases, .ref a_this_s, .ref a_this_kept, .ref a_this_isKept, .ref a_this_offers, .int v_offerMany, .ref a_this_seen, .int v_seenMany])), (a_this_text, .inl (G.2.1, 300, .inl v_text))] (va_A [(a_this, .inr (9, [.int v_thrown, .long v_trace, .ref a_this_text, .int v_typed, .int v_next, .int v_token, .int v_place, .int v_value, .int v_fault, .int v_squares, .ref a_this_stars, .ref a_this_purses, .ref a_this_leases, .int v_starMany, .int v_tenants, .int v_draftSquares, .int v_draftStars, .int v_draftTenants, .int v_draftLeases, .ref a_this_s, .ref a_this_kept, .ref a_this_isKept, .ref a_this_offers, .int v_offerMany, .ref a_this_seen, .int v_seenMany])), (a_this_text, .inl (G.2.1, 300, .inl v_text))] sz)) 0 0 (va_A [(a_this, .inr (9, [.int v_thrown, .long v_trace, .ref a_this_text, .int v_typed, .int v_next, .int v_token, .int v_place, .int v_value, .int v_fault, .int v_squares, .ref a_this_stars, .ref a_this_purses, .ref a_this_leases, .int v_starMany, .int v_tenants, .int v_draftSquares, .int v_draftStars, .int v_draftTenants, .int v_draftLeases, .ref a_this_s, .ref a_this_kept, .ref a_this_isKept, .ref a_this_offers, .int v_offerMany, .ref a_this_seen, .int v_seenMany])), (a_this_text, .inl (G.2.1, 300, .inl v_text))] sz) := by
  refine Met.ofW (cc := cX9_number) (maxL := 3) (ret := (some .int)) (by decide) rfl ?_
  intro p e s m args below meth c s₁ B hml hv
  obtain ⟨hargs, hsz, hP, hD0, hE⟩ := hv
  have hx := B.exec
  have hb := B.bytes
  have hr := B.returns
  have hts := atoms_spec (ws := wsX9_number) B.pre
  have hown : s.vm.findClass RX9 = some m.cls := findClass_of_methodNamed B.named
  have hlocks := B.notSynchronized
  have hK := hE.1
  have hC : CallFix p m c cX9_number 3 s args wsX9_number RX9 := ⟨hx, hb, hml, hown, hts⟩
  have inX9 : ∀ w ∈ wsX90, w ∈ wsX9_number := by decide +kernel
  have lk74 := hts (.fieldLink RX9 74 "SkyLeasesModel" "token" "I") (by decide +kernel)
  have lk81 := hts (.fieldLink RX9 81 "SkyLeasesModel" "value" "I") (by decide +kernel)
  subst hsz
  have hD := hD0.self (sz := s.heap.size)
  generalize hAe : va_A [(a_this, .inr (9, [.int v_thrown, .long v_trace, .ref a_this_text, .int v_typed, .int v_next, .int v_token, .int v_place, .int v_value, .int v_fault, .int v_squares, .ref a_this_stars, .ref a_this_purses, .ref a_this_leases, .int v_starMany, .int v_tenants, .int v_draftSquares, .int v_draftStars, .int v_draftTenants, .int v_draftLeases, .ref a_this_s, .ref a_this_kept, .ref a_this_isKept, .ref a_this_offers, .int v_offerMany, .ref a_this_seen, .int v_seenMany])), (a_this_text, .inl (G.2.1, 300, .inl v_text))] s.heap.size = A at hD ⊢
  have hA : ∀ q : Nat, s.heap.size ≤ q → A q := fun q h => by rw [← hAe]; exact Or.inr h
  have hS : va_S A s.heap s.heap [] := va_S.rf
  have hP : va_P G.1 vwCl [(a_this, .inr (9, [.int v_thrown, .long v_trace, .ref a_this_text, .int v_typed, .int v_next, .int v_token, .int v_place, .int v_value, .int v_fault, .int v_squares, .ref a_this_stars, .ref a_this_purses, .ref a_this_leases, .int v_starMany, .int v_tenants, .int v_draftSquares, .int v_draftStars, .int v_draftTenants, .int v_draftLeases, .ref a_this_s, .ref a_this_kept, .ref a_this_isKept, .ref a_this_offers, .int v_offerMany, .ref a_this_seen, .int v_seenMany])), (a_this_text, .inl (G.2.1, 300, .inl v_text))] s.heap := hP
  have hl := lv_entry ([.ref a_this, .int g1, .int g2]) (n := 3) (Nat.le_of_ble_eq_true rfl)
  have hent : entryFrame m args 3 = F0 m 0 ((lg_sl ([.ref a_this, .int g1, .int g2]) ++ List.replicate (3 - (lg_sl ([.ref a_this, .int g1, .int g2])).length) Slot.unset).toArray) [] := by rw [hargs]; exact lg_entry_eq m [.ref a_this, .int g1, .int g2] 3
  refine W.eq hent ?_
  clear hent
  generalize (lg_sl ([.ref a_this, .int g1, .int g2]) ++ List.replicate (3 - (lg_sl ([.ref a_this, .int g1, .int g2])).length) Slot.unset).toArray = ls at hl ⊢
  have hl : lv_has ls 3 [(0, .ref a_this), (1, .int g1), (2, .int g2)] := hl
  generalize hQ : MQ below _ args s 0 0 _ = QQ
  change W p l e rm_X9_number s m args below meth c s.heap [] 0 0 QQ _
  have j26 : ∀ (t1 : Int32), ∀ (v_next : Int32), ∀ (v_token : Int32), ∀ (v_place : Int32), ∀ (v_value : Int32), ∀ (v_fault : Int32), ∀ (ls : Array Slot), lv_has ls 3 [] → ∀ (H : Heap) (locs : List Loc), va_P G.1 vwCl [(a_this, .inr (9, [.int v_thrown, .long v_trace, .ref a_this_text, .int v_typed, .int v_next, .int v_token, .int v_place, .int v_value, .int v_fault, .int v_squares, .ref a_this_stars, .ref a_this_purses, .ref a_this_leases, .int v_starMany, .int v_tenants, .int v_draftSquares, .int v_draftStars, .int v_draftTenants, .int v_draftLeases, .ref a_this_s, .ref a_this_kept, .ref a_this_isKept, .ref a_this_offers, .int v_offerMany, .ref a_this_seen, .int v_seenMany])), (a_this_text, .inl (G.2.1, 300, .inl v_text))] H → va_D A [(a_this, .inr (9, [.int v_thrown, .long v_trace, .ref a_this_text, .int v_typed, .int v_next, .int v_token, .int v_place, .int v_value, .int v_fault, .int v_squares, .ref a_this_stars, .ref a_this_purses, .ref a_this_leases, .int v_starMany, .int v_tenants, .int v_draftSquares, .int v_draftStars, .int v_draftTenants, .int v_draftLeases, .ref a_this_s, .ref a_this_kept, .ref a_this_isKept, .ref a_this_offers, .int v_offerMany, .ref a_this_seen, .int v_seenMany])), (a_this_text, .inl (G.2.1, 300, .inl v_text))] → va_S A s.heap H locs → f_X9_number_b26 v_typed v_text t1 v_next v_token v_place v_value v_fault = some (R0, R1, R2, R3, R4, R5) → W p l e rm_X9_number s m args below meth c H locs 0 0 QQ (F0 m 26 ls [.int t1, .ref a_this]) := by
    intro t1 v_next v_token v_place v_value v_fault ls hl H locs hP hD hS hf
    unfold f_X9_number_b26 at hf
    obtain ⟨r10, w11, w12, w13, w14, w15, hu, hf⟩ := bd6_some hf
    refine zWi (wr := []) (ws2 := [(a_this, .inr (9, [.int v_thrown, .long v_trace, .ref a_this_text, .int v_typed, .int w11, .int w12, .int w13, .int w14, .int w15, .int v_squares, .ref a_this_stars, .ref a_this_purses, .ref a_this_leases, .int v_starMany, .int v_tenants, .int v_draftSquares, .int v_draftStars, .int v_draftTenants, .int v_draftLeases, .ref a_this_s, .ref a_this_kept, .ref a_this_isKept, .ref a_this_offers, .int v_offerMany, .ref a_this_seen, .int v_seenMany])), (a_this_text, .inl (G.2.1, 300, .inl v_text))]) (va_runV (As := [.int t1]) (rest := []) hC (c_X9_takes l G _ a_this a_this_text a_this_stars a_this_purses a_this_leases a_this_s a_this_kept a_this_isKept a_this_offers a_this_seen (v_thrown) (v_trace) (v_typed) (v_next) (v_token) (v_place) (v_value) (v_fault) (v_squares) (v_starMany) (v_tenants) (v_draftSquares) (v_draftStars) (v_draftTenants) (v_draftLeases) (v_offerMany) (v_seenMany) (v_text) (t1) r10 w11 w12 w13 w14 w15 hu) (cwV 1 hts gX9_number_X9_takes rfl rfl rfl hd_X9_takes ⟨(Nat.le_of_ble_eq_true rfl), (Nat.le_of_ble_eq_true rfl)⟩) (zPVw hE hP hD [0, 1] rfl rfl 0 rfl rfl) rfl rfl hl.1 rfl (lv_room (Nat.le_of_ble_eq_true rfl)) dX9_number_26 ⟨Nat.zero_le _, Nat.zero_le _⟩) hP hD hS hA [0, 1] [] [0, 1] rfl rfl rfl rfl (by decide) rfl rfl rfl (fun H locs hP hD hS => ?_)
    obtain ⟨hr0, hr1, hr2, hr3, hr4, hr5⟩ := so6 hf
    subst hr0
    subst hr1
    subst hr2
    subst hr3
    subst hr4
    subst hr5
    rw [← hQ]
    exact W.iret (v := r10) hx hb hr (fun t ht hW => ⟨⟨rfl, by rw [ht]; exact hP⟩, hS.F ht⟩) hS.2.2 dX9_number_29
  have j25 : ∀ (v_next : Int32), ∀ (v_token : Int32), ∀ (v_place : Int32), ∀ (v_value : Int32), ∀ (v_fault : Int32), ∀ (ls : Array Slot), lv_has ls 3 [] → ∀ (H : Heap) (locs : List Loc), va_P G.1 vwCl [(a_this, .inr (9, [.int v_thrown, .long v_trace, .ref a_this_text, .int v_typed, .int v_next, .int v_token, .int v_place, .int v_value, .int v_fault, .int v_squares, .ref a_this_stars, .ref a_this_purses, .ref a_this_leases, .int v_starMany, .int v_tenants, .int v_draftSquares, .int v_draftStars, .int v_draftTenants, .int v_draftLeases, .ref a_this_s, .ref a_this_kept, .ref a_this_isKept, .ref a_this_offers, .int v_offerMany, .ref a_this_seen, .int v_seenMany])), (a_this_text, .inl (G.2.1, 300, .inl v_text))] H → va_D A [(a_this, .inr (9, [.int v_thrown, .long v_trace, .ref a_this_text, .int v_typed, .int v_next, .int v_token, .int v_place, .int v_value, .int v_fault, .int v_squares, .ref a_this_stars, .ref a_this_purses, .ref a_this_leases, .int v_starMany, .int v_tenants, .int v_draftSquares, .int v_draftStars, .int v_draftTenants, .int v_draftLeases, .ref a_this_s, .ref a_this_kept, .ref a_this_isKept, .ref a_this_offers, .int v_offerMany, .ref a_this_seen, .int v_seenMany])), (a_this_text, .inl (G.2.1, 300, .inl v_text))] → va_S A s.heap H locs → f_X9_number_b25 v_typed v_text v_next v_token v_place v_value v_fault = some (R0, R1, R2, R3, R4, R5) → W p l e rm_X9_number s m args below meth c H locs 0 0 QQ (F0 m 25 ls [.ref a_this]) := by
    intro v_next v_token v_place v_value v_fault ls hl H locs hP hD hS hf
    unfold f_X9_number_b25 at hf
    refine lv_iconst (v := (0 : Int32)) hx hb dX9_number_25 (by decide) ?_
    exact j26 ((0 : Int32)) (v_next) (v_token) (v_place) (v_value) (v_fault) ls (lv_sub hl [] rfl) _ _ hP hD hS hf
  have hSH := hS
  unfold f_X9_number at hf
  refine lv_aload_n hx hb dX9_number_0 rfl (lv_at hl 0 rfl) ?_
  refine lv_aload_n hx hb dX9_number_1 rfl (lv_at hl 0 rfl) ?_
  refine va_get (D := G.1) (ci := 9) (v := .int v_token) (C := RX9) (T := TX9) (N := 26) hx hb hts inX9 hown hK hP 0 rfl rfl 5 (by decide) lk74 (fun _ h9 => h9) rfl dX9_number_2 ?_
  refine lv_iconst (v := (2 : Int32)) hx hb dX9_number_5 (by decide) ?_
  refine lv_icmp_ne (tgt := 25) hx hb dX9_number_6 (by decide) (fun hc16 => ?_) (fun hc16 => ?_)
  · have hf := if_f hf hc16
    exact j25 (v_next) (v_token) (v_place) (v_value) (v_fault) ls (lv_sub hl [] rfl) _ _ hP hD hS hf
  · have hf := if_t hf hc16
    refine lv_aload_n hx hb dX9_number_9 rfl (lv_at hl 0 rfl) ?_
    refine va_get (D := G.1) (ci := 9) (v := .int v_value) (C := RX9) (T := TX9) (N := 26) hx hb hts inX9 hown hK hP 0 rfl rfl 7 (by decide) lk81 (fun _ h9 => h9) rfl dX9_number_10 ?_
    refine lv_iload_n hx hb dX9_number_13 rfl (lv_at hl 1 rfl) ?_
    refine lv_iload_n hx hb dX9_number_14 rfl (lv_at hl 2 rfl) ?_
    obtain ⟨r17, hu, hf⟩ := bd1_some hf
    refine zRi (va_runS (As := [.int v_value, .int g1, .int g2]) (rest := [.ref a_this]) hC (c_X9_in l G (v_value) (g1) (g2) r17 hu) (va_cwS 3 hts gX9_number_X9_in rfl rfl rfl hd_X9_in.2 ⟨(Nat.le_of_ble_eq_true rfl), (Nat.le_of_ble_eq_true rfl)⟩) (zPS hE hP [] rfl) rfl rfl hl.1 rfl (lv_room (Nat.le_of_ble_eq_true rfl)) dX9_number_15 ⟨Nat.zero_le _, Nat.zero_le _⟩) ?_
    refine lv_if_eq (tgt := 25) hx hb dX9_number_18 (by decide) (fun hc18 => ?_) (fun hc18 => ?_)
    · have hf := if_t hf hc18
      exact j25 (v_next) (v_token) (v_place) (v_value) (v_fault) ls (lv_sub hl [] rfl) _ _ hP hD hS hf
    · have hf := if_f hf hc18
      refine lv_iconst (v := (1 : Int32)) hx hb dX9_number_21 (by decide) ?_
      refine lv_goto (tgt := 26) hx hb dX9_number_22 (by decide) ?_
      exact j26 ((1 : Int32)) (v_next) (v_token) (v_place) (v_value) (v_fault) ls (lv_sub hl [] rfl) _ _ hP hD hS hf
