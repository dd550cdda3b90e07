theorem hd_X6_covers : yX6_covers.cls = RX6 ∧ yX6_covers.cls ≠ "java/lang/invoke/MethodHandle" ∧ yX6_covers.cls ≠ "java/lang/invoke/VarHandle" ∧ (parseMethodDescriptor yX6_covers.desc).map (fun d => d.parameters.length) = some 4 := by decide +kernel
def f_X8_ownerOf_b2 (v_now_leases_size : Int32) (v_told_squares : Int32) (v_now_leases_parts : (Nat → Int32))  (x1 : Int32) (x2 : Int32) : Nat → Int32 → Option (Int32)
  | 0, _ => none
  | n2 + 1, x3 => if v_now_leases_size ≤ x3 then (some ((-9 : Int32))) else (bd1 (f_X6_covers (v_now_leases_size) (v_now_leases_parts) (x3) (x1) (x2) (v_told_squares)) fun r6 => if r6 = (0 : Int32) then (f_X8_ownerOf_b2 v_now_leases_size v_told_squares v_now_leases_parts x1 x2 n2 ((x3 + (1 : Int32)))) else (bd1 (f_X6_part (v_now_leases_size) (v_now_leases_parts) (x3) ((0 : Int32))) fun r8 => some (r8)))
def f_X8_ownerOf  (v_now_leases_size : Int32) (v_told_squares : Int32) (v_now_leases_parts : (Nat → Int32)) (g1 : Int32) (g2 : Int32) : Option (Int32) := f_X8_ownerOf_b2 v_now_leases_size v_told_squares v_now_leases_parts (g1) (g2) zF ((0 : Int32))
abbrev rm_X8_ownerOf : Room := { frames := 3, cells := 0, slots := 0, locals := 69 }
set_option maxHeartbeats 4000000 in
set_option maxRecDepth 100000 in
theorem c_X8_ownerOf (l : Launch) (G : zG) (a_this : Nat) (a_this_now : Nat) (a_this_now_leases : Nat) (a_this_told : Nat) (a_this_now_leases_parts : Nat) (a_this_text : Nat) (a_this_reader : Nat) (a_this_draft : Nat) (a_this_firstImage : Nat) (a_this_secondImage : Nat) (a_this_kept : Nat) (a_this_offers : Nat) (a_this_seen : Nat) (a_this_rents : Nat) (a_this_now_purses : Nat) (a_this_now_past : Nat) (a_this_told_starts : Nat) (a_this_told_paces : Nat) (a_this_told_brights : Nat) (a_this_told_purses : Nat) (a_this_told_leases : Nat) (v_traced : Int64) (v_now_night : Int32) (v_now_lot : Int32) (v_now_leases_most : Int32) (v_now_leases_size : Int32) (v_told_squares : Int32) (v_told_stars : Int32) (v_told_tenants : Int32) (v_now_leases_parts : (Nat → Int32)) (g1 : Int32) (g2 : Int32) (R0 : Int32) (hf : f_X8_ownerOf v_now_leases_size v_told_squares v_now_leases_parts g1 g2 = some R0) : Met l yX8_ownerOf wsX8_ownerOf rm_X8_ownerOf (va_Pc [.ref a_this, .int g1, .int g2] (zR G [(a_this, .inr (8, [.ref a_this_text, .ref a_this_reader, .ref a_this_told, .ref a_this_draft, .ref a_this_now, .ref a_this_firstImage, .ref a_this_secondImage, .ref a_this_kept, .ref a_this_offers, .ref a_this_seen, .ref a_this_rents, .long v_traced])), (a_this_now, .inr (0, [.int v_now_night, .int v_now_lot, .ref a_this_now_purses, .ref a_this_now_leases, .ref a_this_now_past])), (a_this_now_leases, .inr (6, [.int v_now_leases_most, .ref a_this_now_leases_parts, .int v_now_leases_size])), (a_this_told, .inr (5, [.int v_told_squares, .int v_told_stars, .ref a_this_told_starts, .ref a_this_told_paces, .ref a_this_told_brights, .int v_told_tenants, .ref a_this_told_purses, .ref a_this_told_leases])), (a_this_now_leases_parts, .inl (G.2.1, 50, .inl v_now_leases_parts))])) (zSv (some (.int R0))) 0 0 (fun _ => False) := by
  refine Met.ofW (cc := cX8_ownerOf) (maxL := 4) (ret := (some .int)) (by decide) rfl ?_
  intro p e s m args below meth c s₁ B hml hv
  obtain ⟨hargs, hP, hE⟩ := hv
  have hx := B.exec
  have hb := B.bytes
  have hr := B.returns
  have hts := atoms_spec (ws := wsX8_ownerOf) B.pre
  have hown : s.vm.findClass RX8 = some m.cls := findClass_of_methodNamed B.named
  have hlocks := B.notSynchronized
  have hK := hE.1
  have hC : CallFix p m c cX8_ownerOf 4 s args wsX8_ownerOf RX8 := ⟨hx, hb, hml, hown, hts⟩
  have inX0 : ∀ w ∈ wsX00, w ∈ wsX8_ownerOf := by decide +kernel
  have inX5 : ∀ w ∈ wsX50, w ∈ wsX8_ownerOf := by decide +kernel
  have inX6 : ∀ w ∈ wsX60, w ∈ wsX8_ownerOf := by decide +kernel
  have inX8 : ∀ w ∈ wsX80, w ∈ wsX8_ownerOf := by decide +kernel
  have lk26 := hts (.fieldLink RX8 26 "SkyLeases" "told" "LSkyLeases$Sky;") (by decide +kernel)
  have lk36 := hts (.fieldLink RX8 36 "SkyLeases" "now" "LSkyLeases$Now;") (by decide +kernel)
  have lk99 := hts (.fieldLink RX8 99 "SkyLeases$Terms" "size" "I") (by decide +kernel)
  have lk116 := hts (.fieldLink RX8 116 "SkyLeases$Now" "leases" "LSkyLeases$Terms;") (by decide +kernel)
  have lk131 := hts (.fieldLink RX8 131 "SkyLeases$Sky" "squares" "I") (by decide +kernel)
  have hl := lv_entry ([.ref a_this, .int g1, .int g2]) (n := 4) (Nat.le_of_ble_eq_true rfl)
  have hent : entryFrame m args 4 = F0 m 0 ((lg_sl ([.ref a_this, .int g1, .int g2]) ++ List.replicate (4 - (lg_sl ([.ref a_this, .int g1, .int g2])).length) Slot.unset).toArray) [] := by rw [hargs]; exact lg_entry_eq m [.ref a_this, .int g1, .int g2] 4
  refine W.eq hent ?_
  clear hent
  generalize (lg_sl ([.ref a_this, .int g1, .int g2]) ++ List.replicate (4 - (lg_sl ([.ref a_this, .int g1, .int g2])).length) Slot.unset).toArray = ls at hl ⊢
  have hl : lv_has ls 4 [(0, .ref a_this), (1, .int g1), (2, .int g2)] := hl
  generalize hQ : MQ below _ args s 0 0 _ = QQ
  change W p l e rm_X8_ownerOf s m args below meth c s.heap [] 0 0 QQ _
  have j2 : ∀ (x1 : Int32), ∀ (x2 : Int32), ∀ (nn : Nat), ∀ (x3 : Int32), ∀ (ls : Array Slot), lv_has ls 4 [(0, .ref a_this), (1, .int x1), (2, .int x2), (3, .int x3)] → f_X8_ownerOf_b2 v_now_leases_size v_told_squares v_now_leases_parts x1 x2 nn x3 = some R0 → W p l e rm_X8_ownerOf s m args below meth c s.heap [] 0 0 QQ (F0 m 2 ls []) := by
    intro x1 x2
    intro nn
    induction nn with
    | zero =>
      intro x3 ls hl hf
      rw [f_X8_ownerOf_b2] at hf
      cases hf
    | succ n2 ih =>
      intro x3 ls hl hf
      rw [f_X8_ownerOf_b2] at hf
      refine lv_iload_n hx hb dX8_ownerOf_2 rfl (lv_at hl 3 rfl) ?_
      refine lv_aload_n hx hb dX8_ownerOf_3 rfl (lv_at hl 0 rfl) ?_
      refine va_get (D := G.1) (ci := 8) (v := .ref a_this_now) (C := RX8) (T := TX8) (N := 12) hx hb hts inX8 hown hK hP 0 rfl rfl 4 (by decide) lk36 (fun _ h9 => h9) rfl dX8_ownerOf_4 ?_
      refine va_get (D := G.1) (ci := 0) (v := .ref a_this_now_leases) (C := RX0) (T := TX0) (N := 5) hx hb hts inX0 hown hK hP 1 rfl rfl 3 (by decide) lk116 (fun _ h9 => h9) rfl dX8_ownerOf_7 ?_
      refine va_get (D := G.1) (ci := 6) (v := .int v_now_leases_size) (C := RX6) (T := TX6) (N := 3) hx hb hts inX6 hown hK hP 2 rfl rfl 2 (by decide) lk99 (fun _ h9 => h9) rfl dX8_ownerOf_10 ?_
      refine lv_icmp_ge (tgt := 58) hx hb dX8_ownerOf_13 (by decide) (fun hc5 => ?_) (fun hc5 => ?_)
      · have hf := if_t hf hc5
        refine lv_bipush (v := (-9 : Int32)) hx hb dX8_ownerOf_58 (by decide) ?_
        have hr0 := so1 hf
        subst hr0
        rw [← hQ]
        exact W.iret (v := (-9 : Int32)) hx hb hr (fun t ht hW => ⟨rfl, ht⟩) (fun _ h => by cases h) dX8_ownerOf_60
      · have hf := if_f hf hc5
        refine lv_aload_n hx hb dX8_ownerOf_16 rfl (lv_at hl 0 rfl) ?_
        refine va_get (D := G.1) (ci := 8) (v := .ref a_this_now) (C := RX8) (T := TX8) (N := 12) hx hb hts inX8 hown hK hP 0 rfl rfl 4 (by decide) lk36 (fun _ h9 => h9) rfl dX8_ownerOf_17 ?_
        refine va_get (D := G.1) (ci := 0) (v := .ref a_this_now_leases) (C := RX0) (T := TX0) (N := 5) hx hb hts inX0 hown hK hP 1 rfl rfl 3 (by decide) lk116 (fun _ h9 => h9) rfl dX8_ownerOf_20 ?_
        refine lv_iload_n hx hb dX8_ownerOf_23 rfl (lv_at hl 3 rfl) ?_
        refine lv_iload_n hx hb dX8_ownerOf_24 rfl (lv_at hl 1 rfl) ?_
        refine lv_iload_n hx hb dX8_ownerOf_25 rfl (lv_at hl 2 rfl) ?_
        refine lv_aload_n hx hb dX8_ownerOf_26 rfl (lv_at hl 0 rfl) ?_
        refine va_get (D := G.1) (ci := 8) (v := .ref a_this_told) (C := RX8) (T := TX8) (N := 12) hx hb hts inX8 hown hK hP 0 rfl rfl 2 (by decide) lk26 (fun _ h9 => h9) rfl dX8_ownerOf_27 ?_
        refine va_get (D := G.1) (ci := 5) (v := .int v_told_squares) (C := RX5) (T := TX5) (N := 8) hx hb hts inX5 hown hK hP 3 rfl rfl 0 (by decide) lk131 (fun _ h9 => h9) rfl dX8_ownerOf_30 ?_
        obtain ⟨r6, hu, hf⟩ := bd1_some hf
        refine zRi (va_runV (As := [.int x3, .int x1, .int x2, .int v_told_squares]) (rest := []) hC (c_X6_covers l G a_this_now_leases a_this_now_leases_parts (v_now_leases_most) (v_now_leases_size) (v_now_leases_parts) (x3) (x1) (x2) (v_told_squares) r6 hu) (cwV 4 hts gX8_ownerOf_X6_covers rfl rfl rfl hd_X6_covers ⟨(Nat.le_of_ble_eq_true rfl), (Nat.le_of_ble_eq_true rfl)⟩) (zPV hE hP [2, 4] rfl 2 rfl rfl) rfl rfl hl.1 rfl (lv_room (Nat.le_of_ble_eq_true rfl)) dX8_ownerOf_33 ⟨Nat.zero_le _, Nat.zero_le _⟩) ?_
        refine lv_if_eq (tgt := 52) hx hb dX8_ownerOf_36 (by decide) (fun hc7 => ?_) (fun hc7 => ?_)
        · have hf := if_t hf hc7
          refine lv_iinc (v := (x3 + (1 : Int32))) (lv' := [(3, .int (x3 + (1 : Int32))), (0, .ref a_this), (1, .int x1), (2, .int x2)]) hx hb dX8_ownerOf_52 hl (k := 3) rfl rfl (by decide) rfl (fun ls hl => ?_)
          refine lv_goto (tgt := 2) hx hb dX8_ownerOf_55 (by decide) ?_
          exact ih ((x3 + (1 : Int32))) ls (lv_sub hl [1, 2, 3, 0] rfl) hf
        · have hf := if_f hf hc7
          refine lv_aload_n hx hb dX8_ownerOf_39 rfl (lv_at hl 0 rfl) ?_
          refine va_get (D := G.1) (ci := 8) (v := .ref a_this_now) (C := RX8) (T := TX8) (N := 12) hx hb hts inX8 hown hK hP 0 rfl rfl 4 (by decide) lk36 (fun _ h9 => h9) rfl dX8_ownerOf_40 ?_
          refine va_get (D := G.1) (ci := 0) (v := .ref a_this_now_leases) (C := RX0) (T := TX0) (N := 5) hx hb hts inX0 hown hK hP 1 rfl rfl 3 (by decide) lk116 (fun _ h9 => h9) rfl dX8_ownerOf_43 ?_
          refine lv_iload_n hx hb dX8_ownerOf_46 rfl (lv_at hl 3 rfl) ?_
          refine lv_iconst (v := (0 : Int32)) hx hb dX8_ownerOf_47 (by decide) ?_
          obtain ⟨r8, hu, hf⟩ := bd1_some hf
          refine zRi (va_runV (As := [.int x3, .int (0 : Int32)]) (rest := []) hC (c_X6_part l G a_this_now_leases a_this_now_leases_parts (v_now_leases_most) (v_now_leases_size) (v_now_leases_parts) (x3) ((0 : Int32)) r8 hu) (cwV 2 hts gX8_ownerOf_X6_part rfl rfl rfl hd_X6_part ⟨(Nat.le_of_ble_eq_true rfl), (Nat.le_of_ble_eq_true rfl)⟩) (zPV hE hP [2, 4] rfl 2 rfl rfl) rfl rfl hl.1 rfl (lv_room (Nat.le_of_ble_eq_true rfl)) dX8_ownerOf_48 ⟨Nat.zero_le _, Nat.zero_le _⟩) ?_
          have hr0 := so1 hf
          subst hr0
          rw [← hQ]
          exact W.iret (v := r8) hx hb hr (fun t ht hW => ⟨rfl, ht⟩) (fun _ h => by cases h) dX8_ownerOf_51
  unfold f_X8_ownerOf at hf
  refine lv_iconst (v := (0 : Int32)) hx hb dX8_ownerOf_0 (by decide) ?_
  refine lv_istore_n (lv' := [(3, .int (0 : Int32)), (0, .ref a_this), (1, .int g1), (2, .int g2)]) hx hb dX8_ownerOf_1 rfl hl (by decide) rfl (fun ls hl => ?_)
  exact j2 (g1) (g2) zF ((0 : Int32)) ls (lv_sub hl [1, 2, 3, 0] rfl) hf
theorem hd_X8_ownerOf : yX8_ownerOf.cls = RX8 ∧ yX8_ownerOf.cls ≠ "java/lang/invoke/MethodHandle" ∧ yX8_ownerOf.cls ≠ "java/lang/invoke/VarHandle" ∧ (parseMethodDescriptor yX8_ownerOf.desc).map (fun d => d.parameters.length) = some 2 := by decide +kernel
def f_X8_hasAnyStar_b2 (v_told_squares : Int32) (v_told_stars : Int32) (v_told_paces : (Nat → Int32)) (v_told_starts : (Nat → Int32)) (v_now_leases_size : Int32) (v_now_leases_parts : (Nat → Int32))  (x1 : Int32) (x2 : Int32) : Nat → Int32 → Option (Int32)
  | 0, _ => none
  | n2 + 1, x3 => if v_told_stars ≤ x3 then (some ((0 : Int32))) else (bd1 (f_X5_squareOf (v_told_squares) (v_told_stars) (v_told_paces) (v_told_starts) (x3) (x2)) fun r6 => bd1 (f_X8_ownerOf (v_now_leases_size) (v_told_squares) (v_now_leases_parts) (r6) (x2)) fun r7 => if r7 = x1 then (some ((1 : Int32))) else (f_X8_hasAnyStar_b2 v_told_squares v_told_stars v_told_paces v_told_starts v_now_leases_size v_now_leases_parts x1 x2 n2 ((x3 + (1 : Int32)))))
def f_X8_hasAnyStar  (v_told_squares : Int32) (v_told_stars : Int32) (v_told_paces : (Nat → Int32)) (v_told_starts : (Nat → Int32)) (v_now_leases_size : Int32) (v_now_leases_parts : (Nat → Int32)) (g1 : Int32) (g2 : Int32) : Option (Int32) := f_X8_hasAnyStar_b2 v_told_squares v_told_stars v_told_paces v_told_starts v_now_leases_size v_now_leases_parts (g1) (g2) zF ((0 : Int32))
abbrev rm_X8_hasAnyStar : Room := { frames := 4, cells := 0, slots := 0, locals := 92 }
set_option maxHeartbeats 4000000 in
set_option maxRecDepth 100000 in
theorem c_X8_hasAnyStar (l : Launch) (G : zG) (a_this : Nat) (a_this_told : Nat) (a_this_told_paces : Nat) (a_this_told_starts : Nat) (a_this_now : Nat) (a_this_now_leases : Nat) (a_this_now_leases_parts : Nat) (a_this_text : Nat) (a_this_reader : Nat) (a_this_draft : Nat) (a_this_firstImage : Nat) (a_this_secondImage : Nat) (a_this_kept : Nat) (a_this_offers : Nat) (a_this_seen : Nat) (a_this_rents : Nat) (a_this_told_brights : Nat) (a_this_told_purses : Nat) (a_this_told_leases : Nat) (a_this_now_purses : Nat) (a_this_now_past : Nat) (v_traced : Int64) (v_told_squares : Int32) (v_told_stars : Int32) (v_told_tenants : Int32) (v_told_paces : (Nat → Int32)) (v_told_starts : (Nat → Int32)) (v_now_night : Int32) (v_now_lot : Int32) (v_now_leases_most : Int32) (v_now_leases_size : Int32) (v_now_leases_parts : (Nat → Int32)) (g1 : Int32) (g2 : Int32) (R0 : Int32) (hf : f_X8_hasAnyStar v_told_squares v_told_stars v_told_paces v_told_starts v_now_leases_size v_now_leases_parts g1 g2 = some R0) : Met l yX8_hasAnyStar wsX8_hasAnyStar rm_X8_hasAnyStar (va_Pc [.ref a_this, .int g1, .int g2] (zR G [(a_this, .inr (8, [.ref a_this_text, .ref a_this_reader, .ref a_this_told, .ref a_this_draft, .ref a_this_now, .ref a_this_firstImage, .ref a_this_secondImage, .ref a_this_kept, .ref a_this_offers, .ref a_this_seen, .ref a_this_rents, .long v_traced])), (a_this_told, .inr (5, [.int v_told_squares, .int v_told_stars, .ref a_this_told_starts, .ref a_this_told_paces, .ref a_this_told_brights, .int v_told_tenants, .ref a_this_told_purses, .ref a_this_told_leases])), (a_this_told_paces, .inl (G.2.1, 8, .inl v_told_paces)), (a_this_told_starts, .inl (G.2.1, 8, .inl v_told_starts)), (a_this_now, .inr (0, [.int v_now_night, .int v_now_lot, .ref a_this_now_purses, .ref a_this_now_leases, .ref a_this_now_past])), (a_this_now_leases, .inr (6, [.int v_now_leases_most, .ref a_this_now_leases_parts, .int v_now_leases_size])), (a_this_now_leases_parts, .inl (G.2.1, 50, .inl v_now_leases_parts))])) (zSv (some (.int R0))) 0 0 (fun _ => False) := by
  refine Met.ofW (cc := cX8_hasAnyStar) (maxL := 4) (ret := (some .boolean)) (by decide) rfl ?_
  intro p e s m args below meth c s₁ B hml hv
  obtain ⟨hargs, hP, hE⟩ := hv
  have hx := B.exec
  have hb := B.bytes
  have hr := B.returns
  have hts := atoms_spec (ws := wsX8_hasAnyStar) B.pre
  have hown : s.vm.findClass RX8 = some m.cls := findClass_of_methodNamed B.named
  have hlocks := B.notSynchronized
  have hK := hE.1
  have hC : CallFix p m c cX8_hasAnyStar 4 s args wsX8_hasAnyStar RX8 := ⟨hx, hb, hml, hown, hts⟩
  have inX5 : ∀ w ∈ wsX50, w ∈ wsX8_hasAnyStar := by decide +kernel
  have inX8 : ∀ w ∈ wsX80, w ∈ wsX8_hasAnyStar := by decide +kernel
  have lk26 := hts (.fieldLink RX8 26 "SkyLeases" "told" "LSkyLeases$Sky;") (by decide +kernel)
  have lk265 := hts (.fieldLink RX8 265 "SkyLeases$Sky" "stars" "I") (by decide +kernel)
  have hl := lv_entry ([.ref a_this, .int g1, .int g2]) (n := 4) (Nat.le_of_ble_eq_true rfl)
  have hent : entryFrame m args 4 = F0 m 0 ((lg_sl ([.ref a_this, .int g1, .int g2]) ++ List.replicate (4 - (lg_sl ([.ref a_this, .int g1, .int g2])).length) Slot.unset).toArray) [] := by rw [hargs]; exact lg_entry_eq m [.ref a_this, .int g1, .int g2] 4
  refine W.eq hent ?_
  clear hent
  generalize (lg_sl ([.ref a_this, .int g1, .int g2]) ++ List.replicate (4 - (lg_sl ([.ref a_this, .int g1, .int g2])).length) Slot.unset).toArray = ls at hl ⊢
  have hl : lv_has ls 4 [(0, .ref a_this), (1, .int g1), (2, .int g2)] := hl
  generalize hQ : MQ below _ args s 0 0 _ = QQ
  change W p l e rm_X8_hasAnyStar s m args below meth c s.heap [] 0 0 QQ _
  have j2 : ∀ (x1 : Int32), ∀ (x2 : Int32), ∀ (nn : Nat), ∀ (x3 : Int32), ∀ (ls : Array Slot), lv_has ls 4 [(0, .ref a_this), (1, .int x1), (2, .int x2), (3, .int x3)] → f_X8_hasAnyStar_b2 v_told_squares v_told_stars v_told_paces v_told_starts v_now_leases_size v_now_leases_parts x1 x2 nn x3 = some R0 → W p l e rm_X8_hasAnyStar s m args below meth c s.heap [] 0 0 QQ (F0 m 2 ls []) := by
    intro x1 x2
    intro nn
    induction nn with
    | zero =>
      intro x3 ls hl hf
      rw [f_X8_hasAnyStar_b2] at hf
      cases hf
    | succ n2 ih =>
      intro x3 ls hl hf
      rw [f_X8_hasAnyStar_b2] at hf
      refine lv_iload_n hx hb dX8_hasAnyStar_2 rfl (lv_at hl 3 rfl) ?_
      refine lv_aload_n hx hb dX8_hasAnyStar_3 rfl (lv_at hl 0 rfl) ?_
      refine va_get (D := G.1) (ci := 8) (v := .ref a_this_told) (C := RX8) (T := TX8) (N := 12) hx hb hts inX8 hown hK hP 0 rfl rfl 2 (by decide) lk26 (fun _ h9 => h9) rfl dX8_hasAnyStar_4 ?_
      refine va_get (D := G.1) (ci := 5) (v := .int v_told_stars) (C := RX5) (T := TX5) (N := 8) hx hb hts inX5 hown hK hP 1 rfl rfl 1 (by decide) lk265 (fun _ h9 => h9) rfl dX8_hasAnyStar_7 ?_
      refine lv_icmp_ge (tgt := 39) hx hb dX8_hasAnyStar_10 (by decide) (fun hc5 => ?_) (fun hc5 => ?_)
      · have hf := if_t hf hc5
        refine lv_iconst (v := (0 : Int32)) hx hb dX8_hasAnyStar_39 (by decide) ?_
        have hr0 := so1 hf
        subst hr0
        rw [← hQ]
        exact W.zret (v := (0 : Int32)) hx hb hr rfl (fun t ht hW => ⟨rfl, ht⟩) (fun _ h => by cases h) dX8_hasAnyStar_40
      · have hf := if_f hf hc5
        refine lv_aload_n hx hb dX8_hasAnyStar_13 rfl (lv_at hl 0 rfl) ?_
        refine lv_aload_n hx hb dX8_hasAnyStar_14 rfl (lv_at hl 0 rfl) ?_
        refine va_get (D := G.1) (ci := 8) (v := .ref a_this_told) (C := RX8) (T := TX8) (N := 12) hx hb hts inX8 hown hK hP 0 rfl rfl 2 (by decide) lk26 (fun _ h9 => h9) rfl dX8_hasAnyStar_15 ?_
        refine lv_iload_n hx hb dX8_hasAnyStar_18 rfl (lv_at hl 3 rfl) ?_
        refine lv_iload_n hx hb dX8_hasAnyStar_19 rfl (lv_at hl 2 rfl) ?_
        obtain ⟨r6, hu, hf⟩ := bd1_some hf
        refine zRi (va_runV (As := [.int x3, .int x2]) (rest := [.ref a_this]) hC (c_X5_squareOf l G a_this_told a_this_told_paces a_this_told_starts a_this_told_brights a_this_told_purses a_this_told_leases (v_told_squares) (v_told_stars) (v_told_tenants) (v_told_paces) (v_told_starts) (x3) (x2) r6 hu) (cwV 2 hts gX8_hasAnyStar_X5_squareOf rfl rfl rfl hd_X5_squareOf ⟨(Nat.le_of_ble_eq_true rfl), (Nat.le_of_ble_eq_true rfl)⟩) (zPV hE hP [1, 2, 3] rfl 1 rfl rfl) rfl rfl hl.1 rfl (lv_room (Nat.le_of_ble_eq_true rfl)) dX8_hasAnyStar_20 ⟨Nat.zero_le _, Nat.zero_le _⟩) ?_
        refine lv_iload_n hx hb dX8_hasAnyStar_23 rfl (lv_at hl 2 rfl) ?_
        obtain ⟨r7, hu, hf⟩ := bd1_some hf
        refine zRi (va_runV (As := [.int r6, .int x2]) (rest := []) hC (c_X8_ownerOf l G a_this a_this_now a_this_now_leases a_this_told a_this_now_leases_parts a_this_text a_this_reader a_this_draft a_this_firstImage a_this_secondImage a_this_kept a_this_offers a_this_seen a_this_rents a_this_now_purses a_this_now_past a_this_told_starts a_this_told_paces a_this_told_brights a_this_told_purses a_this_told_leases (v_traced) (v_now_night) (v_now_lot) (v_now_leases_most) (v_now_leases_size) (v_told_squares) (v_told_stars) (v_told_tenants) (v_now_leases_parts) (r6) (x2) r7 hu) (cwV 2 hts gX8_hasAnyStar_X8_ownerOf rfl rfl rfl hd_X8_ownerOf ⟨(Nat.le_of_ble_eq_true rfl), (Nat.le_of_ble_eq_true rfl)⟩) (zPV hE hP [0, 4, 5, 1, 6] rfl 0 rfl rfl) rfl rfl hl.1 rfl (lv_room (Nat.le_of_ble_eq_true rfl)) dX8_hasAnyStar_24 ⟨Nat.zero_le _, Nat.zero_le _⟩) ?_
        refine lv_iload_n hx hb dX8_hasAnyStar_27 rfl (lv_at hl 1 rfl) ?_
        refine lv_icmp_ne (tgt := 33) hx hb dX8_hasAnyStar_28 (by decide) (fun hc8 => ?_) (fun hc8 => ?_)
        · have hf := if_f hf hc8
          refine lv_iinc (v := (x3 + (1 : Int32))) (lv' := [(3, .int (x3 + (1 : Int32))), (0, .ref a_this), (1, .int x1), (2, .int x2)]) hx hb dX8_hasAnyStar_33 hl (k := 3) rfl rfl (by decide) rfl (fun ls hl => ?_)
          refine lv_goto (tgt := 2) hx hb dX8_hasAnyStar_36 (by decide) ?_
          exact ih ((x3 + (1 : Int32))) ls (lv_sub hl [1, 2, 3, 0] rfl) hf
        · have hf := if_t hf hc8
          refine lv_iconst (v := (1 : Int32)) hx hb dX8_hasAnyStar_31 (by decide) ?_
          have hr0 := so1 hf
          subst hr0
          rw [← hQ]
          exact W.zret (v := (1 : Int32)) hx hb hr rfl (fun t ht hW => ⟨rfl, ht⟩) (fun _ h => by cases h) dX8_hasAnyStar_32
  unfold f_X8_hasAnyStar at hf
  refine lv_iconst (v := (0 : Int32)) hx hb dX8_hasAnyStar_0 (by decide) ?_
  refine lv_istore_n (lv' := [(3, .int (0 : Int32)), (0, .ref a_this), (1, .int g1), (2, .int g2)]) hx hb dX8_hasAnyStar_1 rfl hl (by decide) rfl (fun ls hl => ?_)
  exact j2 (g1) (g2) zF ((0 : Int32)) ls (lv_sub hl [1, 2, 3, 0] rfl) hf
def f_X8_broughtTo_b62  (k6 : Int32 → Int32 → Option (Int32))  (x4 : Int32) (x5 : Int32) : Option (Int32) := k6 (x4) ((x5 + (1 : Int32)))
def f_X8_broughtTo_b6 (v_told_squares : Int32) (v_told_stars : Int32) (v_told_paces : (Nat → Int32)) (v_told_starts : (Nat → Int32)) (v_now_leases_size : Int32) (v_now_leases_parts : (Nat → Int32)) (v_told_brights : (Nat → Int32))  (x1 : Int32) (x2 : Int32) (x3 : Int32) : Nat → Int32 → Int32 → Option (Int32)
  | 0, _, _ => none
  | n6 + 1, x4, x5 => if v_told_stars ≤ x5 then (some (x4)) else (bd1 (f_X5_squareOf (v_told_squares) (v_told_stars) (v_told_paces) (v_told_starts) (x5) (x2)) fun r9 => if r9 = x3 then (f_X8_broughtTo_b62 (f_X8_broughtTo_b6 v_told_squares v_told_stars v_told_paces v_told_starts v_now_leases_size v_now_leases_parts v_told_brights x1 x2 x3 n6) (x4) (x5)) else (bd1 (f_X8_ownerOf (v_now_leases_size) (v_told_squares) (v_now_leases_parts) (r9) (x2)) fun r11 => if r11 = x1 then (gd (inB x5 8) (nm ((x4 + (v_told_brights (x5).toNatClampNeg))) fun y14 => f_X8_broughtTo_b62 (f_X8_broughtTo_b6 v_told_squares v_told_stars v_told_paces v_told_starts v_now_leases_size v_now_leases_parts v_told_brights x1 x2 x3 n6) (y14) (x5))) else (f_X8_broughtTo_b62 (f_X8_broughtTo_b6 v_told_squares v_told_stars v_told_paces v_told_starts v_now_leases_size v_now_leases_parts v_told_brights x1 x2 x3 n6) (x4) (x5))))
def f_X8_broughtTo  (v_told_squares : Int32) (v_told_stars : Int32) (v_told_paces : (Nat → Int32)) (v_told_starts : (Nat → Int32)) (v_now_leases_size : Int32) (v_now_leases_parts : (Nat → Int32)) (v_told_brights : (Nat → Int32)) (g1 : Int32) (g2 : Int32) (g3 : Int32) : Option (Int32) := f_X8_broughtTo_b6 v_told_squares v_told_stars v_told_paces v_told_starts v_now_leases_size v_now_leases_parts v_told_brights (g1) (g2) (g3) zF ((0 : Int32)) ((0 : Int32))
abbrev rm_X8_broughtTo : Room := { frames := 4, cells := 0, slots := 0, locals := 92 }
set_option maxHeartbeats 4000000 in
set_option maxRecDepth 100000 in
theorem c_X8_broughtTo (l : Launch) (G : zG) (a_this : Nat) (a_this_told : Nat) (a_this_told_paces : Nat) (a_this_told_starts : Nat) (a_this_now : Nat) (a_this_now_leases : Nat) (a_this_now_leases_parts : Nat) (a_this_told_brights : Nat) (a_this_text : Nat) (a_this_reader : Nat) (a_this_draft : Nat) (a_this_firstImage : Nat) (a_this_secondImage : Nat) (a_this_kept : Nat) (a_this_offers : Nat) (a_this_seen : Nat) (a_this_rents : Nat) (a_this_told_purses : Nat) (a_this_told_leases : Nat) (a_this_now_purses : Nat) (a_this_now_past : Nat) (v_traced : Int64) (v_told_squares : Int32) (v_told_stars : Int32) (v_told_tenants : Int32) (v_told_paces : (Nat → Int32)) (v_told_starts : (Nat → Int32)) (v_now_night : Int32) (v_now_lot : Int32) (v_now_leases_most : Int32) (v_now_leases_size : Int32) (v_now_leases_parts : (Nat → Int32)) (v_told_brights : (Nat → Int32)) (g1 : Int32) (g2 : Int32) (g3 : Int32) (R0 : Int32) (hf : f_X8_broughtTo v_told_squares v_told_stars v_told_paces v_told_starts v_now_leases_size v_now_leases_parts v_told_brights g1 g2 g3 = some R0) : Met l yX8_broughtTo wsX8_broughtTo rm_X8_broughtTo (va_Pc [.ref a_this, .int g1, .int g2, .int g3] (zR G [(a_this, .inr (8, [.ref a_this_text, .ref a_this_reader, .ref a_this_told, .ref a_this_draft, .ref a_this_now, .ref a_this_firstImage, .ref a_this_secondImage, .ref a_this_kept, .ref a_this_offers, .ref a_this_seen, .ref a_this_rents, .long v_traced])), (a_this_told, .inr (5, [.int v_told_squares, .int v_told_stars, .ref a_this_told_starts, .ref a_this_told_paces, .ref a_this_told_brights, .int v_told_tenants, .ref a_this_told_purses, .ref a_this_told_leases])), (a_this_told_paces, .inl (G.2.1, 8, .inl v_told_paces)), (a_this_told_starts, .inl (G.2.1, 8, .inl v_told_starts)), (a_this_now, .inr (0, [.int v_now_night, .int v_now_lot, .ref a_this_now_purses, .ref a_this_now_leases, .ref a_this_now_past])), (a_this_now_leases, .inr (6, [.int v_now_leases_most, .ref a_this_now_leases_parts, .int v_now_leases_size])), (a_this_now_leases_parts, .inl (G.2.1, 50, .inl v_now_leases_parts)), (a_this_told_brights, .inl (G.2.1, 8, .inl v_told_brights))])) (zSv (some (.int R0))) 0 0 (fun _ => False) := by
  refine Met.ofW (cc := cX8_broughtTo) (maxL := 7) (ret := (some .int)) (by decide) rfl ?_
  intro p e s m args below meth c s₁ B hml hv
  obtain ⟨hargs, hP, hE⟩ := hv
  have hx := B.exec
  have hb := B.bytes
  have hr := B.returns
  have hts := atoms_spec (ws := wsX8_broughtTo) B.pre
  have hown : s.vm.findClass RX8 = some m.cls := findClass_of_methodNamed B.named
  have hlocks := B.notSynchronized
  have hK := hE.1
  have hC : CallFix p m c cX8_broughtTo 7 s args wsX8_broughtTo RX8 := ⟨hx, hb, hml, hown, hts⟩
  have inX5 : ∀ w ∈ wsX50, w ∈ wsX8_broughtTo := by decide +kernel
  have inX8 : ∀ w ∈ wsX80, w ∈ wsX8_broughtTo := by decide +kernel
  have lk26 := hts (.fieldLink RX8 26 "SkyLeases" "told" "LSkyLeases$Sky;") (by decide +kernel)
  have lk265 := hts (.fieldLink RX8 265 "SkyLeases$Sky" "stars" "I") (by decide +kernel)
  have lk268 := hts (.fieldLink RX8 268 "SkyLeases$Sky" "brights" "[I") (by decide +kernel)
  have hl := lv_entry ([.ref a_this, .int g1, .int g2, .int g3]) (n := 7) (Nat.le_of_ble_eq_true rfl)
  have hent : entryFrame m args 7 = F0 m 0 ((lg_sl ([.ref a_this, .int g1, .int g2, .int g3]) ++ List.replicate (7 - (lg_sl ([.ref a_this, .int g1, .int g2, .int g3])).length) Slot.unset).toArray) [] := by rw [hargs]; exact lg_entry_eq m [.ref a_this, .int g1, .int g2, .int g3] 7
  refine W.eq hent ?_
  clear hent
  generalize (lg_sl ([.ref a_this, .int g1, .int g2, .int g3]) ++ List.replicate (7 - (lg_sl ([.ref a_this, .int g1, .int g2, .int g3])).length) Slot.unset).toArray = ls at hl ⊢
  have hl : lv_has ls 7 [(0, .ref a_this), (1, .int g1), (2, .int g2), (3, .int g3)] := hl
  generalize hQ : MQ below _ args s 0 0 _ = QQ
  change W p l e rm_X8_broughtTo s m args below meth c s.heap [] 0 0 QQ _
  have j62 : ∀ (x1 : Int32), ∀ (x2 : Int32), ∀ (x3 : Int32), ∀ (k6 : Int32 → Int32 → Option (Int32)), (∀ (x4 : Int32), ∀ (x5 : Int32), ∀ (ls : Array Slot), lv_has ls 7 [(0, .ref a_this), (1, .int x1), (2, .int x2), (3, .int x3), (4, .int x4), (5, .int x5)] → k6 x4 x5 = some R0 → W p l e rm_X8_broughtTo s m args below meth c s.heap [] 0 0 QQ (F0 m 6 ls [])) → ∀ (x4 : Int32), ∀ (x5 : Int32), ∀ (ls : Array Slot), lv_has ls 7 [(0, .ref a_this), (1, .int x1), (2, .int x2), (3, .int x3), (4, .int x4), (5, .int x5)] → f_X8_broughtTo_b62 k6 x4 x5 = some R0 → W p l e rm_X8_broughtTo s m args below meth c s.heap [] 0 0 QQ (F0 m 62 ls []) := by
    intro x1 x2 x3 k6 hk6 x4 x5 ls hl hf
    unfold f_X8_broughtTo_b62 at hf
    refine lv_iinc (v := (x5 + (1 : Int32))) (lv' := [(5, .int (x5 + (1 : Int32))), (0, .ref a_this), (1, .int x1), (2, .int x2), (3, .int x3), (4, .int x4)]) hx hb dX8_broughtTo_62 hl (k := 5) rfl rfl (by decide) rfl (fun ls hl => ?_)
    refine lv_goto (tgt := 6) hx hb dX8_broughtTo_65 (by decide) ?_
    exact hk6 (x4) ((x5 + (1 : Int32))) ls (lv_sub hl [1, 2, 3, 4, 5, 0] rfl) hf
  have j6 : ∀ (x1 : Int32), ∀ (x2 : Int32), ∀ (x3 : Int32), ∀ (nn : Nat), ∀ (x4 : Int32), ∀ (x5 : Int32), ∀ (ls : Array Slot), lv_has ls 7 [(0, .ref a_this), (1, .int x1), (2, .int x2), (3, .int x3), (4, .int x4), (5, .int x5)] → f_X8_broughtTo_b6 v_told_squares v_told_stars v_told_paces v_told_starts v_now_leases_size v_now_leases_parts v_told_brights x1 x2 x3 nn x4 x5 = some R0 → W p l e rm_X8_broughtTo s m args below meth c s.heap [] 0 0 QQ (F0 m 6 ls []) := by
    intro x1 x2 x3
    intro nn
    induction nn with
    | zero =>
      intro x4 x5 ls hl hf
      rw [f_X8_broughtTo_b6] at hf
      cases hf
    | succ n6 ih =>
      intro x4 x5 ls hl hf
      rw [f_X8_broughtTo_b6] at hf
      refine lv_iload hx hb dX8_broughtTo_6 (lv_at hl 5 rfl) ?_
      refine lv_aload_n hx hb dX8_broughtTo_8 rfl (lv_at hl 0 rfl) ?_
      refine va_get (D := G.1) (ci := 8) (v := .ref a_this_told) (C := RX8) (T := TX8) (N := 12) hx hb hts inX8 hown hK hP 0 rfl rfl 2 (by decide) lk26 (fun _ h9 => h9) rfl dX8_broughtTo_9 ?_
      refine va_get (D := G.1) (ci := 5) (v := .int v_told_stars) (C := RX5) (T := TX5) (N := 8) hx hb hts inX5 hown hK hP 1 rfl rfl 1 (by decide) lk265 (fun _ h9 => h9) rfl dX8_broughtTo_12 ?_
      refine lv_icmp_ge (tgt := 68) hx hb dX8_broughtTo_15 (by decide) (fun hc8 => ?_) (fun hc8 => ?_)
      · have hf := if_t hf hc8
        refine lv_iload hx hb dX8_broughtTo_68 (lv_at hl 4 rfl) ?_
        have hr0 := so1 hf
        subst hr0
        rw [← hQ]
        exact W.iret (v := x4) hx hb hr (fun t ht hW => ⟨rfl, ht⟩) (fun _ h => by cases h) dX8_broughtTo_70
      · have hf := if_f hf hc8
        refine lv_aload_n hx hb dX8_broughtTo_18 rfl (lv_at hl 0 rfl) ?_
        refine va_get (D := G.1) (ci := 8) (v := .ref a_this_told) (C := RX8) (T := TX8) (N := 12) hx hb hts inX8 hown hK hP 0 rfl rfl 2 (by decide) lk26 (fun _ h9 => h9) rfl dX8_broughtTo_19 ?_
        refine lv_iload hx hb dX8_broughtTo_22 (lv_at hl 5 rfl) ?_
        refine lv_iload_n hx hb dX8_broughtTo_24 rfl (lv_at hl 2 rfl) ?_
        obtain ⟨r9, hu, hf⟩ := bd1_some hf
        refine zRi (va_runV (As := [.int x5, .int x2]) (rest := []) hC (c_X5_squareOf l G a_this_told a_this_told_paces a_this_told_starts a_this_told_brights a_this_told_purses a_this_told_leases (v_told_squares) (v_told_stars) (v_told_tenants) (v_told_paces) (v_told_starts) (x5) (x2) r9 hu) (cwV 2 hts gX8_broughtTo_X5_squareOf rfl rfl rfl hd_X5_squareOf ⟨(Nat.le_of_ble_eq_true rfl), (Nat.le_of_ble_eq_true rfl)⟩) (zPV hE hP [1, 2, 3] rfl 1 rfl rfl) rfl rfl hl.1 rfl (lv_room (Nat.le_of_ble_eq_true rfl)) dX8_broughtTo_25 ⟨Nat.zero_le _, Nat.zero_le _⟩) ?_
        refine lv_istore (lv' := [(6, .int r9), (0, .ref a_this), (1, .int x1), (2, .int x2), (3, .int x3), (4, .int x4), (5, .int x5)]) hx hb dX8_broughtTo_28 hl (by decide) rfl (fun ls hl => ?_)
        refine lv_iload hx hb dX8_broughtTo_30 (lv_at hl 0 rfl) ?_
        refine lv_iload_n hx hb dX8_broughtTo_32 rfl (lv_at hl 4 rfl) ?_
        refine lv_icmp_eq (tgt := 62) hx hb dX8_broughtTo_33 (by decide) (fun hc10 => ?_) (fun hc10 => ?_)
        · have hf := if_t hf hc10
          exact j62 (x1) (x2) (x3) (f_X8_broughtTo_b6 v_told_squares v_told_stars v_told_paces v_told_starts v_now_leases_size v_now_leases_parts v_told_brights x1 x2 x3 n6) ih (x4) (x5) ls (lv_sub hl [1, 2, 3, 4, 5, 6] rfl) hf
        · have hf := if_f hf hc10
          refine lv_aload_n hx hb dX8_broughtTo_36 rfl (lv_at hl 1 rfl) ?_
          refine lv_iload hx hb dX8_broughtTo_37 (lv_at hl 0 rfl) ?_
          refine lv_iload_n hx hb dX8_broughtTo_39 rfl (lv_at hl 3 rfl) ?_
          obtain ⟨r11, hu, hf⟩ := bd1_some hf
          refine zRi (va_runV (As := [.int r9, .int x2]) (rest := []) hC (c_X8_ownerOf l G a_this a_this_now a_this_now_leases a_this_told a_this_now_leases_parts a_this_text a_this_reader a_this_draft a_this_firstImage a_this_secondImage a_this_kept a_this_offers a_this_seen a_this_rents a_this_now_purses a_this_now_past a_this_told_starts a_this_told_paces a_this_told_brights a_this_told_purses a_this_told_leases (v_traced) (v_now_night) (v_now_lot) (v_now_leases_most) (v_now_leases_size) (v_told_squares) (v_told_stars) (v_told_tenants) (v_now_leases_parts) (r9) (x2) r11 hu) (cwV 2 hts gX8_broughtTo_X8_ownerOf rfl rfl rfl hd_X8_ownerOf ⟨(Nat.le_of_ble_eq_true rfl), (Nat.le_of_ble_eq_true rfl)⟩) (zPV hE hP [0, 4, 5, 1, 6] rfl 0 rfl rfl) rfl rfl hl.1 rfl (lv_room (Nat.le_of_ble_eq_true rfl)) dX8_broughtTo_40 ⟨Nat.zero_le _, Nat.zero_le _⟩) ?_
          refine lv_iload_n hx hb dX8_broughtTo_43 rfl (lv_at hl 2 rfl) ?_
          refine lv_icmp_ne (tgt := 62) hx hb dX8_broughtTo_44 (by decide) (fun hc12 => ?_) (fun hc12 => ?_)
          · have hf := if_f hf hc12
            exact j62 (x1) (x2) (x3) (f_X8_broughtTo_b6 v_told_squares v_told_stars v_told_paces v_told_starts v_now_leases_size v_now_leases_parts v_told_brights x1 x2 x3 n6) ih (x4) (x5) ls (lv_sub hl [1, 2, 3, 4, 5, 6] rfl) hf
          · have hf := if_t hf hc12
            refine lv_iload hx hb dX8_broughtTo_47 (lv_at hl 5 rfl) ?_
            refine lv_aload_n hx hb dX8_broughtTo_49 rfl (lv_at hl 1 rfl) ?_
            refine va_get (D := G.1) (ci := 8) (v := .ref a_this_told) (C := RX8) (T := TX8) (N := 12) hx hb hts inX8 hown hK hP 0 rfl rfl 2 (by decide) lk26 (fun _ h9 => h9) rfl dX8_broughtTo_50 ?_
            refine va_get (D := G.1) (ci := 5) (v := .ref a_this_told_brights) (C := RX5) (T := TX5) (N := 8) hx hb hts inX5 hown hK hP 1 rfl rfl 4 (by decide) lk268 (fun _ h9 => h9) rfl dX8_broughtTo_53 ?_
            refine lv_iload hx hb dX8_broughtTo_56 (lv_at hl 6 rfl) ?_
            obtain ⟨hg13, hf⟩ := gd_some hf
            refine va_iald hx hb hK hP 7 0 rfl rfl (inB_in hg13) dX8_broughtTo_58 ?_
            refine lv_iadd hx hb dX8_broughtTo_59 ?_
            refine lv_topi (fun y14 ey14 => ?_)
            have hf := nm_to hf ey14
            refine lv_istore (lv' := [(4, .int y14), (6, .int r9), (0, .ref a_this), (1, .int x1), (2, .int x2), (3, .int x3), (5, .int x5)]) hx hb dX8_broughtTo_60 hl (by decide) rfl (fun ls hl => ?_)
            exact j62 (x1) (x2) (x3) (f_X8_broughtTo_b6 v_told_squares v_told_stars v_told_paces v_told_starts v_now_leases_size v_now_leases_parts v_told_brights x1 x2 x3 n6) ih (y14) (x5) ls (lv_sub hl [2, 3, 4, 5, 0, 6] rfl) hf
  unfold f_X8_broughtTo at hf
  refine lv_iconst (v := (0 : Int32)) hx hb dX8_broughtTo_0 (by decide) ?_
  refine lv_istore (lv' := [(4, .int (0 : Int32)), (0, .ref a_this), (1, .int g1), (2, .int g2), (3, .int g3)]) hx hb dX8_broughtTo_1 hl (by decide) rfl (fun ls hl => ?_)
  refine lv_iconst (v := (0 : Int32)) hx hb dX8_broughtTo_3 (by decide) ?_
  refine lv_istore (lv' := [(5, .int (0 : Int32)), (4, .int (0 : Int32)), (0, .ref a_this), (1, .int g1), (2, .int g2), (3, .int g3)]) hx hb dX8_broughtTo_4 hl (by decide) rfl (fun ls hl => ?_)
  exact j6 (g1) (g2) (g3) zF ((0 : Int32)) ((0 : Int32)) ls (lv_sub hl [2, 3, 4, 5, 1, 0] rfl) hf
def f_X8_star  (v_told_squares : Int32) (v_told_stars : Int32) (v_told_paces : (Nat → Int32)) (v_told_starts : (Nat → Int32)) (g1 : Int32) (g2 : Int32) : Option (Int32) := bd1 (f_X5_hasStar (v_told_stars) (g1)) fun r6 => if r6 = (0 : Int32) then (some ((-1 : Int32))) else (bd1 (f_X8_isWithin (g2) ((0 : Int32)) ((999 : Int32))) fun r8 => if r8 = (0 : Int32) then (some ((-1 : Int32))) else (bd1 (f_X5_squareOf (v_told_squares) (v_told_stars) (v_told_paces) (v_told_starts) (g1) (g2)) fun r10 => some (r10)))
abbrev rm_X8_star : Room := { frames := 2, cells := 0, slots := 0, locals := 44 }
set_option maxHeartbeats 4000000 in
set_option maxRecDepth 100000 in
theorem c_X8_star (l : Launch) (G : zG) (a_this : Nat) (a_this_told : Nat) (a_this_told_paces : Nat) (a_this_told_starts : Nat) (a_this_text : Nat) (a_this_reader : Nat) (a_this_draft : Nat) (a_this_now : Nat) (a_this_firstImage : Nat) (a_this_secondImage : Nat) (a_this_kept : Nat) (a_this_offers : Nat) (a_this_seen : Nat) (a_this_rents : Nat) (a_this_told_brights : Nat) (a_this_told_purses : Nat) (a_this_told_leases : Nat) (v_traced : Int64) (v_told_squares : Int32) (v_told_stars : Int32) (v_told_tenants : Int32) (v_told_paces : (Nat → Int32)) (v_told_starts : (Nat → Int32)) (g1 : Int32) (g2 : Int32) (R0 : Int32) (hf : f_X8_star v_told_squares v_told_stars v_told_paces v_told_starts g1 g2 = some R0) : Met l yX8_star wsX8_star rm_X8_star (va_Pc [.ref a_this, .int g1, .int g2] (zR G [(a_this, .inr (8, [.ref a_this_text, .ref a_this_reader, .ref a_this_told, .ref a_this_draft, .ref a_this_now, .ref a_this_firstImage, .ref a_this_secondImage, .ref a_this_kept, .ref a_this_offers, .ref a_this_seen, .ref a_this_rents, .long v_traced])), (a_this_told, .inr (5, [.int v_told_squares, .int v_told_stars, .ref a_this_told_starts, .ref a_this_told_paces, .ref a_this_told_brights, .int v_told_tenants, .ref a_this_told_purses, .ref a_this_told_leases])), (a_this_told_paces, .inl (G.2.1, 8, .inl v_told_paces)), (a_this_told_starts, .inl (G.2.1, 8, .inl v_told_starts))])) (zSv (some (.int R0))) 0 0 (fun _ => False) := by
  refine Met.ofW (cc := cX8_star) (maxL := 3) (ret := (some .int)) (by decide) rfl ?_
  intro p e s m args below meth c s₁ B hml hv
  obtain ⟨hargs, hP, hE⟩ := hv
  have hx := B.exec
  have hb := B.bytes
  have hr := B.returns
  have hts := atoms_spec (ws := wsX8_star) B.pre
  have hown : s.vm.findClass RX8 = some m.cls := findClass_of_methodNamed B.named
  have hlocks := B.notSynchronized
  have hK := hE.1
  have hC : CallFix p m c cX8_star 3 s args wsX8_star RX8 := ⟨hx, hb, hml, hown, hts⟩
  have inX8 : ∀ w ∈ wsX80, w ∈ wsX8_star := by decide +kernel
  have lk26 := hts (.fieldLink RX8 26 "SkyLeases" "told" "LSkyLeases$Sky;") (by decide +kernel)
  have hl := lv_entry ([.ref a_this, .int g1, .int g2]) (n := 3) (Nat.le_of_ble_eq_true rfl)
  have hent : entryFrame m args 3 = F0 m 0 ((lg_sl ([.ref a_this, .int g1, .int g2]) ++ List.replicate (3 - (lg_sl ([.ref a_this, .int g1, .int g2])).length) Slot.unset).toArray) [] := by rw [hargs]; exact lg_entry_eq m [.ref a_this, .int g1, .int g2] 3
  refine W.eq hent ?_
  clear hent
  generalize (lg_sl ([.ref a_this, .int g1, .int g2]) ++ List.replicate (3 - (lg_sl ([.ref a_this, .int g1, .int g2])).length) Slot.unset).toArray = ls at hl ⊢
  have hl : lv_has ls 3 [(0, .ref a_this), (1, .int g1), (2, .int g2)] := hl
  generalize hQ : MQ below _ args s 0 0 _ = QQ
  change W p l e rm_X8_star s m args below meth c s.heap [] 0 0 QQ _
  unfold f_X8_star at hf
  refine lv_aload_n hx hb dX8_star_0 rfl (lv_at hl 0 rfl) ?_
  refine va_get (D := G.1) (ci := 8) (v := .ref a_this_told) (C := RX8) (T := TX8) (N := 12) hx hb hts inX8 hown hK hP 0 rfl rfl 2 (by decide) lk26 (fun _ h9 => h9) rfl dX8_star_1 ?_
  refine lv_iload_n hx hb dX8_star_4 rfl (lv_at hl 1 rfl) ?_
  obtain ⟨r6, hu, hf⟩ := bd1_some hf
  refine zRi (va_runV (As := [.int g1]) (rest := []) hC (c_X5_hasStar l G a_this_told a_this_told_starts a_this_told_paces a_this_told_brights a_this_told_purses a_this_told_leases (v_told_squares) (v_told_stars) (v_told_tenants) (g1) r6 hu) (cwV 1 hts gX8_star_X5_hasStar rfl rfl rfl hd_X5_hasStar ⟨(Nat.le_of_ble_eq_true rfl), (Nat.le_of_ble_eq_true rfl)⟩) (zPV hE hP [1] rfl 1 rfl rfl) rfl rfl hl.1 rfl (lv_room (Nat.le_of_ble_eq_true rfl)) dX8_star_5 ⟨Nat.zero_le _, Nat.zero_le _⟩) ?_
  refine lv_if_eq (tgt := 22) hx hb dX8_star_8 (by decide) (fun hc7 => ?_) (fun hc7 => ?_)
  · have hf := if_t hf hc7
    refine lv_iconst (v := (-1 : Int32)) hx hb dX8_star_22 (by decide) ?_
    have hr0 := so1 hf
    subst hr0
    rw [← hQ]
    exact W.iret (v := (-1 : Int32)) hx hb hr (fun t ht hW => ⟨rfl, ht⟩) (fun _ h => by cases h) dX8_star_23
  · have hf := if_f hf hc7
    refine lv_iload_n hx hb dX8_star_11 rfl (lv_at hl 2 rfl) ?_
    refine lv_iconst (v := (0 : Int32)) hx hb dX8_star_12 (by decide) ?_
    refine lv_sipush (v := (999 : Int32)) hx hb dX8_star_13 (by decide) ?_
    obtain ⟨r8, hu, hf⟩ := bd1_some hf
    refine zRi (va_runS (As := [.int g2, .int (0 : Int32), .int (999 : Int32)]) (rest := []) hC (c_X8_isWithin l G (g2) ((0 : Int32)) ((999 : Int32)) r8 hu) (va_cwS 3 hts gX8_star_X8_isWithin rfl rfl rfl hd_X8_isWithin.2 ⟨(Nat.le_of_ble_eq_true rfl), (Nat.le_of_ble_eq_true rfl)⟩) (zPS hE hP [] rfl) rfl rfl hl.1 rfl (lv_room (Nat.le_of_ble_eq_true rfl)) dX8_star_16 ⟨Nat.zero_le _, Nat.zero_le _⟩) ?_
    refine lv_if_ne (tgt := 24) hx hb dX8_star_19 (by decide) (fun hc9 => ?_) (fun hc9 => ?_)
    · have hf := if_f hf hc9
      refine lv_aload_n hx hb dX8_star_24 rfl (lv_at hl 0 rfl) ?_
      refine va_get (D := G.1) (ci := 8) (v := .ref a_this_told) (C := RX8) (T := TX8) (N := 12) hx hb hts inX8 hown hK hP 0 rfl rfl 2 (by decide) lk26 (fun _ h9 => h9) rfl dX8_star_25 ?_
      refine lv_iload_n hx hb dX8_star_28 rfl (lv_at hl 1 rfl) ?_
      refine lv_iload_n hx hb dX8_star_29 rfl (lv_at hl 2 rfl) ?_
      obtain ⟨r10, hu, hf⟩ := bd1_some hf
      refine zRi (va_runV (As := [.int g1, .int g2]) (rest := []) hC (c_X5_squareOf l G a_this_told a_this_told_paces a_this_told_starts a_this_told_brights a_this_told_purses a_this_told_leases (v_told_squares) (v_told_stars) (v_told_tenants) (v_told_paces) (v_told_starts) (g1) (g2) r10 hu) (cwV 2 hts gX8_star_X5_squareOf rfl rfl rfl hd_X5_squareOf ⟨(Nat.le_of_ble_eq_true rfl), (Nat.le_of_ble_eq_true rfl)⟩) (zPV hE hP [1, 2, 3] rfl 1 rfl rfl) rfl rfl hl.1 rfl (lv_room (Nat.le_of_ble_eq_true rfl)) dX8_star_30 ⟨Nat.zero_le _, Nat.zero_le _⟩) ?_
      have hr0 := so1 hf
      subst hr0
      rw [← hQ]
      exact W.iret (v := r10) hx hb hr (fun t ht hW => ⟨rfl, ht⟩) (fun _ h => by cases h) dX8_star_33
    · have hf := if_t hf hc9
      refine lv_iconst (v := (-1 : Int32)) hx hb dX8_star_22 (by decide) ?_
      have hr0 := so1 hf
      subst hr0
      rw [← hQ]
      exact W.iret (v := (-1 : Int32)) hx hb hr (fun t ht hW => ⟨rfl, ht⟩) (fun _ h => by cases h) dX8_star_23
def f_X8_lease  (v_now_leases_size : Int32) (v_now_leases_parts : (Nat → Int32)) (g1 : Int32) (g2 : Int32) : Option (Int32) := bd1 (f_X6_has (v_now_leases_size) (g1)) fun r6 => if r6 = (0 : Int32) then (some ((-1 : Int32))) else (bd1 (f_X8_isWithin (g2) ((0 : Int32)) ((4 : Int32))) fun r8 => if r8 = (0 : Int32) then (some ((-1 : Int32))) else (bd1 (f_X6_part (v_now_leases_size) (v_now_leases_parts) (g1) (g2)) fun r10 => some (r10)))
abbrev rm_X8_lease : Room := { frames := 2, cells := 0, slots := 0, locals := 44 }
set_option maxHeartbeats 4000000 in
set_option maxRecDepth 100000 in
theorem c_X8_lease (l : Launch) (G : zG) (a_this : Nat) (a_this_now : Nat) (a_this_now_leases : Nat) (a_this_now_leases_parts : Nat) (a_this_text : Nat) (a_this_reader : Nat) (a_this_told : Nat) (a_this_draft : Nat) (a_this_firstImage : Nat) (a_this_secondImage : Nat) (a_this_kept : Nat) (a_this_offers : Nat) (a_this_seen : Nat) (a_this_rents : Nat) (a_this_now_purses : Nat) (a_this_now_past : Nat) (v_traced : Int64) (v_now_night : Int32) (v_now_lot : Int32) (v_now_leases_most : Int32) (v_now_leases_size : Int32) (v_now_leases_parts : (Nat → Int32)) (g1 : Int32) (g2 : Int32) (R0 : Int32) (hf : f_X8_lease v_now_leases_size v_now_leases_parts g1 g2 = some R0) : Met l yX8_lease wsX8_lease rm_X8_lease (va_Pc [.ref a_this, .int g1, .int g2] (zR G [(a_this, .inr (8, [.ref a_this_text, .ref a_this_reader, .ref a_this_told, .ref a_this_draft, .ref a_this_now, .ref a_this_firstImage, .ref a_this_secondImage, .ref a_this_kept, .ref a_this_offers, .ref a_this_seen, .ref a_this_rents, .long v_traced])), (a_this_now, .inr (0, [.int v_now_night, .int v_now_lot, .ref a_this_now_purses, .ref a_this_now_leases, .ref a_this_now_past])), (a_this_now_leases, .inr (6, [.int v_now_leases_most, .ref a_this_now_leases_parts, .int v_now_leases_size])), (a_this_now_leases_parts, .inl (G.2.1, 50, .inl v_now_leases_parts))])) (zSv (some (.int R0))) 0 0 (fun _ => False) := by
  refine Met.ofW (cc := cX8_lease) (maxL := 3) (ret := (some .int)) (by decide) rfl ?_
  intro p e s m args below meth c s₁ B hml hv
  obtain ⟨hargs, hP, hE⟩ := hv
  have hx := B.exec
  have hb := B.bytes
  have hr := B.returns
  have hts := atoms_spec (ws := wsX8_lease) B.pre
  have hown : s.vm.findClass RX8 = some m.cls := findClass_of_methodNamed B.named
  have hlocks := B.notSynchronized
  have hK := hE.1
  have hC : CallFix p m c cX8_lease 3 s args wsX8_lease RX8 := ⟨hx, hb, hml, hown, hts⟩
  have inX0 : ∀ w ∈ wsX00, w ∈ wsX8_lease := by decide +kernel
  have inX8 : ∀ w ∈ wsX80, w ∈ wsX8_lease := by decide +kernel
  have lk36 := hts (.fieldLink RX8 36 "SkyLeases" "now" "LSkyLeases$Now;") (by decide +kernel)
  have lk116 := hts (.fieldLink RX8 116 "SkyLeases$Now" "leases" "LSkyLeases$Terms;") (by decide +kernel)
  have hl := lv_entry ([.ref a_this, .int g1, .int g2]) (n := 3) (Nat.le_of_ble_eq_true rfl)
  have hent : entryFrame m args 3 = F0 m 0 ((lg_sl ([.ref a_this, .int g1, .int g2]) ++ List.replicate (3 - (lg_sl ([.ref a_this, .int g1, .int g2])).length) Slot.unset).toArray) [] := by rw [hargs]; exact lg_entry_eq m [.ref a_this, .int g1, .int g2] 3
  refine W.eq hent ?_
  clear hent
  generalize (lg_sl ([.ref a_this, .int g1, .int g2]) ++ List.replicate (3 - (lg_sl ([.ref a_this, .int g1, .int g2])).length) Slot.unset).toArray = ls at hl ⊢
  have hl : lv_has ls 3 [(0, .ref a_this), (1, .int g1), (2, .int g2)] := hl
  generalize hQ : MQ below _ args s 0 0 _ = QQ
  change W p l e rm_X8_lease s m args below meth c s.heap [] 0 0 QQ _
  unfold f_X8_lease at hf
  refine lv_aload_n hx hb dX8_lease_0 rfl (lv_at hl 0 rfl) ?_
  refine va_get (D := G.1) (ci := 8) (v := .ref a_this_now) (C := RX8) (T := TX8) (N := 12) hx hb hts inX8 hown hK hP 0 rfl rfl 4 (by decide) lk36 (fun _ h9 => h9) rfl dX8_lease_1 ?_
  refine va_get (D := G.1) (ci := 0) (v := .ref a_this_now_leases) (C := RX0) (T := TX0) (N := 5) hx hb hts inX0 hown hK hP 1 rfl rfl 3 (by decide) lk116 (fun _ h9 => h9) rfl dX8_lease_4 ?_
  refine lv_iload_n hx hb dX8_lease_7 rfl (lv_at hl 1 rfl) ?_
  obtain ⟨r6, hu, hf⟩ := bd1_some hf
  refine zRi (va_runV (As := [.int g1]) (rest := []) hC (c_X6_has l G a_this_now_leases a_this_now_leases_parts (v_now_leases_most) (v_now_leases_size) (g1) r6 hu) (cwV 1 hts gX8_lease_X6_has rfl rfl rfl hd_X6_has ⟨(Nat.le_of_ble_eq_true rfl), (Nat.le_of_ble_eq_true rfl)⟩) (zPV hE hP [2] rfl 2 rfl rfl) rfl rfl hl.1 rfl (lv_room (Nat.le_of_ble_eq_true rfl)) dX8_lease_8 ⟨Nat.zero_le _, Nat.zero_le _⟩) ?_
  refine lv_if_eq (tgt := 23) hx hb dX8_lease_11 (by decide) (fun hc7 => ?_) (fun hc7 => ?_)
  · have hf := if_t hf hc7
    refine lv_iconst (v := (-1 : Int32)) hx hb dX8_lease_23 (by decide) ?_
    have hr0 := so1 hf
    subst hr0
    rw [← hQ]
    exact W.iret (v := (-1 : Int32)) hx hb hr (fun t ht hW => ⟨rfl, ht⟩) (fun _ h => by cases h) dX8_lease_24
  · have hf := if_f hf hc7
    refine lv_iload_n hx hb dX8_lease_14 rfl (lv_at hl 2 rfl) ?_
    refine lv_iconst (v := (0 : Int32)) hx hb dX8_lease_15 (by decide) ?_
    refine lv_iconst (v := (4 : Int32)) hx hb dX8_lease_16 (by decide) ?_
    obtain ⟨r8, hu, hf⟩ := bd1_some hf
    refine zRi (va_runS (As := [.int g2, .int (0 : Int32), .int (4 : Int32)]) (rest := []) hC (c_X8_isWithin l G (g2) ((0 : Int32)) ((4 : Int32)) r8 hu) (va_cwS 3 hts gX8_lease_X8_isWithin rfl rfl rfl hd_X8_isWithin.2 ⟨(Nat.le_of_ble_eq_true rfl), (Nat.le_of_ble_eq_true rfl)⟩) (zPS hE hP [] rfl) rfl rfl hl.1 rfl (lv_room (Nat.le_of_ble_eq_true rfl)) dX8_lease_17 ⟨Nat.zero_le _, Nat.zero_le _⟩) ?_
    refine lv_if_ne (tgt := 25) hx hb dX8_lease_20 (by decide) (fun hc9 => ?_) (fun hc9 => ?_)
    · have hf := if_f hf hc9
      refine lv_aload_n hx hb dX8_lease_25 rfl (lv_at hl 0 rfl) ?_
      refine va_get (D := G.1) (ci := 8) (v := .ref a_this_now) (C := RX8) (T := TX8) (N := 12) hx hb hts inX8 hown hK hP 0 rfl rfl 4 (by decide) lk36 (fun _ h9 => h9) rfl dX8_lease_26 ?_
      refine va_get (D := G.1) (ci := 0) (v := .ref a_this_now_leases) (C := RX0) (T := TX0) (N := 5) hx hb hts inX0 hown hK hP 1 rfl rfl 3 (by decide) lk116 (fun _ h9 => h9) rfl dX8_lease_29 ?_
      refine lv_iload_n hx hb dX8_lease_32 rfl (lv_at hl 1 rfl) ?_
      refine lv_iload_n hx hb dX8_lease_33 rfl (lv_at hl 2 rfl) ?_
      obtain ⟨r10, hu, hf⟩ := bd1_some hf
      refine zRi (va_runV (As := [.int g1, .int g2]) (rest := []) hC (c_X6_part l G a_this_now_leases a_this_now_leases_parts (v_now_leases_most) (v_now_leases_size) (v_now_leases_parts) (g1) (g2) r10 hu) (cwV 2 hts gX8_lease_X6_part rfl rfl rfl hd_X6_part ⟨(Nat.le_of_ble_eq_true rfl), (Nat.le_of_ble_eq_true rfl)⟩) (zPV hE hP [2, 3] rfl 2 rfl rfl) rfl rfl hl.1 rfl (lv_room (Nat.le_of_ble_eq_true rfl)) dX8_lease_34 ⟨Nat.zero_le _, Nat.zero_le _⟩) ?_
      have hr0 := so1 hf
      subst hr0
      rw [← hQ]
      exact W.iret (v := r10) hx hb hr (fun t ht hW => ⟨rfl, ht⟩) (fun _ h => by cases h) dX8_lease_37
    · have hf := if_t hf hc9
      refine lv_iconst (v := (-1 : Int32)) hx hb dX8_lease_23 (by decide) ?_
      have hr0 := so1 hf
      subst hr0
      rw [← hQ]
      exact W.iret (v := (-1 : Int32)) hx hb hr (fun t ht hW => ⟨rfl, ht⟩) (fun _ h => by cases h) dX8_lease_24
theorem hd_X5_hasSquare : yX5_hasSquare.cls = RX5 ∧ yX5_hasSquare.cls ≠ "java/lang/invoke/MethodHandle" ∧ yX5_hasSquare.cls ≠ "java/lang/invoke/VarHandle" ∧ (parseMethodDescriptor yX5_hasSquare.desc).map (fun d => d.parameters.length) = some 1 := by decide +kernel
def f_X8_whose  (v_told_squares : Int32) (v_now_leases_size : Int32) (v_now_leases_parts : (Nat → Int32)) (g1 : Int32) (g2 : Int32) : Option (Int32) := bd1 (f_X5_hasSquare (v_told_squares) (g1)) fun r6 => if r6 = (0 : Int32) then (some ((-1 : Int32))) else (bd1 (f_X8_isWithin (g2) ((0 : Int32)) ((99 : Int32))) fun r8 => if r8 = (0 : Int32) then (some ((-1 : Int32))) else (bd1 (f_X8_ownerOf (v_now_leases_size) (v_told_squares) (v_now_leases_parts) (g1) (g2)) fun r10 => some (r10)))
abbrev rm_X8_whose : Room := { frames := 4, cells := 0, slots := 0, locals := 92 }
set_option maxHeartbeats 4000000 in
set_option maxRecDepth 100000 in
theorem c_X8_whose (l : Launch) (G : zG) (a_this : Nat) (a_this_told : Nat) (a_this_now : Nat) (a_this_now_leases : Nat) (a_this_now_leases_parts : Nat) (a_this_text : Nat) (a_this_reader : Nat) (a_this_draft : Nat) (a_this_firstImage : Nat) (a_this_secondImage : Nat) (a_this_kept : Nat) (a_this_offers : Nat) (a_this_seen : Nat) (a_this_rents : Nat) (a_this_told_starts : Nat) (a_this_told_paces : Nat) (a_this_told_brights : Nat) (a_this_told_purses : Nat) (a_this_told_leases : Nat) (a_this_now_purses : Nat) (a_this_now_past : Nat) (v_traced : Int64) (v_told_squares : Int32) (v_told_stars : Int32) (v_told_tenants : Int32) (v_now_night : Int32) (v_now_lot : Int32) (v_now_leases_most : Int32) (v_now_leases_size : Int32) (v_now_leases_parts : (Nat → Int32)) (g1 : Int32) (g2 : Int32) (R0 : Int32) (hf : f_X8_whose v_told_squares v_now_leases_size v_now_leases_parts g1 g2 = some R0) : Met l yX8_whose wsX8_whose rm_X8_whose (va_Pc [.ref a_this, .int g1, .int g2] (zR G [(a_this, .inr (8, [.ref a_this_text, .ref a_this_reader, .ref a_this_told, .ref a_this_draft, .ref a_this_now, .ref a_this_firstImage, .ref a_this_secondImage, .ref a_this_kept, .ref a_this_offers, .ref a_this_seen, .ref a_this_rents, .long v_traced])), (a_this_told, .inr (5, [.int v_told_squares, .int v_told_stars, .ref a_this_told_starts, .ref a_this_told_paces, .ref a_this_told_brights, .int v_told_tenants, .ref a_this_told_purses, .ref a_this_told_leases])), (a_this_now, .inr (0, [.int v_now_night, .int v_now_lot, .ref a_this_now_purses, .ref a_this_now_leases, .ref a_this_now_past])), (a_this_now_leases, .inr (6, [.int v_now_leases_most, .ref a_this_now_leases_parts, .int v_now_leases_size])), (a_this_now_leases_parts, .inl (G.2.1, 50, .inl v_now_leases_parts))])) (zSv (some (.int R0))) 0 0 (fun _ => False) := by
  refine Met.ofW (cc := cX8_whose) (maxL := 3) (ret := (some .int)) (by decide) rfl ?_
  intro p e s m args below meth c s₁ B hml hv
  obtain ⟨hargs, hP, hE⟩ := hv
  have hx := B.exec
  have hb := B.bytes
  have hr := B.returns
  have hts := atoms_spec (ws := wsX8_whose) B.pre
  have hown : s.vm.findClass RX8 = some m.cls := findClass_of_methodNamed B.named
  have hlocks := B.notSynchronized
  have hK := hE.1
  have hC : CallFix p m c cX8_whose 3 s args wsX8_whose RX8 := ⟨hx, hb, hml, hown, hts⟩
  have inX8 : ∀ w ∈ wsX80, w ∈ wsX8_whose := by decide +kernel
  have lk26 := hts (.fieldLink RX8 26 "SkyLeases" "told" "LSkyLeases$Sky;") (by decide +kernel)
  have hl := lv_entry ([.ref a_this, .int g1, .int g2]) (n := 3) (Nat.le_of_ble_eq_true rfl)
  have hent : entryFrame m args 3 = F0 m 0 ((lg_sl ([.ref a_this, .int g1, .int g2]) ++ List.replicate (3 - (lg_sl ([.ref a_this, .int g1, .int g2])).length) Slot.unset).toArray) [] := by rw [hargs]; exact lg_entry_eq m [.ref a_this, .int g1, .int g2] 3
  refine W.eq hent ?_
  clear hent
  generalize (lg_sl ([.ref a_this, .int g1, .int g2]) ++ List.replicate (3 - (lg_sl ([.ref a_this, .int g1, .int g2])).length) Slot.unset).toArray = ls at hl ⊢
  have hl : lv_has ls 3 [(0, .ref a_this), (1, .int g1), (2, .int g2)] := hl
  generalize hQ : MQ below _ args s 0 0 _ = QQ
  change W p l e rm_X8_whose s m args below meth c s.heap [] 0 0 QQ _
  unfold f_X8_whose at hf
  refine lv_aload_n hx hb dX8_whose_0 rfl (lv_at hl 0 rfl) ?_
  refine va_get (D := G.1) (ci := 8) (v := .ref a_this_told) (C := RX8) (T := TX8) (N := 12) hx hb hts inX8 hown hK hP 0 rfl rfl 2 (by decide) lk26 (fun _ h9 => h9) rfl dX8_whose_1 ?_
  refine lv_iload_n hx hb dX8_whose_4 rfl (lv_at hl 1 rfl) ?_
  obtain ⟨r6, hu, hf⟩ := bd1_some hf
  refine zRi (va_runV (As := [.int g1]) (rest := []) hC (c_X5_hasSquare l G a_this_told a_this_told_starts a_this_told_paces a_this_told_brights a_this_told_purses a_this_told_leases (v_told_squares) (v_told_stars) (v_told_tenants) (g1) r6 hu) (cwV 1 hts gX8_whose_X5_hasSquare rfl rfl rfl hd_X5_hasSquare ⟨(Nat.le_of_ble_eq_true rfl), (Nat.le_of_ble_eq_true rfl)⟩) (zPV hE hP [1] rfl 1 rfl rfl) rfl rfl hl.1 rfl (lv_room (Nat.le_of_ble_eq_true rfl)) dX8_whose_5 ⟨Nat.zero_le _, Nat.zero_le _⟩) ?_
  refine lv_if_eq (tgt := 21) hx hb dX8_whose_8 (by decide) (fun hc7 => ?_) (fun hc7 => ?_)
  · have hf := if_t hf hc7
    refine lv_iconst (v := (-1 : Int32)) hx hb dX8_whose_21 (by decide) ?_
    have hr0 := so1 hf
    subst hr0
    rw [← hQ]
    exact W.iret (v := (-1 : Int32)) hx hb hr (fun t ht hW => ⟨rfl, ht⟩) (fun _ h => by cases h) dX8_whose_22
  · have hf := if_f hf hc7
    refine lv_iload_n hx hb dX8_whose_11 rfl (lv_at hl 2 rfl) ?_
    refine lv_iconst (v := (0 : Int32)) hx hb dX8_whose_12 (by decide) ?_
    refine lv_bipush (v := (99 : Int32)) hx hb dX8_whose_13 (by decide) ?_
    obtain ⟨r8, hu, hf⟩ := bd1_some hf
    refine zRi (va_runS (As := [.int g2, .int (0 : Int32), .int (99 : Int32)]) (rest := []) hC (c_X8_isWithin l G (g2) ((0 : Int32)) ((99 : Int32)) r8 hu) (va_cwS 3 hts gX8_whose_X8_isWithin rfl rfl rfl hd_X8_isWithin.2 ⟨(Nat.le_of_ble_eq_true rfl), (Nat.le_of_ble_eq_true rfl)⟩) (zPS hE hP [] rfl) rfl rfl hl.1 rfl (lv_room (Nat.le_of_ble_eq_true rfl)) dX8_whose_15 ⟨Nat.zero_le _, Nat.zero_le _⟩) ?_
    refine lv_if_ne (tgt := 23) hx hb dX8_whose_18 (by decide) (fun hc9 => ?_) (fun hc9 => ?_)
    · have hf := if_f hf hc9
      refine lv_aload_n hx hb dX8_whose_23 rfl (lv_at hl 0 rfl) ?_
      refine lv_iload_n hx hb dX8_whose_24 rfl (lv_at hl 1 rfl) ?_
      refine lv_iload_n hx hb dX8_whose_25 rfl (lv_at hl 2 rfl) ?_
      obtain ⟨r10, hu, hf⟩ := bd1_some hf
      refine zRi (va_runV (As := [.int g1, .int g2]) (rest := []) hC (c_X8_ownerOf l G a_this a_this_now a_this_now_leases a_this_told a_this_now_leases_parts a_this_text a_this_reader a_this_draft a_this_firstImage a_this_secondImage a_this_kept a_this_offers a_this_seen a_this_rents a_this_now_purses a_this_now_past a_this_told_starts a_this_told_paces a_this_told_brights a_this_told_purses a_this_told_leases (v_traced) (v_now_night) (v_now_lot) (v_now_leases_most) (v_now_leases_size) (v_told_squares) (v_told_stars) (v_told_tenants) (v_now_leases_parts) (g1) (g2) r10 hu) (cwV 2 hts gX8_whose_X8_ownerOf rfl rfl rfl hd_X8_ownerOf ⟨(Nat.le_of_ble_eq_true rfl), (Nat.le_of_ble_eq_true rfl)⟩) (zPV hE hP [0, 2, 3, 1, 4] rfl 0 rfl rfl) rfl rfl hl.1 rfl (lv_room (Nat.le_of_ble_eq_true rfl)) dX8_whose_26 ⟨Nat.zero_le _, Nat.zero_le _⟩) ?_
      have hr0 := so1 hf
      subst hr0
      rw [← hQ]
      exact W.iret (v := r10) hx hb hr (fun t ht hW => ⟨rfl, ht⟩) (fun _ h => by cases h) dX8_whose_29
    · have hf := if_t hf hc9
      refine lv_iconst (v := (-1 : Int32)) hx hb dX8_whose_21 (by decide) ?_
      have hr0 := so1 hf
      subst hr0
      rw [← hQ]
      exact W.iret (v := (-1 : Int32)) hx hb hr (fun t ht hW => ⟨rfl, ht⟩) (fun _ h => by cases h) dX8_whose_22
def f_X8_claims_b70  (k28 : Int32 → Int32 → Option (Int32))  (x3 : Int32) (x4 : Int32) : Option (Int32) := k28 (x3) ((x4 + (1 : Int32)))
def f_X8_claims_b28 (v_told_squares : Int32) (v_now_leases_size : Int32) (v_now_leases_parts : (Nat → Int32))  (x1 : Int32) (x2 : Int32) : Nat → Int32 → Int32 → Option (Int32)
  | 0, _, _ => none
  | n28 + 1, x3, x4 => if v_now_leases_size ≤ x4 then (some (x3)) else (bd1 (f_X6_covers (v_now_leases_size) (v_now_leases_parts) (x4) (x1) (x2) (v_told_squares)) fun r9 => if r9 = (0 : Int32) then (f_X8_claims_b70 (f_X8_claims_b28 v_told_squares v_now_leases_size v_now_leases_parts x1 x2 n28) (x3) (x4)) else (f_X8_claims_b70 (f_X8_claims_b28 v_told_squares v_now_leases_size v_now_leases_parts x1 x2 n28) ((x3 + (1 : Int32))) (x4)))
def f_X8_claims  (v_told_squares : Int32) (v_now_leases_size : Int32) (v_now_leases_parts : (Nat → Int32)) (g1 : Int32) (g2 : Int32) : Option (Int32) := bd1 (f_X5_hasSquare (v_told_squares) (g1)) fun r11 => if r11 = (0 : Int32) then (some ((-1 : Int32))) else (bd1 (f_X8_isWithin (g2) ((0 : Int32)) ((99 : Int32))) fun r13 => if r13 = (0 : Int32) then (some ((-1 : Int32))) else (f_X8_claims_b28 v_told_squares v_now_leases_size v_now_leases_parts (g1) (g2) zF ((0 : Int32)) ((0 : Int32))))
abbrev rm_X8_claims : Room := { frames := 3, cells := 0, slots := 0, locals := 69 }
set_option maxHeartbeats 4000000 in
set_option maxRecDepth 100000 in
theorem c_X8_claims (l : Launch) (G : zG) (a_this : Nat) (a_this_told : Nat) (a_this_now : Nat) (a_this_now_leases : Nat) (a_this_now_leases_parts : Nat) (a_this_text : Nat) (a_this_reader : Nat) (a_this_draft : Nat) (a_this_firstImage : Nat) (a_this_secondImage : Nat) (a_this_kept : Nat) (a_this_offers : Nat) (a_this_seen : Nat) (a_this_rents : Nat) (a_this_told_starts : Nat) (a_this_told_paces : Nat) (a_this_told_brights : Nat) (a_this_told_purses : Nat) (a_this_told_leases : Nat) (a_this_now_purses : Nat) (a_this_now_past : Nat) (v_traced : Int64) (v_told_squares : Int32) (v_told_stars : Int32) (v_told_tenants : Int32) (v_now_night : Int32) (v_now_lot : Int32) (v_now_leases_most : Int32) (v_now_leases_size : Int32) (v_now_leases_parts : (Nat → Int32)) (g1 : Int32) (g2 : Int32) (R0 : Int32) (hf : f_X8_claims v_told_squares v_now_leases_size v_now_leases_parts g1 g2 = some R0) : Met l yX8_claims wsX8_claims rm_X8_claims (va_Pc [.ref a_this, .int g1, .int g2] (zR G [(a_this, .inr (8, [.ref a_this_text, .ref a_this_reader, .ref a_this_told, .ref a_this_draft, .ref a_this_now, .ref a_this_firstImage, .ref a_this_secondImage, .ref a_this_kept, .ref a_this_offers, .ref a_this_seen, .ref a_this_rents, .long v_traced])), (a_this_told, .inr (5, [.int v_told_squares, .int v_told_stars, .ref a_this_told_starts, .ref a_this_told_paces, .ref a_this_told_brights, .int v_told_tenants, .ref a_this_told_purses, .ref a_this_told_leases])), (a_this_now, .inr (0, [.int v_now_night, .int v_now_lot, .ref a_this_now_purses, .ref a_this_now_leases, .ref a_this_now_past])), (a_this_now_leases, .inr (6, [.int v_now_leases_most, .ref a_this_now_leases_parts, .int v_now_leases_size])), (a_this_now_leases_parts, .inl (G.2.1, 50, .inl v_now_leases_parts))])) (zSv (some (.int R0))) 0 0 (fun _ => False) := by
  refine Met.ofW (cc := cX8_claims) (maxL := 5) (ret := (some .int)) (by decide) rfl ?_
  intro p e s m args below meth c s₁ B hml hv
  obtain ⟨hargs, hP, hE⟩ := hv
  have hx := B.exec
  have hb := B.bytes
  have hr := B.returns
  have hts := atoms_spec (ws := wsX8_claims) B.pre
  have hown : s.vm.findClass RX8 = some m.cls := findClass_of_methodNamed B.named
  have hlocks := B.notSynchronized
  have hK := hE.1
  have hC : CallFix p m c cX8_claims 5 s args wsX8_claims RX8 := ⟨hx, hb, hml, hown, hts⟩
  have inX0 : ∀ w ∈ wsX00, w ∈ wsX8_claims := by decide +kernel
  have inX5 : ∀ w ∈ wsX50, w ∈ wsX8_claims := by decide +kernel
  have inX6 : ∀ w ∈ wsX60, w ∈ wsX8_claims := by decide +kernel
  have inX8 : ∀ w ∈ wsX80, w ∈ wsX8_claims := by decide +kernel
  have lk26 := hts (.fieldLink RX8 26 "SkyLeases" "told" "LSkyLeases$Sky;") (by decide +kernel)
  have lk36 := hts (.fieldLink RX8 36 "SkyLeases" "now" "LSkyLeases$Now;") (by decide +kernel)
  have lk99 := hts (.fieldLink RX8 99 "SkyLeases$Terms" "size" "I") (by decide +kernel)
  have lk116 := hts (.fieldLink RX8 116 "SkyLeases$Now" "leases" "LSkyLeases$Terms;") (by decide +kernel)
  have lk131 := hts (.fieldLink RX8 131 "SkyLeases$Sky" "squares" "I") (by decide +kernel)
  have hl := lv_entry ([.ref a_this, .int g1, .int g2]) (n := 5) (Nat.le_of_ble_eq_true rfl)
  have hent : entryFrame m args 5 = F0 m 0 ((lg_sl ([.ref a_this, .int g1, .int g2]) ++ List.replicate (5 - (lg_sl ([.ref a_this, .int g1, .int g2])).length) Slot.unset).toArray) [] := by rw [hargs]; exact lg_entry_eq m [.ref a_this, .int g1, .int g2] 5
  refine W.eq hent ?_
  clear hent
  generalize (lg_sl ([.ref a_this, .int g1, .int g2]) ++ List.replicate (5 - (lg_sl ([.ref a_this, .int g1, .int g2])).length) Slot.unset).toArray = ls at hl ⊢
  have hl : lv_has ls 5 [(0, .ref a_this), (1, .int g1), (2, .int g2)] := hl
  generalize hQ : MQ below _ args s 0 0 _ = QQ
  change W p l e rm_X8_claims s m args below meth c s.heap [] 0 0 QQ _
  have j70 : ∀ (x1 : Int32), ∀ (x2 : Int32), ∀ (k28 : Int32 → Int32 → Option (Int32)), (∀ (x3 : Int32), ∀ (x4 : Int32), ∀ (ls : Array Slot), lv_has ls 5 [(0, .ref a_this), (1, .int x1), (2, .int x2), (3, .int x3), (4, .int x4)] → k28 x3 x4 = some R0 → W p l e rm_X8_claims s m args below meth c s.heap [] 0 0 QQ (F0 m 28 ls [])) → ∀ (x3 : Int32), ∀ (x4 : Int32), ∀ (ls : Array Slot), lv_has ls 5 [(0, .ref a_this), (1, .int x1), (2, .int x2), (3, .int x3), (4, .int x4)] → f_X8_claims_b70 k28 x3 x4 = some R0 → W p l e rm_X8_claims s m args below meth c s.heap [] 0 0 QQ (F0 m 70 ls []) := by
    intro x1 x2 k28 hk28 x3 x4 ls hl hf
    unfold f_X8_claims_b70 at hf
    refine lv_iinc (v := (x4 + (1 : Int32))) (lv' := [(4, .int (x4 + (1 : Int32))), (0, .ref a_this), (1, .int x1), (2, .int x2), (3, .int x3)]) hx hb dX8_claims_70 hl (k := 4) rfl rfl (by decide) rfl (fun ls hl => ?_)
    refine lv_goto (tgt := 28) hx hb dX8_claims_73 (by decide) ?_
    exact hk28 (x3) ((x4 + (1 : Int32))) ls (lv_sub hl [1, 2, 3, 4, 0] rfl) hf
  have j28 : ∀ (x1 : Int32), ∀ (x2 : Int32), ∀ (nn : Nat), ∀ (x3 : Int32), ∀ (x4 : Int32), ∀ (ls : Array Slot), lv_has ls 5 [(0, .ref a_this), (1, .int x1), (2, .int x2), (3, .int x3), (4, .int x4)] → f_X8_claims_b28 v_told_squares v_now_leases_size v_now_leases_parts x1 x2 nn x3 x4 = some R0 → W p l e rm_X8_claims s m args below meth c s.heap [] 0 0 QQ (F0 m 28 ls []) := by
    intro x1 x2
    intro nn
    induction nn with
    | zero =>
      intro x3 x4 ls hl hf
      rw [f_X8_claims_b28] at hf
      cases hf
    | succ n28 ih =>
      intro x3 x4 ls hl hf
      rw [f_X8_claims_b28] at hf
      refine lv_iload hx hb dX8_claims_28 (lv_at hl 4 rfl) ?_
      refine lv_aload_n hx hb dX8_claims_30 rfl (lv_at hl 0 rfl) ?_
      refine va_get (D := G.1) (ci := 8) (v := .ref a_this_now) (C := RX8) (T := TX8) (N := 12) hx hb hts inX8 hown hK hP 0 rfl rfl 4 (by decide) lk36 (fun _ h9 => h9) rfl dX8_claims_31 ?_
      refine va_get (D := G.1) (ci := 0) (v := .ref a_this_now_leases) (C := RX0) (T := TX0) (N := 5) hx hb hts inX0 hown hK hP 2 rfl rfl 3 (by decide) lk116 (fun _ h9 => h9) rfl dX8_claims_34 ?_
      refine va_get (D := G.1) (ci := 6) (v := .int v_now_leases_size) (C := RX6) (T := TX6) (N := 3) hx hb hts inX6 hown hK hP 3 rfl rfl 2 (by decide) lk99 (fun _ h9 => h9) rfl dX8_claims_37 ?_
      refine lv_icmp_ge (tgt := 76) hx hb dX8_claims_40 (by decide) (fun hc8 => ?_) (fun hc8 => ?_)
      · have hf := if_t hf hc8
        refine lv_iload_n hx hb dX8_claims_76 rfl (lv_at hl 3 rfl) ?_
        have hr0 := so1 hf
        subst hr0
        rw [← hQ]
        exact W.iret (v := x3) hx hb hr (fun t ht hW => ⟨rfl, ht⟩) (fun _ h => by cases h) dX8_claims_77
      · have hf := if_f hf hc8
        refine lv_aload_n hx hb dX8_claims_43 rfl (lv_at hl 0 rfl) ?_
        refine va_get (D := G.1) (ci := 8) (v := .ref a_this_now) (C := RX8) (T := TX8) (N := 12) hx hb hts inX8 hown hK hP 0 rfl rfl 4 (by decide) lk36 (fun _ h9 => h9) rfl dX8_claims_44 ?_
        refine va_get (D := G.1) (ci := 0) (v := .ref a_this_now_leases) (C := RX0) (T := TX0) (N := 5) hx hb hts inX0 hown hK hP 2 rfl rfl 3 (by decide) lk116 (fun _ h9 => h9) rfl dX8_claims_47 ?_
        refine lv_iload hx hb dX8_claims_50 (lv_at hl 4 rfl) ?_
        refine lv_iload_n hx hb dX8_claims_52 rfl (lv_at hl 1 rfl) ?_
        refine lv_iload_n hx hb dX8_claims_53 rfl (lv_at hl 2 rfl) ?_
        refine lv_aload_n hx hb dX8_claims_54 rfl (lv_at hl 0 rfl) ?_
        refine va_get (D := G.1) (ci := 8) (v := .ref a_this_told) (C := RX8) (T := TX8) (N := 12) hx hb hts inX8 hown hK hP 0 rfl rfl 2 (by decide) lk26 (fun _ h9 => h9) rfl dX8_claims_55 ?_
        refine va_get (D := G.1) (ci := 5) (v := .int v_told_squares) (C := RX5) (T := TX5) (N := 8) hx hb hts inX5 hown hK hP 1 rfl rfl 0 (by decide) lk131 (fun _ h9 => h9) rfl dX8_claims_58 ?_
        obtain ⟨r9, hu, hf⟩ := bd1_some hf
        refine zRi (va_runV (As := [.int x4, .int x1, .int x2, .int v_told_squares]) (rest := []) hC (c_X6_covers l G a_this_now_leases a_this_now_leases_parts (v_now_leases_most) (v_now_leases_size) (v_now_leases_parts) (x4) (x1) (x2) (v_told_squares) r9 hu) (cwV 4 hts gX8_claims_X6_covers rfl rfl rfl hd_X6_covers ⟨(Nat.le_of_ble_eq_true rfl), (Nat.le_of_ble_eq_true rfl)⟩) (zPV hE hP [3, 4] rfl 3 rfl rfl) rfl rfl hl.1 rfl (lv_room (Nat.le_of_ble_eq_true rfl)) dX8_claims_61 ⟨Nat.zero_le _, Nat.zero_le _⟩) ?_
        refine lv_if_eq (tgt := 70) hx hb dX8_claims_64 (by decide) (fun hc10 => ?_) (fun hc10 => ?_)
        · have hf := if_t hf hc10
          exact j70 (x1) (x2) (f_X8_claims_b28 v_told_squares v_now_leases_size v_now_leases_parts x1 x2 n28) ih (x3) (x4) ls (lv_sub hl [0, 1, 2, 3, 4] rfl) hf
        · have hf := if_f hf hc10
          refine lv_iinc (v := (x3 + (1 : Int32))) (lv' := [(3, .int (x3 + (1 : Int32))), (0, .ref a_this), (1, .int x1), (2, .int x2), (4, .int x4)]) hx hb dX8_claims_67 hl (k := 3) rfl rfl (by decide) rfl (fun ls hl => ?_)
          exact j70 (x1) (x2) (f_X8_claims_b28 v_told_squares v_now_leases_size v_now_leases_parts x1 x2 n28) ih ((x3 + (1 : Int32))) (x4) ls (lv_sub hl [1, 2, 3, 0, 4] rfl) hf
  unfold f_X8_claims at hf
  refine lv_aload_n hx hb dX8_claims_0 rfl (lv_at hl 0 rfl) ?_
  refine va_get (D := G.1) (ci := 8) (v := .ref a_this_told) (C := RX8) (T := TX8) (N := 12) hx hb hts inX8 hown hK hP 0 rfl rfl 2 (by decide) lk26 (fun _ h9 => h9) rfl dX8_claims_1 ?_
  refine lv_iload_n hx hb dX8_claims_4 rfl (lv_at hl 1 rfl) ?_
  obtain ⟨r11, hu, hf⟩ := bd1_some hf
  refine zRi (va_runV (As := [.int g1]) (rest := []) hC (c_X5_hasSquare l G a_this_told a_this_told_starts a_this_told_paces a_this_told_brights a_this_told_purses a_this_told_leases (v_told_squares) (v_told_stars) (v_told_tenants) (g1) r11 hu) (cwV 1 hts gX8_claims_X5_hasSquare rfl rfl rfl hd_X5_hasSquare ⟨(Nat.le_of_ble_eq_true rfl), (Nat.le_of_ble_eq_true rfl)⟩) (zPV hE hP [1] rfl 1 rfl rfl) rfl rfl hl.1 rfl (lv_room (Nat.le_of_ble_eq_true rfl)) dX8_claims_5 ⟨Nat.zero_le _, Nat.zero_le _⟩) ?_
  refine lv_if_eq (tgt := 21) hx hb dX8_claims_8 (by decide) (fun hc12 => ?_) (fun hc12 => ?_)
  · have hf := if_t hf hc12
    refine lv_iconst (v := (-1 : Int32)) hx hb dX8_claims_21 (by decide) ?_
    have hr0 := so1 hf
    subst hr0
    rw [← hQ]
    exact W.iret (v := (-1 : Int32)) hx hb hr (fun t ht hW => ⟨rfl, ht⟩) (fun _ h => by cases h) dX8_claims_22
  · have hf := if_f hf hc12
    refine lv_iload_n hx hb dX8_claims_11 rfl (lv_at hl 2 rfl) ?_
    refine lv_iconst (v := (0 : Int32)) hx hb dX8_claims_12 (by decide) ?_
    refine lv_bipush (v := (99 : Int32)) hx hb dX8_claims_13 (by decide) ?_
    obtain ⟨r13, hu, hf⟩ := bd1_some hf
    refine zRi (va_runS (As := [.int g2, .int (0 : Int32), .int (99 : Int32)]) (rest := []) hC (c_X8_isWithin l G (g2) ((0 : Int32)) ((99 : Int32)) r13 hu) (va_cwS 3 hts gX8_claims_X8_isWithin rfl rfl rfl hd_X8_isWithin.2 ⟨(Nat.le_of_ble_eq_true rfl), (Nat.le_of_ble_eq_true rfl)⟩) (zPS hE hP [] rfl) rfl rfl hl.1 rfl (lv_room (Nat.le_of_ble_eq_true rfl)) dX8_claims_15 ⟨Nat.zero_le _, Nat.zero_le _⟩) ?_
    refine lv_if_ne (tgt := 23) hx hb dX8_claims_18 (by decide) (fun hc14 => ?_) (fun hc14 => ?_)
    · have hf := if_f hf hc14
      refine lv_iconst (v := (0 : Int32)) hx hb dX8_claims_23 (by decide) ?_
      refine lv_istore_n (lv' := [(3, .int (0 : Int32)), (0, .ref a_this), (1, .int g1), (2, .int g2)]) hx hb dX8_claims_24 rfl hl (by decide) rfl (fun ls hl => ?_)
      refine lv_iconst (v := (0 : Int32)) hx hb dX8_claims_25 (by decide) ?_
      refine lv_istore (lv' := [(4, .int (0 : Int32)), (3, .int (0 : Int32)), (0, .ref a_this), (1, .int g1), (2, .int g2)]) hx hb dX8_claims_26 hl (by decide) rfl (fun ls hl => ?_)
      exact j28 (g1) (g2) zF ((0 : Int32)) ((0 : Int32)) ls (lv_sub hl [2, 3, 4, 1, 0] rfl) hf
    · have hf := if_t hf hc14
      refine lv_iconst (v := (-1 : Int32)) hx hb dX8_claims_21 (by decide) ?_
      have hr0 := so1 hf
      subst hr0
      rw [← hQ]
      exact W.iret (v := (-1 : Int32)) hx hb hr (fun t ht hW => ⟨rfl, ht⟩) (fun _ h => by cases h) dX8_claims_22
theorem hd_X5_nightsToRepeat : yX5_nightsToRepeat.cls = RX5 ∧ yX5_nightsToRepeat.cls ≠ "java/lang/invoke/MethodHandle" ∧ yX5_nightsToRepeat.cls ≠ "java/lang/invoke/VarHandle" ∧ (parseMethodDescriptor yX5_nightsToRepeat.desc).map (fun d => d.parameters.length) = some 0 := by decide +kernel
def f_X8_cycle  (v_told_squares : Int32) (v_told_stars : Int32) (v_told_paces : (Nat → Int32))  : Option (Int32) := bd1 (f_X5_nightsToRepeat (v_told_squares) (v_told_stars) (v_told_paces)) fun r2 => some (r2)
abbrev rm_X8_cycle : Room := { frames := 2, cells := 0, slots := 0, locals := 49 }
set_option maxHeartbeats 4000000 in
set_option maxRecDepth 100000 in
theorem c_X8_cycle (l : Launch) (G : zG) (a_this : Nat) (a_this_told : Nat) (a_this_told_paces : Nat) (a_this_text : Nat) (a_this_reader : Nat) (a_this_draft : Nat) (a_this_now : Nat) (a_this_firstImage : Nat) (a_this_secondImage : Nat) (a_this_kept : Nat) (a_this_offers : Nat) (a_this_seen : Nat) (a_this_rents : Nat) (a_this_told_starts : Nat) (a_this_told_brights : Nat) (a_this_told_purses : Nat) (a_this_told_leases : Nat) (v_traced : Int64) (v_told_squares : Int32) (v_told_stars : Int32) (v_told_tenants : Int32) (v_told_paces : (Nat → Int32)) (R0 : Int32) (hf : f_X8_cycle v_told_squares v_told_stars v_told_paces = some R0) : Met l yX8_cycle wsX8_cycle rm_X8_cycle (va_Pc [.ref a_this] (zR G [(a_this, .inr (8, [.ref a_this_text, .ref a_this_reader, .ref a_this_told, .ref a_this_draft, .ref a_this_now, .ref a_this_firstImage, .ref a_this_secondImage, .ref a_this_kept, .ref a_this_offers, .ref a_this_seen, .ref a_this_rents, .long v_traced])), (a_this_told, .inr (5, [.int v_told_squares, .int v_told_stars, .ref a_this_told_starts, .ref a_this_told_paces, .ref a_this_told_brights, .int v_told_tenants, .ref a_this_told_purses, .ref a_this_told_leases])), (a_this_told_paces, .inl (G.2.1, 8, .inl v_told_paces))])) (zSv (some (.int R0))) 0 0 (fun _ => False) := by
  refine Met.ofW (cc := cX8_cycle) (maxL := 1) (ret := (some .int)) (by decide) rfl ?_
  intro p e s m args below meth c s₁ B hml hv
  obtain ⟨hargs, hP, hE⟩ := hv
  have hx := B.exec
  have hb := B.bytes
  have hr := B.returns
  have hts := atoms_spec (ws := wsX8_cycle) B.pre
  have hown : s.vm.findClass RX8 = some m.cls := findClass_of_methodNamed B.named
  have hlocks := B.notSynchronized
  have hK := hE.1
  have hC : CallFix p m c cX8_cycle 1 s args wsX8_cycle RX8 := ⟨hx, hb, hml, hown, hts⟩
  have inX8 : ∀ w ∈ wsX80, w ∈ wsX8_cycle := by decide +kernel
  have lk26 := hts (.fieldLink RX8 26 "SkyLeases" "told" "LSkyLeases$Sky;") (by decide +kernel)
  have hl := lv_entry ([.ref a_this]) (n := 1) (Nat.le_of_ble_eq_true rfl)
  have hent : entryFrame m args 1 = F0 m 0 ((lg_sl ([.ref a_this]) ++ List.replicate (1 - (lg_sl ([.ref a_this])).length) Slot.unset).toArray) [] := by rw [hargs]; exact lg_entry_eq m [.ref a_this] 1
  refine W.eq hent ?_
  clear hent
  generalize (lg_sl ([.ref a_this]) ++ List.replicate (1 - (lg_sl ([.ref a_this])).length) Slot.unset).toArray = ls at hl ⊢
  have hl : lv_has ls 1 [(0, .ref a_this)] := hl
  generalize hQ : MQ below _ args s 0 0 _ = QQ
  change W p l e rm_X8_cycle s m args below meth c s.heap [] 0 0 QQ _
  unfold f_X8_cycle at hf
  refine lv_aload_n hx hb dX8_cycle_0 rfl (lv_at hl 0 rfl) ?_
  refine va_get (D := G.1) (ci := 8) (v := .ref a_this_told) (C := RX8) (T := TX8) (N := 12) hx hb hts inX8 hown hK hP 0 rfl rfl 2 (by decide) lk26 (fun _ h9 => h9) rfl dX8_cycle_1 ?_
  obtain ⟨r2, hu, hf⟩ := bd1_some hf
  refine zRi (va_runV (As := []) (rest := []) hC (c_X5_nightsToRepeat l G a_this_told a_this_told_paces a_this_told_starts a_this_told_brights a_this_told_purses a_this_told_leases (v_told_squares) (v_told_stars) (v_told_tenants) (v_told_paces) r2 hu) (cwV 0 hts gX8_cycle_X5_nightsToRepeat rfl rfl rfl hd_X5_nightsToRepeat ⟨(Nat.le_of_ble_eq_true rfl), (Nat.le_of_ble_eq_true rfl)⟩) (zPV hE hP [1, 2] rfl 1 rfl rfl) rfl rfl hl.1 rfl (lv_room (Nat.le_of_ble_eq_true rfl)) dX8_cycle_4 ⟨Nat.zero_le _, Nat.zero_le _⟩) ?_
  have hr0 := so1 hf
  subst hr0
  rw [← hQ]
  exact W.iret (v := r2) hx hb hr (fun t ht hW => ⟨rfl, ht⟩) (fun _ h => by cases h) dX8_cycle_7
theorem hd_X5_hasTenant : yX5_hasTenant.cls = RX5 ∧ yX5_hasTenant.cls ≠ "java/lang/invoke/MethodHandle" ∧ yX5_hasTenant.cls ≠ "java/lang/invoke/VarHandle" ∧ (parseMethodDescriptor yX5_hasTenant.desc).map (fun d => d.parameters.length) = some 1 := by decide +kernel
def f_X8_purse  (v_told_tenants : Int32) (v_now_purses : (Nat → Int32)) (g1 : Int32) : Option (Int32) := bd1 (f_X5_hasTenant (v_told_tenants) (g1)) fun r4 => if r4 = (0 : Int32) then (some ((-1 : Int32))) else (gd (inB g1 4) (some ((v_now_purses (g1).toNatClampNeg))))
abbrev rm_X8_purse : Room := { frames := 1, cells := 0, slots := 0, locals := 21 }
set_option maxHeartbeats 4000000 in
set_option maxRecDepth 100000 in
theorem c_X8_purse (l : Launch) (G : zG) (a_this : Nat) (a_this_told : Nat) (a_this_now : Nat) (a_this_now_purses : Nat) (a_this_text : Nat) (a_this_reader : Nat) (a_this_draft : Nat) (a_this_firstImage : Nat) (a_this_secondImage : Nat) (a_this_kept : Nat) (a_this_offers : Nat) (a_this_seen : Nat) (a_this_rents : Nat) (a_this_told_starts : Nat) (a_this_told_paces : Nat) (a_this_told_brights : Nat) (a_this_told_purses : Nat) (a_this_told_leases : Nat) (a_this_now_leases : Nat) (a_this_now_past : Nat) (v_traced : Int64) (v_told_squares : Int32) (v_told_stars : Int32) (v_told_tenants : Int32) (v_now_night : Int32) (v_now_lot : Int32) (v_now_purses : (Nat → Int32)) (g1 : Int32) (R0 : Int32) (hf : f_X8_purse v_told_tenants v_now_purses g1 = some R0) : Met l yX8_purse wsX8_purse rm_X8_purse (va_Pc [.ref a_this, .int g1] (zR G [(a_this, .inr (8, [.ref a_this_text, .ref a_this_reader, .ref a_this_told, .ref a_this_draft, .ref a_this_now, .ref a_this_firstImage, .ref a_this_secondImage, .ref a_this_kept, .ref a_this_offers, .ref a_this_seen, .ref a_this_rents, .long v_traced])), (a_this_told, .inr (5, [.int v_told_squares, .int v_told_stars, .ref a_this_told_starts, .ref a_this_told_paces, .ref a_this_told_brights, .int v_told_tenants, .ref a_this_told_purses, .ref a_this_told_leases])), (a_this_now, .inr (0, [.int v_now_night, .int v_now_lot, .ref a_this_now_purses, .ref a_this_now_leases, .ref a_this_now_past])), (a_this_now_purses, .inl (G.2.1, 4, .inl v_now_purses))])) (zSv (some (.int R0))) 0 0 (fun _ => False) := by
  refine Met.ofW (cc := cX8_purse) (maxL := 2) (ret := (some .int)) (by decide) rfl ?_
  intro p e s m args below meth c s₁ B hml hv
  obtain ⟨hargs, hP, hE⟩ := hv
  have hx := B.exec
  have hb := B.bytes
  have hr := B.returns
  have hts := atoms_spec (ws := wsX8_purse) B.pre
  have hown : s.vm.findClass RX8 = some m.cls := findClass_of_methodNamed B.named
  have hlocks := B.notSynchronized
  have hK := hE.1
  have hC : CallFix p m c cX8_purse 2 s args wsX8_purse RX8 := ⟨hx, hb, hml, hown, hts⟩
  have inX0 : ∀ w ∈ wsX00, w ∈ wsX8_purse := by decide +kernel
  have inX8 : ∀ w ∈ wsX80, w ∈ wsX8_purse := by decide +kernel
  have lk26 := hts (.fieldLink RX8 26 "SkyLeases" "told" "LSkyLeases$Sky;") (by decide +kernel)
  have lk36 := hts (.fieldLink RX8 36 "SkyLeases" "now" "LSkyLeases$Now;") (by decide +kernel)
  have lk153 := hts (.fieldLink RX8 153 "SkyLeases$Now" "purses" "[I") (by decide +kernel)
  have hl := lv_entry ([.ref a_this, .int g1]) (n := 2) (Nat.le_of_ble_eq_true rfl)
  have hent : entryFrame m args 2 = F0 m 0 ((lg_sl ([.ref a_this, .int g1]) ++ List.replicate (2 - (lg_sl ([.ref a_this, .int g1])).length) Slot.unset).toArray) [] := by rw [hargs]; exact lg_entry_eq m [.ref a_this, .int g1] 2
  refine W.eq hent ?_
  clear hent
  generalize (lg_sl ([.ref a_this, .int g1]) ++ List.replicate (2 - (lg_sl ([.ref a_this, .int g1])).length) Slot.unset).toArray = ls at hl ⊢
  have hl : lv_has ls 2 [(0, .ref a_this), (1, .int g1)] := hl
  generalize hQ : MQ below _ args s 0 0 _ = QQ
  change W p l e rm_X8_purse s m args below meth c s.heap [] 0 0 QQ _
  unfold f_X8_purse at hf
  refine lv_aload_n hx hb dX8_purse_0 rfl (lv_at hl 0 rfl) ?_
  refine va_get (D := G.1) (ci := 8) (v := .ref a_this_told) (C := RX8) (T := TX8) (N := 12) hx hb hts inX8 hown hK hP 0 rfl rfl 2 (by decide) lk26 (fun _ h9 => h9) rfl dX8_purse_1 ?_
  refine lv_iload_n hx hb dX8_purse_4 rfl (lv_at hl 1 rfl) ?_
  obtain ⟨r4, hu, hf⟩ := bd1_some hf
  refine zRi (va_runV (As := [.int g1]) (rest := []) hC (c_X5_hasTenant l G a_this_told a_this_told_starts a_this_told_paces a_this_told_brights a_this_told_purses a_this_told_leases (v_told_squares) (v_told_stars) (v_told_tenants) (g1) r4 hu) (cwV 1 hts gX8_purse_X5_hasTenant rfl rfl rfl hd_X5_hasTenant ⟨(Nat.le_of_ble_eq_true rfl), (Nat.le_of_ble_eq_true rfl)⟩) (zPV hE hP [1] rfl 1 rfl rfl) rfl rfl hl.1 rfl (lv_room (Nat.le_of_ble_eq_true rfl)) dX8_purse_5 ⟨Nat.zero_le _, Nat.zero_le _⟩) ?_
  refine lv_if_eq (tgt := 23) hx hb dX8_purse_8 (by decide) (fun hc5 => ?_) (fun hc5 => ?_)
  · have hf := if_t hf hc5
    refine lv_iconst (v := (-1 : Int32)) hx hb dX8_purse_23 (by decide) ?_
    have hr0 := so1 hf
    subst hr0
    rw [← hQ]
    exact W.iret (v := (-1 : Int32)) hx hb hr (fun t ht hW => ⟨rfl, ht⟩) (fun _ h => by cases h) dX8_purse_24
  · have hf := if_f hf hc5
    refine lv_aload_n hx hb dX8_purse_11 rfl (lv_at hl 0 rfl) ?_
    refine va_get (D := G.1) (ci := 8) (v := .ref a_this_now) (C := RX8) (T := TX8) (N := 12) hx hb hts inX8 hown hK hP 0 rfl rfl 4 (by decide) lk36 (fun _ h9 => h9) rfl dX8_purse_12 ?_
    refine va_get (D := G.1) (ci := 0) (v := .ref a_this_now_purses) (C := RX0) (T := TX0) (N := 5) hx hb hts inX0 hown hK hP 2 rfl rfl 2 (by decide) lk153 (fun _ h9 => h9) rfl dX8_purse_15 ?_
    refine lv_iload_n hx hb dX8_purse_18 rfl (lv_at hl 1 rfl) ?_
    obtain ⟨hg6, hf⟩ := gd_some hf
    refine va_iald hx hb hK hP 3 0 rfl rfl (inB_in hg6) dX8_purse_19 ?_
    refine lv_goto (tgt := 24) hx hb dX8_purse_20 (by decide) ?_
    have hr0 := so1 hf
    subst hr0
    rw [← hQ]
    exact W.iret (v := (v_now_purses (g1).toNatClampNeg)) hx hb hr (fun t ht hW => ⟨rfl, ht⟩) (fun _ h => by cases h) dX8_purse_24
def f_X8_lot  (v_now_lot : Int32) (g1 : Int32) : Option (Int32 × Int32) := some (v_now_lot, g1)
abbrev rm_X8_lot : Room := { frames := 0, cells := 0, slots := 0, locals := 0 }
set_option maxHeartbeats 4000000 in
set_option maxRecDepth 100000 in
theorem c_X8_lot (l : Launch) (G : zG) (sz : Nat) (a_this : Nat) (a_this_now : Nat) (a_this_text : Nat) (a_this_reader : Nat) (a_this_told : Nat) (a_this_draft : Nat) (a_this_firstImage : Nat) (a_this_secondImage : Nat) (a_this_kept : Nat) (a_this_offers : Nat) (a_this_seen : Nat) (a_this_rents : Nat) (a_this_now_purses : Nat) (a_this_now_leases : Nat) (a_this_now_past : Nat) (v_traced : Int64) (v_now_night : Int32) (v_now_lot : Int32) (g1 : Int32) (R0 : Int32) (R1 : Int32) (hf : f_X8_lot v_now_lot g1 = some (R0, R1)) : Met l yX8_lot wsX8_lot rm_X8_lot (va_Pc [.ref a_this, .int g1] (zB G [(a_this, .inr (8, [.ref a_this_text, .ref a_this_reader, .ref a_this_told, .ref a_this_draft, .ref a_this_now, .ref a_this_firstImage, .ref a_this_secondImage, .ref a_this_kept, .ref a_this_offers, .ref a_this_seen, .ref a_this_rents, .long v_traced])), (a_this_now, .inr (0, [.int v_now_night, .int v_now_lot, .ref a_this_now_purses, .ref a_this_now_leases, .ref a_this_now_past]))] sz)) (zQ G (some (.int R0)) [(a_this, .inr (8, [.ref a_this_text, .ref a_this_reader, .ref a_this_told, .ref a_this_draft, .ref a_this_now, .ref a_this_firstImage, .ref a_this_secondImage, .ref a_this_kept, .ref a_this_offers, .ref a_this_seen, .ref a_this_rents, .long v_traced])), (a_this_now, .inr (0, [.int v_now_night, .int R1, .ref a_this_now_purses, .ref a_this_now_leases, .ref a_this_now_past]))] (va_A [(a_this, .inr (8, [.ref a_this_text, .ref a_this_reader, .ref a_this_told, .ref a_this_draft, .ref a_this_now, .ref a_this_firstImage, .ref a_this_secondImage, .ref a_this_kept, .ref a_this_offers, .ref a_this_seen, .ref a_this_rents, .long v_traced])), (a_this_now, .inr (0, [.int v_now_night, .int v_now_lot, .ref a_this_now_purses, .ref a_this_now_leases, .ref a_this_now_past]))] sz)) 0 0 (va_A [(a_this, .inr (8, [.ref a_this_text, .ref a_this_reader, .ref a_this_told, .ref a_this_draft, .ref a_this_now, .ref a_this_firstImage, .ref a_this_secondImage, .ref a_this_kept, .ref a_this_offers, .ref a_this_seen, .ref a_this_rents, .long v_traced])), (a_this_now, .inr (0, [.int v_now_night, .int v_now_lot, .ref a_this_now_purses, .ref a_this_now_leases, .ref a_this_now_past]))] sz) := by
  refine Met.ofW (cc := cX8_lot) (maxL := 3) (ret := (some .int)) (by decide) rfl ?_
  intro p e s m args below meth c s₁ B hml hv
  obtain ⟨hargs, hsz, hP, hD0, hE⟩ := hv
  have hx := B.exec
  have hb := B.bytes
  have hr := B.returns
  have hts := atoms_spec (ws := wsX8_lot) B.pre
  have hown : s.vm.findClass RX8 = some m.cls := findClass_of_methodNamed B.named
  have hlocks := B.notSynchronized
  have hK := hE.1
  have hC : CallFix p m c cX8_lot 3 s args wsX8_lot RX8 := ⟨hx, hb, hml, hown, hts⟩
  have inX0 : ∀ w ∈ wsX00, w ∈ wsX8_lot := by decide +kernel
  have inX8 : ∀ w ∈ wsX80, w ∈ wsX8_lot := by decide +kernel
  have lk36 := hts (.fieldLink RX8 36 "SkyLeases" "now" "LSkyLeases$Now;") (by decide +kernel)
  have lk72 := hts (.fieldLink RX8 72 "SkyLeases$Now" "lot" "I") (by decide +kernel)
  subst hsz
  have hD := hD0.self (sz := s.heap.size)
  generalize hAe : va_A [(a_this, .inr (8, [.ref a_this_text, .ref a_this_reader, .ref a_this_told, .ref a_this_draft, .ref a_this_now, .ref a_this_firstImage, .ref a_this_secondImage, .ref a_this_kept, .ref a_this_offers, .ref a_this_seen, .ref a_this_rents, .long v_traced])), (a_this_now, .inr (0, [.int v_now_night, .int v_now_lot, .ref a_this_now_purses, .ref a_this_now_leases, .ref a_this_now_past]))] s.heap.size = A at hD ⊢
  have hA : ∀ q : Nat, s.heap.size ≤ q → A q := fun q h => by rw [← hAe]; exact Or.inr h
  have hS : va_S A s.heap s.heap [] := va_S.rf
  have hP : va_P G.1 vwCl [(a_this, .inr (8, [.ref a_this_text, .ref a_this_reader, .ref a_this_told, .ref a_this_draft, .ref a_this_now, .ref a_this_firstImage, .ref a_this_secondImage, .ref a_this_kept, .ref a_this_offers, .ref a_this_seen, .ref a_this_rents, .long v_traced])), (a_this_now, .inr (0, [.int v_now_night, .int v_now_lot, .ref a_this_now_purses, .ref a_this_now_leases, .ref a_this_now_past]))] s.heap := hP
  have hl := lv_entry ([.ref a_this, .int g1]) (n := 3) (Nat.le_of_ble_eq_true rfl)
  have hent : entryFrame m args 3 = F0 m 0 ((lg_sl ([.ref a_this, .int g1]) ++ List.replicate (3 - (lg_sl ([.ref a_this, .int g1])).length) Slot.unset).toArray) [] := by rw [hargs]; exact lg_entry_eq m [.ref a_this, .int g1] 3
  refine W.eq hent ?_
  clear hent
  generalize (lg_sl ([.ref a_this, .int g1]) ++ List.replicate (3 - (lg_sl ([.ref a_this, .int g1])).length) Slot.unset).toArray = ls at hl ⊢
  have hl : lv_has ls 3 [(0, .ref a_this), (1, .int g1)] := hl
  generalize hQ : MQ below _ args s 0 0 _ = QQ
  change W p l e rm_X8_lot s m args below meth c s.heap [] 0 0 QQ _
  have hSH := hS
  unfold f_X8_lot at hf
  refine lv_aload_n hx hb dX8_lot_0 rfl (lv_at hl 0 rfl) ?_
  refine va_get (D := G.1) (ci := 8) (v := .ref a_this_now) (C := RX8) (T := TX8) (N := 12) hx hb hts inX8 hown hK hP 0 rfl rfl 4 (by decide) lk36 (fun _ h9 => h9) rfl dX8_lot_1 ?_
  refine va_get (D := G.1) (ci := 0) (v := .int v_now_lot) (C := RX0) (T := TX0) (N := 5) hx hb hts inX0 hown hK hP 1 rfl rfl 1 (by decide) lk72 (fun _ h9 => h9) rfl dX8_lot_4 ?_
  refine lv_istore_n (lv' := [(2, .int v_now_lot), (0, .ref a_this), (1, .int g1)]) hx hb dX8_lot_7 rfl hl (by decide) rfl (fun ls hl => ?_)
  refine lv_aload_n hx hb dX8_lot_8 rfl (lv_at hl 1 rfl) ?_
  refine va_get (D := G.1) (ci := 8) (v := .ref a_this_now) (C := RX8) (T := TX8) (N := 12) hx hb hts inX8 hown hK hP 0 rfl rfl 4 (by decide) lk36 (fun _ h9 => h9) rfl dX8_lot_9 ?_
  refine lv_iload_n hx hb dX8_lot_12 rfl (lv_at hl 2 rfl) ?_
  refine va_put (D := G.1) (ci := 0) (v := .int g1) (ty := .int) (C := RX0) (T := TX0) (N := 5) hx hb hts inX0 tyX0 tyX0_ok nmX0 hown hK hP hD hS 1 rfl rfl 1 (by decide) lk72 (fun _ h9 => h9) rfl (by decide +kernel) rfl rfl (Nat.le_of_ble_eq_true rfl) dX8_lot_13 (fun H locs hP hD hS => ?_)
  have hP : va_P G.1 vwCl [(a_this, .inr (8, [.ref a_this_text, .ref a_this_reader, .ref a_this_told, .ref a_this_draft, .ref a_this_now, .ref a_this_firstImage, .ref a_this_secondImage, .ref a_this_kept, .ref a_this_offers, .ref a_this_seen, .ref a_this_rents, .long v_traced])), (a_this_now, .inr (0, [.int v_now_night, .int g1, .ref a_this_now_purses, .ref a_this_now_leases, .ref a_this_now_past]))] H := hP
  have hD : va_D A [(a_this, .inr (8, [.ref a_this_text, .ref a_this_reader, .ref a_this_told, .ref a_this_draft, .ref a_this_now, .ref a_this_firstImage, .ref a_this_secondImage, .ref a_this_kept, .ref a_this_offers, .ref a_this_seen, .ref a_this_rents, .long v_traced])), (a_this_now, .inr (0, [.int v_now_night, .int g1, .ref a_this_now_purses, .ref a_this_now_leases, .ref a_this_now_past]))] := hD
  refine lv_iload_n hx hb dX8_lot_16 rfl (lv_at hl 0 rfl) ?_
  obtain ⟨hr0, hr1⟩ := so2 hf
  subst hr0
  subst hr1
  rw [← hQ]
  exact W.iret (v := v_now_lot) hx hb hr (fun t ht hW => ⟨⟨rfl, by rw [ht]; exact hP⟩, hS.F ht⟩) hS.2.2 dX8_lot_17
theorem hd_X8_broughtTo : yX8_broughtTo.cls = RX8 ∧ yX8_broughtTo.cls ≠ "java/lang/invoke/MethodHandle" ∧ yX8_broughtTo.cls ≠ "java/lang/invoke/VarHandle" ∧ (parseMethodDescriptor yX8_broughtTo.desc).map (fun d => d.parameters.length) = some 3 := by decide +kernel
def f_X8_night_b56 (v_told_squares : Int32) (v_told_stars : Int32) (v_told_tenants : Int32) (v_told_paces : (Nat → Int32)) (v_told_starts : (Nat → Int32)) (v_now_leases_size : Int32) (v_now_leases_parts : (Nat → Int32)) (v_told_brights : (Nat → Int32))  (x1 : Int32) (v_now_night : Int32) (v_now_lot : Int32) : Nat → Int32 → (Nat → Int32) → Option (Int32 × Int32 × Int32 × (Nat → Int32))
  | 0, _, _ => none
  | n56 + 1, x2, v_now_purses => if v_told_tenants ≤ x2 then (some (x1, (v_now_night + (1 : Int32)), v_now_lot, v_now_purses)) else (gd (inB x2 4) (bd1 (f_X8_broughtTo (v_told_squares) (v_told_stars) (v_told_paces) (v_told_starts) (v_now_leases_size) (v_now_leases_parts) (v_told_brights) (x2) (v_now_night) (x1)) fun r11 => gd (inB x2 4) (nm (upd v_now_purses (x2).toNatClampNeg ((v_now_purses (x2).toNatClampNeg) + r11)) fun y13 => f_X8_night_b56 v_told_squares v_told_stars v_told_tenants v_told_paces v_told_starts v_now_leases_size v_now_leases_parts v_told_brights x1 v_now_night v_now_lot n56 ((x2 + (1 : Int32))) (y13))))
def f_X8_night  (v_now_night : Int32) (v_now_lot : Int32) (v_told_squares : Int32) (v_told_stars : Int32) (v_told_tenants : Int32) (v_now_purses : (Nat → Int32)) (v_told_paces : (Nat → Int32)) (v_told_starts : (Nat → Int32)) (v_now_leases_size : Int32) (v_now_leases_parts : (Nat → Int32)) (v_told_brights : (Nat → Int32))  : Option (Int32 × Int32 × Int32 × (Nat → Int32)) := if v_now_night < (99 : Int32) then (nm (((v_now_lot * (1103515245 : Int32)) + (12345 : Int32))) fun y15 => bd1 (f_X5_aroundRing (v_told_squares) ((zushr y15 (16 : Int32)))) fun r16 => f_X8_night_b56 v_told_squares v_told_stars v_told_tenants v_told_paces v_told_starts v_now_leases_size v_now_leases_parts v_told_brights (r16) (v_now_night) (y15) zF ((0 : Int32)) (v_now_purses)) else (some ((-2 : Int32), v_now_night, v_now_lot, v_now_purses))
abbrev rm_X8_night : Room := { frames := 5, cells := 0, slots := 0, locals := 118 }
set_option maxHeartbeats 4000000 in
set_option maxRecDepth 100000 in
theorem c_X8_night (l : Launch) (G : zG) (sz : Nat) (a_this : Nat) (a_this_now : Nat) (a_this_told : Nat) (a_this_now_purses : Nat) (a_this_told_paces : Nat) (a_this_told_starts : Nat) (a_this_now_leases : Nat) (a_this_now_leases_parts : Nat) (a_this_told_brights : Nat) (a_this_text : Nat) (a_this_reader : Nat) (a_this_draft : Nat) (a_this_firstImage : Nat) (a_this_secondImage : Nat) (a_this_kept : Nat) (a_this_offers : Nat) (a_this_seen : Nat) (a_this_rents : Nat) (a_this_now_past : Nat) (a_this_told_purses : Nat) (a_this_told_leases : Nat) (v_traced : Int64) (v_now_night : Int32) (v_now_lot : Int32) (v_told_squares : Int32) (v_told_stars : Int32) (v_told_tenants : Int32) (v_now_purses : (Nat → Int32)) (v_told_paces : (Nat → Int32)) (v_told_starts : (Nat → Int32)) (v_now_leases_most : Int32) (v_now_leases_size : Int32) (v_now_leases_parts : (Nat → Int32)) (v_told_brights : (Nat → Int32)) (R0 : Int32) (R1 : Int32) (R2 : Int32) (R3 : (Nat → Int32)) (hf : f_X8_night v_now_night v_now_lot v_told_squares v_told_stars v_told_tenants v_now_purses v_told_paces v_told_starts v_now_leases_size v_now_leases_parts v_told_brights = some (R0, R1, R2, R3)) : Met l yX8_night wsX8_night rm_X8_night (va_Pc [.ref a_this] (zB G [(a_this, .inr (8, [.ref a_this_text, .ref a_this_reader, .ref a_this_told, .ref a_this_draft, .ref a_this_now, .ref a_this_firstImage, .ref a_this_secondImage, .ref a_this_kept, .ref a_this_offers, .ref a_this_seen, .ref a_this_rents, .long v_traced])), (a_this_now, .inr (0, [.int v_now_night, .int v_now_lot, .ref a_this_now_purses, .ref a_this_now_leases, .ref a_this_now_past])), (a_this_told, .inr (5, [.int v_told_squares, .int v_told_stars, .ref a_this_told_starts, .ref a_this_told_paces, .ref a_this_told_brights, .int v_told_tenants, .ref a_this_told_purses, .ref a_this_told_leases])), (a_this_now_purses, .inl (G.2.1, 4, .inl v_now_purses)), (a_this_told_paces, .inl (G.2.1, 8, .inl v_told_paces)), (a_this_told_starts, .inl (G.2.1, 8, .inl v_told_starts)), (a_this_now_leases, .inr (6, [.int v_now_leases_most, .ref a_this_now_leases_parts, .int v_now_leases_size])), (a_this_now_leases_parts, .inl (G.2.1, 50, .inl v_now_leases_parts)), (a_this_told_brights, .inl (G.2.1, 8, .inl v_told_brights))] sz)) (zQ G (some (.int R0)) [(a_this, .inr (8, [.ref a_this_text, .ref a_this_reader, .ref a_this_told, .ref a_this_draft, .ref a_this_now, .ref a_this_firstImage, .ref a_this_secondImage, .ref a_this_kept, .ref a_this_offers, .ref a_this_seen, .ref a_this_rents, .long v_traced])), (a_this_now, .inr (0, [.int R1, .int R2, .ref a_this_now_purses, .ref a_this_now_leases, .ref a_this_now_past])), (a_this_told, .inr (5, [.int v_told_squares, .int v_told_stars, .ref a_this_told_starts, .ref a_this_told_paces, .ref a_this_told_brights, .int v_told_tenants, .ref a_this_told_purses, .ref a_this_told_leases])), (a_this_now_purses, .inl (G.2.1, 4, .inl R3)), (a_this_told_paces, .inl (G.2.1, 8, .inl v_told_paces)), (a_this_told_starts, .inl (G.2.1, 8, .inl v_told_starts)), (a_this_now_leases, .inr (6, [.int v_now_leases_most, .ref a_this_now_leases_parts, .int v_now_leases_size])), (a_this_now_leases_parts, .inl (G.2.1, 50, .inl v_now_leases_parts)), (a_this_told_brights, .inl (G.2.1, 8, .inl v_told_brights))] (va_A [(a_this, .inr (8, [.ref a_this_text, .ref a_this_reader, .ref a_this_told, .ref a_this_draft, .ref a_this_now, .ref a_this_firstImage, .ref a_this_secondImage, .ref a_this_kept, .ref a_this_offers, .ref a_this_seen, .ref a_this_rents, .long v_traced])), (a_this_now, .inr (0, [.int v_now_night, .int v_now_lot, .ref a_this_now_purses, .ref a_this_now_leases, .ref a_this_now_past])), (a_this_told, .inr (5, [.int v_told_squares, .int v_told_stars, .ref a_this_told_starts, .ref a_this_told_paces, .ref a_this_told_brights, .int v_told_tenants, .ref a_this_told_purses, .ref a_this_told_leases])), (a_this_now_purses, .inl (G.2.1, 4, .inl v_now_purses)), (a_this_told_paces, .inl (G.2.1, 8, .inl v_told_paces)), (a_this_told_starts, .inl (G.2.1, 8, .inl v_told_starts)), (a_this_now_leases, .inr (6, [.int v_now_leases_most, .ref a_this_now_leases_parts, .int v_now_leases_size])), (a_this_now_leases_parts, .inl (G.2.1, 50, .inl v_now_leases_parts)), (a_this_told_brights, .inl (G.2.1, 8, .inl v_told_brights))] sz)) 0 0 (va_A [(a_this, .inr (8, [.ref a_this_text, .ref a_this_reader, .ref a_this_told, .ref a_this_draft, .ref a_this_now, .ref a_this_firstImage, .ref a_this_secondImage, .ref a_this_kept, .ref a_this_offers, .ref a_this_seen, .ref a_this_rents, .long v_traced])), (a_this_now, .inr (0, [.int v_now_night, .int v_now_lot, .ref a_this_now_purses, .ref a_this_now_leases, .ref a_this_now_past])), (a_this_told, .inr (5, [.int v_told_squares, .int v_told_stars, .ref a_this_told_starts, .ref a_this_told_paces, .ref a_this_told_brights, .int v_told_tenants, .ref a_this_told_purses, .ref a_this_told_leases])), (a_this_now_purses, .inl (G.2.1, 4, .inl v_now_purses)), (a_this_told_paces, .inl (G.2.1, 8, .inl v_told_paces)), (a_this_told_starts, .inl (G.2.1, 8, .inl v_told_starts)), (a_this_now_leases, .inr (6, [.int v_now_leases_most, .ref a_this_now_leases_parts, .int v_now_leases_size])), (a_this_now_leases_parts, .inl (G.2.1, 50, .inl v_now_leases_parts)), (a_this_told_brights, .inl (G.2.1, 8, .inl v_told_brights))] sz) := by
  refine Met.ofW (cc := cX8_night) (maxL := 3) (ret := (some .int)) (by decide) rfl ?_
  intro p e s m args below meth c s₁ B hml hv
  obtain ⟨hargs, hsz, hP, hD0, hE⟩ := hv
  have hx := B.exec
  have hb := B.bytes
  have hr := B.returns
  have hts := atoms_spec (ws := wsX8_night) B.pre
  have hown : s.vm.findClass RX8 = some m.cls := findClass_of_methodNamed B.named
  have hlocks := B.notSynchronized
  have hK := hE.1
  have hC : CallFix p m c cX8_night 3 s args wsX8_night RX8 := ⟨hx, hb, hml, hown, hts⟩
  have inX0 : ∀ w ∈ wsX00, w ∈ wsX8_night := by decide +kernel
  have inX5 : ∀ w ∈ wsX50, w ∈ wsX8_night := by decide +kernel
  have inX8 : ∀ w ∈ wsX80, w ∈ wsX8_night := by decide +kernel
  have lk26 := hts (.fieldLink RX8 26 "SkyLeases" "told" "LSkyLeases$Sky;") (by decide +kernel)
  have lk36 := hts (.fieldLink RX8 36 "SkyLeases" "now" "LSkyLeases$Now;") (by decide +kernel)
  have lk72 := hts (.fieldLink RX8 72 "SkyLeases$Now" "lot" "I") (by decide +kernel)
  have lk142 := hts (.fieldLink RX8 142 "SkyLeases$Now" "night" "I") (by decide +kernel)
  have lk150 := hts (.fieldLink RX8 150 "SkyLeases$Sky" "tenants" "I") (by decide +kernel)
  have lk153 := hts (.fieldLink RX8 153 "SkyLeases$Now" "purses" "[I") (by decide +kernel)
  subst hsz
  have hD := hD0.self (sz := s.heap.size)
  generalize hAe : va_A [(a_this, .inr (8, [.ref a_this_text, .ref a_this_reader, .ref a_this_told, .ref a_this_draft, .ref a_this_now, .ref a_this_firstImage, .ref a_this_secondImage, .ref a_this_kept, .ref a_this_offers, .ref a_this_seen, .ref a_this_rents, .long v_traced])), (a_this_now, .inr (0, [.int v_now_night, .int v_now_lot, .ref a_this_now_purses, .ref a_this_now_leases, .ref a_this_now_past])), (a_this_told, .inr (5, [.int v_told_squares, .int v_told_stars, .ref a_this_told_starts, .ref a_this_told_paces, .ref a_this_told_brights, .int v_told_tenants, .ref a_this_told_purses, .ref a_this_told_leases])), (a_this_now_purses, .inl (G.2.1, 4, .inl v_now_purses)), (a_this_told_paces, .inl (G.2.1, 8, .inl v_told_paces)), (a_this_told_starts, .inl (G.2.1, 8, .inl v_told_starts)), (a_this_now_leases, .inr (6, [.int v_now_leases_most, .ref a_this_now_leases_parts, .int v_now_leases_size])), (a_this_now_leases_parts, .inl (G.2.1, 50, .inl v_now_leases_parts)), (a_this_told_brights, .inl (G.2.1, 8, .inl v_told_brights))] s.heap.size = A at hD ⊢
  have hA : ∀ q : Nat, s.heap.size ≤ q → A q := fun q h => by rw [← hAe]; exact Or.inr h
  have hS : va_S A s.heap s.heap [] := va_S.rf
  have hP : va_P G.1 vwCl [(a_this, .inr (8, [.ref a_this_text, .ref a_this_reader, .ref a_this_told, .ref a_this_draft, .ref a_this_now, .ref a_this_firstImage, .ref a_this_secondImage, .ref a_this_kept, .ref a_this_offers, .ref a_this_seen, .ref a_this_rents, .long v_traced])), (a_this_now, .inr (0, [.int v_now_night, .int v_now_lot, .ref a_this_now_purses, .ref a_this_now_leases, .ref a_this_now_past])), (a_this_told, .inr (5, [.int v_told_squares, .int v_told_stars, .ref a_this_told_starts, .ref a_this_told_paces, .ref a_this_told_brights, .int v_told_tenants, .ref a_this_told_purses, .ref a_this_told_leases])), (a_this_now_purses, .inl (G.2.1, 4, .inl v_now_purses)), (a_this_told_paces, .inl (G.2.1, 8, .inl v_told_paces)), (a_this_told_starts, .inl (G.2.1, 8, .inl v_told_starts)), (a_this_now_leases, .inr (6, [.int v_now_leases_most, .ref a_this_now_leases_parts, .int v_now_leases_size])), (a_this_now_leases_parts, .inl (G.2.1, 50, .inl v_now_leases_parts)), (a_this_told_brights, .inl (G.2.1, 8, .inl v_told_brights))] s.heap := hP
  have hl := lv_entry ([.ref a_this]) (n := 3) (Nat.le_of_ble_eq_true rfl)
  have hent : entryFrame m args 3 = F0 m 0 ((lg_sl ([.ref a_this]) ++ List.replicate (3 - (lg_sl ([.ref a_this])).length) Slot.unset).toArray) [] := by rw [hargs]; exact lg_entry_eq m [.ref a_this] 3
  refine W.eq hent ?_
  clear hent
  generalize (lg_sl ([.ref a_this]) ++ List.replicate (3 - (lg_sl ([.ref a_this])).length) Slot.unset).toArray = ls at hl ⊢
  have hl : lv_has ls 3 [(0, .ref a_this)] := hl
  generalize hQ : MQ below _ args s 0 0 _ = QQ
  change W p l e rm_X8_night s m args below meth c s.heap [] 0 0 QQ _
  have j56 : ∀ (x1 : Int32), ∀ (v_now_night : Int32), ∀ (v_now_lot : Int32), ∀ (nn : Nat), ∀ (x2 : Int32), ∀ (v_now_purses : (Nat → Int32)), ∀ (ls : Array Slot), lv_has ls 3 [(0, .ref a_this), (1, .int x1), (2, .int x2)] → ∀ (H : Heap) (locs : List Loc), va_P G.1 vwCl [(a_this, .inr (8, [.ref a_this_text, .ref a_this_reader, .ref a_this_told, .ref a_this_draft, .ref a_this_now, .ref a_this_firstImage, .ref a_this_secondImage, .ref a_this_kept, .ref a_this_offers, .ref a_this_seen, .ref a_this_rents, .long v_traced])), (a_this_now, .inr (0, [.int v_now_night, .int v_now_lot, .ref a_this_now_purses, .ref a_this_now_leases, .ref a_this_now_past])), (a_this_told, .inr (5, [.int v_told_squares, .int v_told_stars, .ref a_this_told_starts, .ref a_this_told_paces, .ref a_this_told_brights, .int v_told_tenants, .ref a_this_told_purses, .ref a_this_told_leases])), (a_this_now_purses, .inl (G.2.1, 4, .inl v_now_purses)), (a_this_told_paces, .inl (G.2.1, 8, .inl v_told_paces)), (a_this_told_starts, .inl (G.2.1, 8, .inl v_told_starts)), (a_this_now_leases, .inr (6, [.int v_now_leases_most, .ref a_this_now_leases_parts, .int v_now_leases_size])), (a_this_now_leases_parts, .inl (G.2.1, 50, .inl v_now_leases_parts)), (a_this_told_brights, .inl (G.2.1, 8, .inl v_told_brights))] H → va_D A [(a_this, .inr (8, [.ref a_this_text, .ref a_this_reader, .ref a_this_told, .ref a_this_draft, .ref a_this_now, .ref a_this_firstImage, .ref a_this_secondImage, .ref a_this_kept, .ref a_this_offers, .ref a_this_seen, .ref a_this_rents, .long v_traced])), (a_this_now, .inr (0, [.int v_now_night, .int v_now_lot, .ref a_this_now_purses, .ref a_this_now_leases, .ref a_this_now_past])), (a_this_told, .inr (5, [.int v_told_squares, .int v_told_stars, .ref a_this_told_starts, .ref a_this_told_paces, .ref a_this_told_brights, .int v_told_tenants, .ref a_this_told_purses, .ref a_this_told_leases])), (a_this_now_purses, .inl (G.2.1, 4, .inl v_now_purses)), (a_this_told_paces, .inl (G.2.1, 8, .inl v_told_paces)), (a_this_told_starts, .inl (G.2.1, 8, .inl v_told_starts)), (a_this_now_leases, .inr (6, [.int v_now_leases_most, .ref a_this_now_leases_parts, .int v_now_leases_size])), (a_this_now_leases_parts, .inl (G.2.1, 50, .inl v_now_leases_parts)), (a_this_told_brights, .inl (G.2.1, 8, .inl v_told_brights))] → va_S A s.heap H locs → f_X8_night_b56 v_told_squares v_told_stars v_told_tenants v_told_paces v_told_starts v_now_leases_size v_now_leases_parts v_told_brights x1 v_now_night v_now_lot nn x2 v_now_purses = some (R0, R1, R2, R3) → W p l e rm_X8_night s m args below meth c H locs 0 0 QQ (F0 m 56 ls []) := by
    intro x1 v_now_night v_now_lot
    intro nn
    induction nn with
    | zero =>
      intro x2 v_now_purses ls hl H locs hP hD hS hf
      rw [f_X8_night_b56] at hf
      cases hf
    | succ n56 ih =>
      intro x2 v_now_purses ls hl H locs hP hD hS hf
      rw [f_X8_night_b56] at hf
      refine lv_iload_n hx hb dX8_night_56 rfl (lv_at hl 2 rfl) ?_
      refine lv_aload_n hx hb dX8_night_57 rfl (lv_at hl 0 rfl) ?_
      refine va_get (D := G.1) (ci := 8) (v := .ref a_this_told) (C := RX8) (T := TX8) (N := 12) hx hb hts inX8 hown hK hP 0 rfl rfl 2 (by decide) lk26 (fun _ h9 => h9) rfl dX8_night_58 ?_
      refine va_get (D := G.1) (ci := 5) (v := .int v_told_tenants) (C := RX5) (T := TX5) (N := 8) hx hb hts inX5 hown hK hP 2 rfl rfl 5 (by decide) lk150 (fun _ h9 => h9) rfl dX8_night_61 ?_
      refine lv_icmp_ge (tgt := 98) hx hb dX8_night_64 (by decide) (fun hc9 => ?_) (fun hc9 => ?_)
      · have hf := if_t hf hc9
        refine lv_aload_n hx hb dX8_night_98 rfl (lv_at hl 0 rfl) ?_
        refine va_get (D := G.1) (ci := 8) (v := .ref a_this_now) (C := RX8) (T := TX8) (N := 12) hx hb hts inX8 hown hK hP 0 rfl rfl 4 (by decide) lk36 (fun _ h9 => h9) rfl dX8_night_99 ?_
        refine lv_dup hx hb dX8_night_102 rfl ?_
        refine va_get (D := G.1) (ci := 0) (v := .int v_now_night) (C := RX0) (T := TX0) (N := 5) hx hb hts inX0 hown hK hP 1 rfl rfl 0 (by decide) lk142 (fun _ h9 => h9) rfl dX8_night_103 ?_
        refine lv_iconst (v := (1 : Int32)) hx hb dX8_night_106 (by decide) ?_
        refine lv_iadd hx hb dX8_night_107 ?_
        refine va_put (D := G.1) (ci := 0) (v := .int (v_now_night + (1 : Int32))) (ty := .int) (C := RX0) (T := TX0) (N := 5) hx hb hts inX0 tyX0 tyX0_ok nmX0 hown hK hP hD hS 1 rfl rfl 0 (by decide) lk142 (fun _ h9 => h9) rfl (by decide +kernel) rfl rfl (Nat.le_of_ble_eq_true rfl) dX8_night_108 (fun H locs hP hD hS => ?_)
        have hP : va_P G.1 vwCl [(a_this, .inr (8, [.ref a_this_text, .ref a_this_reader, .ref a_this_told, .ref a_this_draft, .ref a_this_now, .ref a_this_firstImage, .ref a_this_secondImage, .ref a_this_kept, .ref a_this_offers, .ref a_this_seen, .ref a_this_rents, .long v_traced])), (a_this_now, .inr (0, [.int (v_now_night + (1 : Int32)), .int v_now_lot, .ref a_this_now_purses, .ref a_this_now_leases, .ref a_this_now_past])), (a_this_told, .inr (5, [.int v_told_squares, .int v_told_stars, .ref a_this_told_starts, .ref a_this_told_paces, .ref a_this_told_brights, .int v_told_tenants, .ref a_this_told_purses, .ref a_this_told_leases])), (a_this_now_purses, .inl (G.2.1, 4, .inl v_now_purses)), (a_this_told_paces, .inl (G.2.1, 8, .inl v_told_paces)), (a_this_told_starts, .inl (G.2.1, 8, .inl v_told_starts)), (a_this_now_leases, .inr (6, [.int v_now_leases_most, .ref a_this_now_leases_parts, .int v_now_leases_size])), (a_this_now_leases_parts, .inl (G.2.1, 50, .inl v_now_leases_parts)), (a_this_told_brights, .inl (G.2.1, 8, .inl v_told_brights))] H := hP
        have hD : va_D A [(a_this, .inr (8, [.ref a_this_text, .ref a_this_reader, .ref a_this_told, .ref a_this_draft, .ref a_this_now, .ref a_this_firstImage, .ref a_this_secondImage, .ref a_this_kept, .ref a_this_offers, .ref a_this_seen, .ref a_this_rents, .long v_traced])), (a_this_now, .inr (0, [.int (v_now_night + (1 : Int32)), .int v_now_lot, .ref a_this_now_purses, .ref a_this_now_leases, .ref a_this_now_past])), (a_this_told, .inr (5, [.int v_told_squares, .int v_told_stars, .ref a_this_told_starts, .ref a_this_told_paces, .ref a_this_told_brights, .int v_told_tenants, .ref a_this_told_purses, .ref a_this_told_leases])), (a_this_now_purses, .inl (G.2.1, 4, .inl v_now_purses)), (a_this_told_paces, .inl (G.2.1, 8, .inl v_told_paces)), (a_this_told_starts, .inl (G.2.1, 8, .inl v_told_starts)), (a_this_now_leases, .inr (6, [.int v_now_leases_most, .ref a_this_now_leases_parts, .int v_now_leases_size])), (a_this_now_leases_parts, .inl (G.2.1, 50, .inl v_now_leases_parts)), (a_this_told_brights, .inl (G.2.1, 8, .inl v_told_brights))] := hD
        refine lv_iload_n hx hb dX8_night_111 rfl (lv_at hl 1 rfl) ?_
        obtain ⟨hr0, hr1, hr2, hr3⟩ := so4 hf
        subst hr0
        subst hr1
        subst hr2
        subst hr3
        rw [← hQ]
        exact W.iret (v := x1) hx hb hr (fun t ht hW => ⟨⟨rfl, by rw [ht]; exact hP⟩, hS.F ht⟩) hS.2.2 dX8_night_112
      · have hf := if_f hf hc9
        refine lv_aload_n hx hb dX8_night_67 rfl (lv_at hl 0 rfl) ?_
        refine va_get (D := G.1) (ci := 8) (v := .ref a_this_now) (C := RX8) (T := TX8) (N := 12) hx hb hts inX8 hown hK hP 0 rfl rfl 4 (by decide) lk36 (fun _ h9 => h9) rfl dX8_night_68 ?_
        refine va_get (D := G.1) (ci := 0) (v := .ref a_this_now_purses) (C := RX0) (T := TX0) (N := 5) hx hb hts inX0 hown hK hP 1 rfl rfl 2 (by decide) lk153 (fun _ h9 => h9) rfl dX8_night_71 ?_
        refine lv_iload_n hx hb dX8_night_74 rfl (lv_at hl 2 rfl) ?_
        refine lv_dup2_11 hx hb dX8_night_75 rfl rfl ?_
        obtain ⟨hg10, hf⟩ := gd_some hf
        refine va_iald hx hb hK hP 3 0 rfl rfl (inB_in hg10) dX8_night_76 ?_
        refine lv_aload_n hx hb dX8_night_77 rfl (lv_at hl 0 rfl) ?_
        refine lv_iload_n hx hb dX8_night_78 rfl (lv_at hl 2 rfl) ?_
        refine lv_aload_n hx hb dX8_night_79 rfl (lv_at hl 0 rfl) ?_
        refine va_get (D := G.1) (ci := 8) (v := .ref a_this_now) (C := RX8) (T := TX8) (N := 12) hx hb hts inX8 hown hK hP 0 rfl rfl 4 (by decide) lk36 (fun _ h9 => h9) rfl dX8_night_80 ?_
        refine va_get (D := G.1) (ci := 0) (v := .int v_now_night) (C := RX0) (T := TX0) (N := 5) hx hb hts inX0 hown hK hP 1 rfl rfl 0 (by decide) lk142 (fun _ h9 => h9) rfl dX8_night_83 ?_
        refine lv_iload_n hx hb dX8_night_86 rfl (lv_at hl 1 rfl) ?_
        obtain ⟨r11, hu, hf⟩ := bd1_some hf
        refine zRi (va_runV (As := [.int x2, .int v_now_night, .int x1]) (rest := [.int (v_now_purses (x2).toNatClampNeg), .int x2, .ref a_this_now_purses]) hC (c_X8_broughtTo l G a_this a_this_told a_this_told_paces a_this_told_starts a_this_now a_this_now_leases a_this_now_leases_parts a_this_told_brights a_this_text a_this_reader a_this_draft a_this_firstImage a_this_secondImage a_this_kept a_this_offers a_this_seen a_this_rents a_this_told_purses a_this_told_leases a_this_now_purses a_this_now_past (v_traced) (v_told_squares) (v_told_stars) (v_told_tenants) (v_told_paces) (v_told_starts) (v_now_night) (v_now_lot) (v_now_leases_most) (v_now_leases_size) (v_now_leases_parts) (v_told_brights) (x2) (v_now_night) (x1) r11 hu) (cwV 3 hts gX8_night_X8_broughtTo rfl rfl rfl hd_X8_broughtTo ⟨(Nat.le_of_ble_eq_true rfl), (Nat.le_of_ble_eq_true rfl)⟩) (zPV hE hP [0, 2, 4, 5, 1, 6, 7, 8] rfl 0 rfl rfl) rfl rfl hl.1 rfl (lv_room (Nat.le_of_ble_eq_true rfl)) dX8_night_87 ⟨Nat.zero_le _, Nat.zero_le _⟩) ?_
        refine lv_iadd hx hb dX8_night_90 ?_
        obtain ⟨hg12, hf⟩ := gd_some hf
        refine z_iast hx hb hK hP hD hS 3 0 rfl rfl (inB_in hg12) dX8_night_91 (fun gg => [(a_this, .inr (8, [.ref a_this_text, .ref a_this_reader, .ref a_this_told, .ref a_this_draft, .ref a_this_now, .ref a_this_firstImage, .ref a_this_secondImage, .ref a_this_kept, .ref a_this_offers, .ref a_this_seen, .ref a_this_rents, .long v_traced])), (a_this_now, .inr (0, [.int v_now_night, .int v_now_lot, .ref a_this_now_purses, .ref a_this_now_leases, .ref a_this_now_past])), (a_this_told, .inr (5, [.int v_told_squares, .int v_told_stars, .ref a_this_told_starts, .ref a_this_told_paces, .ref a_this_told_brights, .int v_told_tenants, .ref a_this_told_purses, .ref a_this_told_leases])), (a_this_now_purses, .inl (G.2.1, 4, .inl gg)), (a_this_told_paces, .inl (G.2.1, 8, .inl v_told_paces)), (a_this_told_starts, .inl (G.2.1, 8, .inl v_told_starts)), (a_this_now_leases, .inr (6, [.int v_now_leases_most, .ref a_this_now_leases_parts, .int v_now_leases_size])), (a_this_now_leases_parts, .inl (G.2.1, 50, .inl v_now_leases_parts)), (a_this_told_brights, .inl (G.2.1, 8, .inl v_told_brights))]) (fun gg => rfl) (fun y13 H locs ey13 hP hD hS => ?_)
        have hf := nm_to hf ey13
        have hP : va_P G.1 vwCl [(a_this, .inr (8, [.ref a_this_text, .ref a_this_reader, .ref a_this_told, .ref a_this_draft, .ref a_this_now, .ref a_this_firstImage, .ref a_this_secondImage, .ref a_this_kept, .ref a_this_offers, .ref a_this_seen, .ref a_this_rents, .long v_traced])), (a_this_now, .inr (0, [.int v_now_night, .int v_now_lot, .ref a_this_now_purses, .ref a_this_now_leases, .ref a_this_now_past])), (a_this_told, .inr (5, [.int v_told_squares, .int v_told_stars, .ref a_this_told_starts, .ref a_this_told_paces, .ref a_this_told_brights, .int v_told_tenants, .ref a_this_told_purses, .ref a_this_told_leases])), (a_this_now_purses, .inl (G.2.1, 4, .inl y13)), (a_this_told_paces, .inl (G.2.1, 8, .inl v_told_paces)), (a_this_told_starts, .inl (G.2.1, 8, .inl v_told_starts)), (a_this_now_leases, .inr (6, [.int v_now_leases_most, .ref a_this_now_leases_parts, .int v_now_leases_size])), (a_this_now_leases_parts, .inl (G.2.1, 50, .inl v_now_leases_parts)), (a_this_told_brights, .inl (G.2.1, 8, .inl v_told_brights))] H := hP
        have hD : va_D A [(a_this, .inr (8, [.ref a_this_text, .ref a_this_reader, .ref a_this_told, .ref a_this_draft, .ref a_this_now, .ref a_this_firstImage, .ref a_this_secondImage, .ref a_this_kept, .ref a_this_offers, .ref a_this_seen, .ref a_this_rents, .long v_traced])), (a_this_now, .inr (0, [.int v_now_night, .int v_now_lot, .ref a_this_now_purses, .ref a_this_now_leases, .ref a_this_now_past])), (a_this_told, .inr (5, [.int v_told_squares, .int v_told_stars, .ref a_this_told_starts, .ref a_this_told_paces, .ref a_this_told_brights, .int v_told_tenants, .ref a_this_told_purses, .ref a_this_told_leases])), (a_this_now_purses, .inl (G.2.1, 4, .inl y13)), (a_this_told_paces, .inl (G.2.1, 8, .inl v_told_paces)), (a_this_told_starts, .inl (G.2.1, 8, .inl v_told_starts)), (a_this_now_leases, .inr (6, [.int v_now_leases_most, .ref a_this_now_leases_parts, .int v_now_leases_size])), (a_this_now_leases_parts, .inl (G.2.1, 50, .inl v_now_leases_parts)), (a_this_told_brights, .inl (G.2.1, 8, .inl v_told_brights))] := hD
        refine lv_iinc (v := (x2 + (1 : Int32))) (lv' := [(2, .int (x2 + (1 : Int32))), (0, .ref a_this), (1, .int x1)]) hx hb dX8_night_92 hl (k := 2) rfl rfl (by decide) rfl (fun ls hl => ?_)
        refine lv_goto (tgt := 56) hx hb dX8_night_95 (by decide) ?_
        exact ih ((x2 + (1 : Int32))) (y13) ls (lv_sub hl [1, 2, 0] rfl) _ _ hP hD hS hf
  have hSH := hS
  unfold f_X8_night at hf
  refine lv_aload_n hx hb dX8_night_0 rfl (lv_at hl 0 rfl) ?_
  refine va_get (D := G.1) (ci := 8) (v := .ref a_this_now) (C := RX8) (T := TX8) (N := 12) hx hb hts inX8 hown hK hP 0 rfl rfl 4 (by decide) lk36 (fun _ h9 => h9) rfl dX8_night_1 ?_
  refine va_get (D := G.1) (ci := 0) (v := .int v_now_night) (C := RX0) (T := TX0) (N := 5) hx hb hts inX0 hown hK hP 1 rfl rfl 0 (by decide) lk142 (fun _ h9 => h9) rfl dX8_night_4 ?_
  refine lv_bipush (v := (99 : Int32)) hx hb dX8_night_7 (by decide) ?_
  refine lv_icmp_lt (tgt := 15) hx hb dX8_night_9 (by decide) (fun hc14 => ?_) (fun hc14 => ?_)
  · have hf := if_t hf hc14
    refine lv_aload_n hx hb dX8_night_15 rfl (lv_at hl 0 rfl) ?_
    refine va_get (D := G.1) (ci := 8) (v := .ref a_this_now) (C := RX8) (T := TX8) (N := 12) hx hb hts inX8 hown hK hP 0 rfl rfl 4 (by decide) lk36 (fun _ h9 => h9) rfl dX8_night_16 ?_
    refine lv_aload_n hx hb dX8_night_19 rfl (lv_at hl 0 rfl) ?_
    refine va_get (D := G.1) (ci := 8) (v := .ref a_this_now) (C := RX8) (T := TX8) (N := 12) hx hb hts inX8 hown hK hP 0 rfl rfl 4 (by decide) lk36 (fun _ h9 => h9) rfl dX8_night_20 ?_
    refine va_get (D := G.1) (ci := 0) (v := .int v_now_lot) (C := RX0) (T := TX0) (N := 5) hx hb hts inX0 hown hK hP 1 rfl rfl 1 (by decide) lk72 (fun _ h9 => h9) rfl dX8_night_23 ?_
    refine lv_ldc (own := RX8) (index := 145) (v := (1103515245 : Int32)) hx hb hown (hts (.constant RX8 145 (1103515245)) (by decide +kernel)) dX8_night_26 ?_
    refine lv_imul hx hb dX8_night_28 ?_
    refine lv_sipush (v := (12345 : Int32)) hx hb dX8_night_29 (by decide) ?_
    refine lv_iadd hx hb dX8_night_32 ?_
    refine lv_topi (fun y15 ey15 => ?_)
    have hf := nm_to hf ey15
    refine va_put (D := G.1) (ci := 0) (v := .int y15) (ty := .int) (C := RX0) (T := TX0) (N := 5) hx hb hts inX0 tyX0 tyX0_ok nmX0 hown hK hP hD hS 1 rfl rfl 1 (by decide) lk72 (fun _ h9 => h9) rfl (by decide +kernel) rfl rfl (Nat.le_of_ble_eq_true rfl) dX8_night_33 (fun H locs hP hD hS => ?_)
    have hP : va_P G.1 vwCl [(a_this, .inr (8, [.ref a_this_text, .ref a_this_reader, .ref a_this_told, .ref a_this_draft, .ref a_this_now, .ref a_this_firstImage, .ref a_this_secondImage, .ref a_this_kept, .ref a_this_offers, .ref a_this_seen, .ref a_this_rents, .long v_traced])), (a_this_now, .inr (0, [.int v_now_night, .int y15, .ref a_this_now_purses, .ref a_this_now_leases, .ref a_this_now_past])), (a_this_told, .inr (5, [.int v_told_squares, .int v_told_stars, .ref a_this_told_starts, .ref a_this_told_paces, .ref a_this_told_brights, .int v_told_tenants, .ref a_this_told_purses, .ref a_this_told_leases])), (a_this_now_purses, .inl (G.2.1, 4, .inl v_now_purses)), (a_this_told_paces, .inl (G.2.1, 8, .inl v_told_paces)), (a_this_told_starts, .inl (G.2.1, 8, .inl v_told_starts)), (a_this_now_leases, .inr (6, [.int v_now_leases_most, .ref a_this_now_leases_parts, .int v_now_leases_size])), (a_this_now_leases_parts, .inl (G.2.1, 50, .inl v_now_leases_parts)), (a_this_told_brights, .inl (G.2.1, 8, .inl v_told_brights))] H := hP
    have hD : va_D A [(a_this, .inr (8, [.ref a_this_text, .ref a_this_reader, .ref a_this_told, .ref a_this_draft, .ref a_this_now, .ref a_this_firstImage, .ref a_this_secondImage, .ref a_this_kept, .ref a_this_offers, .ref a_this_seen, .ref a_this_rents, .long v_traced])), (a_this_now, .inr (0, [.int v_now_night, .int y15, .ref a_this_now_purses, .ref a_this_now_leases, .ref a_this_now_past])), (a_this_told, .inr (5, [.int v_told_squares, .int v_told_stars, .ref a_this_told_starts, .ref a_this_told_paces, .ref a_this_told_brights, .int v_told_tenants, .ref a_this_told_purses, .ref a_this_told_leases])), (a_this_now_purses, .inl (G.2.1, 4, .inl v_now_purses)), (a_this_told_paces, .inl (G.2.1, 8, .inl v_told_paces)), (a_this_told_starts, .inl (G.2.1, 8, .inl v_told_starts)), (a_this_now_leases, .inr (6, [.int v_now_leases_most, .ref a_this_now_leases_parts, .int v_now_leases_size])), (a_this_now_leases_parts, .inl (G.2.1, 50, .inl v_now_leases_parts)), (a_this_told_brights, .inl (G.2.1, 8, .inl v_told_brights))] := hD
    refine lv_aload_n hx hb dX8_night_36 rfl (lv_at hl 0 rfl) ?_
    refine va_get (D := G.1) (ci := 8) (v := .ref a_this_told) (C := RX8) (T := TX8) (N := 12) hx hb hts inX8 hown hK hP 0 rfl rfl 2 (by decide) lk26 (fun _ h9 => h9) rfl dX8_night_37 ?_
    refine lv_aload_n hx hb dX8_night_40 rfl (lv_at hl 0 rfl) ?_
    refine va_get (D := G.1) (ci := 8) (v := .ref a_this_now) (C := RX8) (T := TX8) (N := 12) hx hb hts inX8 hown hK hP 0 rfl rfl 4 (by decide) lk36 (fun _ h9 => h9) rfl dX8_night_41 ?_
    refine va_get (D := G.1) (ci := 0) (v := .int y15) (C := RX0) (T := TX0) (N := 5) hx hb hts inX0 hown hK hP 1 rfl rfl 1 (by decide) lk72 (fun _ h9 => h9) rfl dX8_night_44 ?_
    refine lv_bipush (v := (16 : Int32)) hx hb dX8_night_47 (by decide) ?_
    refine lv_iushr (v := (zushr y15 (16 : Int32))) hx hb dX8_night_49 rfl ?_
    obtain ⟨r16, hu, hf⟩ := bd1_some hf
    refine zRi (va_runV (As := [.int (zushr y15 (16 : Int32))]) (rest := []) hC (c_X5_aroundRing l G a_this_told a_this_told_starts a_this_told_paces a_this_told_brights a_this_told_purses a_this_told_leases (v_told_squares) (v_told_stars) (v_told_tenants) ((zushr y15 (16 : Int32))) r16 hu) (cwV 1 hts gX8_night_X5_aroundRing rfl rfl rfl hd_X5_aroundRing ⟨(Nat.le_of_ble_eq_true rfl), (Nat.le_of_ble_eq_true rfl)⟩) (zPV hE hP [2] rfl 2 rfl rfl) rfl rfl hl.1 rfl (lv_room (Nat.le_of_ble_eq_true rfl)) dX8_night_50 ⟨Nat.zero_le _, Nat.zero_le _⟩) ?_
    refine lv_istore_n (lv' := [(1, .int r16), (0, .ref a_this)]) hx hb dX8_night_53 rfl hl (by decide) rfl (fun ls hl => ?_)
    refine lv_iconst (v := (0 : Int32)) hx hb dX8_night_54 (by decide) ?_
    refine lv_istore_n (lv' := [(2, .int (0 : Int32)), (1, .int r16), (0, .ref a_this)]) hx hb dX8_night_55 rfl hl (by decide) rfl (fun ls hl => ?_)
    exact j56 (r16) (v_now_night) (y15) zF ((0 : Int32)) (v_now_purses) ls (lv_sub hl [2, 1, 0] rfl) _ _ hP hD hS hf
  · have hf := if_f hf hc14
    refine lv_bipush (v := (-2 : Int32)) hx hb dX8_night_12 (by decide) ?_
    obtain ⟨hr0, hr1, hr2, hr3⟩ := so4 hf
    subst hr0
    subst hr1
    subst hr2
    subst hr3
    rw [← hQ]
    exact W.iret (v := (-2 : Int32)) hx hb hr (fun t ht hW => ⟨⟨rfl, by rw [ht]; exact hP⟩, hS.F ht⟩) hS.2.2 dX8_night_14
theorem hd_X6_anyHolds : yX6_anyHolds.cls = RX6 ∧ yX6_anyHolds.cls ≠ "java/lang/invoke/MethodHandle" ∧ yX6_anyHolds.cls ≠ "java/lang/invoke/VarHandle" ∧ (parseMethodDescriptor yX6_anyHolds.desc).map (fun d => d.parameters.length) = some 2 := by decide +kernel
theorem hd_X8_areNights : yX8_areNights.cls = RX8 ∧ yX8_areNights.cls ≠ "java/lang/invoke/MethodHandle" ∧ yX8_areNights.cls ≠ "java/lang/invoke/VarHandle" ∧ (parseMethodDescriptor yX8_areNights.desc).map (fun d => d.parameters.length) = some 2 := by decide +kernel
theorem hd_X8_hasAnyStar : yX8_hasAnyStar.cls = RX8 ∧ yX8_hasAnyStar.cls ≠ "java/lang/invoke/MethodHandle" ∧ yX8_hasAnyStar.cls ≠ "java/lang/invoke/VarHandle" ∧ (parseMethodDescriptor yX8_hasAnyStar.desc).map (fun d => d.parameters.length) = some 2 := by decide +kernel
def f_X8_dark_b62  (k27 : Int32 → Int32 → Option (Int32))  (x4 : Int32) (x5 : Int32) : Option (Int32) := k27 (x4) ((x5 + (1 : Int32)))
def f_X8_dark_b27 (v_told_squares : Int32) (v_told_stars : Int32) (v_now_leases_size : Int32) (v_now_leases_parts : (Nat → Int32)) (v_told_paces : (Nat → Int32)) (v_told_starts : (Nat → Int32))  (x1 : Int32) (x3 : Int32) : Nat → Int32 → Int32 → Option (Int32)
  | 0, _, _ => none
  | n27 + 1, x4, x5 => if x3 < x5 then (some (x4)) else (bd1 (f_X6_anyHolds (v_now_leases_size) (v_now_leases_parts) (x1) (x5)) fun r11 => if r11 = (0 : Int32) then (f_X8_dark_b62 (f_X8_dark_b27 v_told_squares v_told_stars v_now_leases_size v_now_leases_parts v_told_paces v_told_starts x1 x3 n27) (x4) (x5)) else (bd1 (f_X8_hasAnyStar (v_told_squares) (v_told_stars) (v_told_paces) (v_told_starts) (v_now_leases_size) (v_now_leases_parts) (x1) (x5)) fun r13 => if r13 = (0 : Int32) then (f_X8_dark_b62 (f_X8_dark_b27 v_told_squares v_told_stars v_now_leases_size v_now_leases_parts v_told_paces v_told_starts x1 x3 n27) ((x4 + (1 : Int32))) (x5)) else (f_X8_dark_b62 (f_X8_dark_b27 v_told_squares v_told_stars v_now_leases_size v_now_leases_parts v_told_paces v_told_starts x1 x3 n27) (x4) (x5))))
def f_X8_dark  (v_told_squares : Int32) (v_told_stars : Int32) (v_told_tenants : Int32) (v_now_leases_size : Int32) (v_now_leases_parts : (Nat → Int32)) (v_told_paces : (Nat → Int32)) (v_told_starts : (Nat → Int32)) (g1 : Int32) (g2 : Int32) (g3 : Int32) : Option (Int32) := bd1 (f_X5_hasTenant (v_told_tenants) (g1)) fun r15 => if r15 = (0 : Int32) then (some ((-1 : Int32))) else (bd1 (f_X8_areNights (g2) (g3)) fun r17 => if r17 = (0 : Int32) then (some ((-1 : Int32))) else (f_X8_dark_b27 v_told_squares v_told_stars v_now_leases_size v_now_leases_parts v_told_paces v_told_starts (g1) (g3) zF ((0 : Int32)) (g2)))
abbrev rm_X8_dark : Room := { frames := 5, cells := 0, slots := 0, locals := 115 }
set_option maxHeartbeats 4000000 in
set_option maxRecDepth 100000 in
theorem c_X8_dark (l : Launch) (G : zG) (a_this : Nat) (a_this_told : Nat) (a_this_now : Nat) (a_this_now_leases : Nat) (a_this_now_leases_parts : Nat) (a_this_told_paces : Nat) (a_this_told_starts : Nat) (a_this_text : Nat) (a_this_reader : Nat) (a_this_draft : Nat) (a_this_firstImage : Nat) (a_this_secondImage : Nat) (a_this_kept : Nat) (a_this_offers : Nat) (a_this_seen : Nat) (a_this_rents : Nat) (a_this_told_brights : Nat) (a_this_told_purses : Nat) (a_this_told_leases : Nat) (a_this_now_purses : Nat) (a_this_now_past : Nat) (v_traced : Int64) (v_told_squares : Int32) (v_told_stars : Int32) (v_told_tenants : Int32) (v_now_night : Int32) (v_now_lot : Int32) (v_now_leases_most : Int32) (v_now_leases_size : Int32) (v_now_leases_parts : (Nat → Int32)) (v_told_paces : (Nat → Int32)) (v_told_starts : (Nat → Int32)) (g1 : Int32) (g2 : Int32) (g3 : Int32) (R0 : Int32) (hf : f_X8_dark v_told_squares v_told_stars v_told_tenants v_now_leases_size v_now_leases_parts v_told_paces v_told_starts g1 g2 g3 = some R0) : Met l yX8_dark wsX8_dark rm_X8_dark (va_Pc [.ref a_this, .int g1, .int g2, .int g3] (zR G [(a_this, .inr (8, [.ref a_this_text, .ref a_this_reader, .ref a_this_told, .ref a_this_draft, .ref a_this_now, .ref a_this_firstImage, .ref a_this_secondImage, .ref a_this_kept, .ref a_this_offers, .ref a_this_seen, .ref a_this_rents, .long v_traced])), (a_this_told, .inr (5, [.int v_told_squares, .int v_told_stars, .ref a_this_told_starts, .ref a_this_told_paces, .ref a_this_told_brights, .int v_told_tenants, .ref a_this_told_purses, .ref a_this_told_leases])), (a_this_now, .inr (0, [.int v_now_night, .int v_now_lot, .ref a_this_now_purses, .ref a_this_now_leases, .ref a_this_now_past])), (a_this_now_leases, .inr (6, [.int v_now_leases_most, .ref a_this_now_leases_parts, .int v_now_leases_size])), (a_this_now_leases_parts, .inl (G.2.1, 50, .inl v_now_leases_parts)), (a_this_told_paces, .inl (G.2.1, 8, .inl v_told_paces)), (a_this_told_starts, .inl (G.2.1, 8, .inl v_told_starts))])) (zSv (some (.int R0))) 0 0 (fun _ => False) := by
  refine Met.ofW (cc := cX8_dark) (maxL := 6) (ret := (some .int)) (by decide) rfl ?_
  intro p e s m args below meth c s₁ B hml hv
  obtain ⟨hargs, hP, hE⟩ := hv
  have hx := B.exec
  have hb := B.bytes
  have hr := B.returns
  have hts := atoms_spec (ws := wsX8_dark) B.pre
  have hown : s.vm.findClass RX8 = some m.cls := findClass_of_methodNamed B.named
  have hlocks := B.notSynchronized
  have hK := hE.1
  have hC : CallFix p m c cX8_dark 6 s args wsX8_dark RX8 := ⟨hx, hb, hml, hown, hts⟩
  have inX0 : ∀ w ∈ wsX00, w ∈ wsX8_dark := by decide +kernel
  have inX8 : ∀ w ∈ wsX80, w ∈ wsX8_dark := by decide +kernel
  have lk26 := hts (.fieldLink RX8 26 "SkyLeases" "told" "LSkyLeases$Sky;") (by decide +kernel)
  have lk36 := hts (.fieldLink RX8 36 "SkyLeases" "now" "LSkyLeases$Now;") (by decide +kernel)
  have lk116 := hts (.fieldLink RX8 116 "SkyLeases$Now" "leases" "LSkyLeases$Terms;") (by decide +kernel)
  have hl := lv_entry ([.ref a_this, .int g1, .int g2, .int g3]) (n := 6) (Nat.le_of_ble_eq_true rfl)
  have hent : entryFrame m args 6 = F0 m 0 ((lg_sl ([.ref a_this, .int g1, .int g2, .int g3]) ++ List.replicate (6 - (lg_sl ([.ref a_this, .int g1, .int g2, .int g3])).length) Slot.unset).toArray) [] := by rw [hargs]; exact lg_entry_eq m [.ref a_this, .int g1, .int g2, .int g3] 6
  refine W.eq hent ?_
  clear hent
  generalize (lg_sl ([.ref a_this, .int g1, .int g2, .int g3]) ++ List.replicate (6 - (lg_sl ([.ref a_this, .int g1, .int g2, .int g3])).length) Slot.unset).toArray = ls at hl ⊢
  have hl : lv_has ls 6 [(0, .ref a_this), (1, .int g1), (2, .int g2), (3, .int g3)] := hl
  generalize hQ : MQ below _ args s 0 0 _ = QQ
  change W p l e rm_X8_dark s m args below meth c s.heap [] 0 0 QQ _
  have j62 : ∀ (x1 : Int32), ∀ (x3 : Int32), ∀ (k27 : Int32 → Int32 → Option (Int32)), (∀ (x4 : Int32), ∀ (x5 : Int32), ∀ (ls : Array Slot), lv_has ls 6 [(0, .ref a_this), (1, .int x1), (3, .int x3), (4, .int x4), (5, .int x5)] → k27 x4 x5 = some R0 → W p l e rm_X8_dark s m args below meth c s.heap [] 0 0 QQ (F0 m 27 ls [])) → ∀ (x4 : Int32), ∀ (x5 : Int32), ∀ (ls : Array Slot), lv_has ls 6 [(0, .ref a_this), (1, .int x1), (3, .int x3), (4, .int x4), (5, .int x5)] → f_X8_dark_b62 k27 x4 x5 = some R0 → W p l e rm_X8_dark s m args below meth c s.heap [] 0 0 QQ (F0 m 62 ls []) := by
    intro x1 x3 k27 hk27 x4 x5 ls hl hf
    unfold f_X8_dark_b62 at hf
    refine lv_iinc (v := (x5 + (1 : Int32))) (lv' := [(5, .int (x5 + (1 : Int32))), (0, .ref a_this), (1, .int x1), (3, .int x3), (4, .int x4)]) hx hb dX8_dark_62 hl (k := 4) rfl rfl (by decide) rfl (fun ls hl => ?_)
    refine lv_goto (tgt := 27) hx hb dX8_dark_65 (by decide) ?_
    exact hk27 (x4) ((x5 + (1 : Int32))) ls (lv_sub hl [1, 2, 3, 4, 0] rfl) hf
  have j27 : ∀ (x1 : Int32), ∀ (x3 : Int32), ∀ (nn : Nat), ∀ (x4 : Int32), ∀ (x5 : Int32), ∀ (ls : Array Slot), lv_has ls 6 [(0, .ref a_this), (1, .int x1), (3, .int x3), (4, .int x4), (5, .int x5)] → f_X8_dark_b27 v_told_squares v_told_stars v_now_leases_size v_now_leases_parts v_told_paces v_told_starts x1 x3 nn x4 x5 = some R0 → W p l e rm_X8_dark s m args below meth c s.heap [] 0 0 QQ (F0 m 27 ls []) := by
    intro x1 x3
    intro nn
    induction nn with
    | zero =>
      intro x4 x5 ls hl hf
      rw [f_X8_dark_b27] at hf
      cases hf
    | succ n27 ih =>
      intro x4 x5 ls hl hf
      rw [f_X8_dark_b27] at hf
      refine lv_iload hx hb dX8_dark_27 (lv_at hl 4 rfl) ?_
      refine lv_iload_n hx hb dX8_dark_29 rfl (lv_at hl 2 rfl) ?_
      refine lv_icmp_gt (tgt := 68) hx hb dX8_dark_30 (by decide) (fun hc10 => ?_) (fun hc10 => ?_)
      · have hf := if_t hf hc10
        refine lv_iload hx hb dX8_dark_68 (lv_at hl 3 rfl) ?_
        have hr0 := so1 hf
        subst hr0
        rw [← hQ]
        exact W.iret (v := x4) hx hb hr (fun t ht hW => ⟨rfl, ht⟩) (fun _ h => by cases h) dX8_dark_70
      · have hf := if_f hf hc10
        refine lv_aload_n hx hb dX8_dark_33 rfl (lv_at hl 0 rfl) ?_
        refine va_get (D := G.1) (ci := 8) (v := .ref a_this_now) (C := RX8) (T := TX8) (N := 12) hx hb hts inX8 hown hK hP 0 rfl rfl 4 (by decide) lk36 (fun _ h9 => h9) rfl dX8_dark_34 ?_
        refine va_get (D := G.1) (ci := 0) (v := .ref a_this_now_leases) (C := RX0) (T := TX0) (N := 5) hx hb hts inX0 hown hK hP 2 rfl rfl 3 (by decide) lk116 (fun _ h9 => h9) rfl dX8_dark_37 ?_
        refine lv_iload_n hx hb dX8_dark_40 rfl (lv_at hl 1 rfl) ?_
        refine lv_iload hx hb dX8_dark_41 (lv_at hl 4 rfl) ?_
        obtain ⟨r11, hu, hf⟩ := bd1_some hf
        refine zRi (va_runV (As := [.int x1, .int x5]) (rest := []) hC (c_X6_anyHolds l G a_this_now_leases a_this_now_leases_parts (v_now_leases_most) (v_now_leases_size) (v_now_leases_parts) (x1) (x5) r11 hu) (cwV 2 hts gX8_dark_X6_anyHolds rfl rfl rfl hd_X6_anyHolds ⟨(Nat.le_of_ble_eq_true rfl), (Nat.le_of_ble_eq_true rfl)⟩) (zPV hE hP [3, 4] rfl 3 rfl rfl) rfl rfl hl.1 rfl (lv_room (Nat.le_of_ble_eq_true rfl)) dX8_dark_43 ⟨Nat.zero_le _, Nat.zero_le _⟩) ?_
        refine lv_if_eq (tgt := 62) hx hb dX8_dark_46 (by decide) (fun hc12 => ?_) (fun hc12 => ?_)
        · have hf := if_t hf hc12
          exact j62 (x1) (x3) (f_X8_dark_b27 v_told_squares v_told_stars v_now_leases_size v_now_leases_parts v_told_paces v_told_starts x1 x3 n27) ih (x4) (x5) ls (lv_sub hl [0, 1, 2, 3, 4] rfl) hf
        · have hf := if_f hf hc12
          refine lv_aload_n hx hb dX8_dark_49 rfl (lv_at hl 0 rfl) ?_
          refine lv_iload_n hx hb dX8_dark_50 rfl (lv_at hl 1 rfl) ?_
          refine lv_iload hx hb dX8_dark_51 (lv_at hl 4 rfl) ?_
          obtain ⟨r13, hu, hf⟩ := bd1_some hf
          refine zRi (va_runV (As := [.int x1, .int x5]) (rest := []) hC (c_X8_hasAnyStar l G a_this a_this_told a_this_told_paces a_this_told_starts a_this_now a_this_now_leases a_this_now_leases_parts a_this_text a_this_reader a_this_draft a_this_firstImage a_this_secondImage a_this_kept a_this_offers a_this_seen a_this_rents a_this_told_brights a_this_told_purses a_this_told_leases a_this_now_purses a_this_now_past (v_traced) (v_told_squares) (v_told_stars) (v_told_tenants) (v_told_paces) (v_told_starts) (v_now_night) (v_now_lot) (v_now_leases_most) (v_now_leases_size) (v_now_leases_parts) (x1) (x5) r13 hu) (cwV 2 hts gX8_dark_X8_hasAnyStar rfl rfl rfl hd_X8_hasAnyStar ⟨(Nat.le_of_ble_eq_true rfl), (Nat.le_of_ble_eq_true rfl)⟩) (zPV hE hP [0, 1, 5, 6, 2, 3, 4] rfl 0 rfl rfl) rfl rfl hl.1 rfl (lv_room (Nat.le_of_ble_eq_true rfl)) dX8_dark_53 ⟨Nat.zero_le _, Nat.zero_le _⟩) ?_
          refine lv_if_ne (tgt := 62) hx hb dX8_dark_56 (by decide) (fun hc14 => ?_) (fun hc14 => ?_)
          · have hf := if_f hf hc14
            exact j62 (x1) (x3) (f_X8_dark_b27 v_told_squares v_told_stars v_now_leases_size v_now_leases_parts v_told_paces v_told_starts x1 x3 n27) ih (x4) (x5) ls (lv_sub hl [0, 1, 2, 3, 4] rfl) hf
          · have hf := if_t hf hc14
            refine lv_iinc (v := (x4 + (1 : Int32))) (lv' := [(4, .int (x4 + (1 : Int32))), (0, .ref a_this), (1, .int x1), (3, .int x3), (5, .int x5)]) hx hb dX8_dark_59 hl (k := 3) rfl rfl (by decide) rfl (fun ls hl => ?_)
            exact j62 (x1) (x3) (f_X8_dark_b27 v_told_squares v_told_stars v_now_leases_size v_now_leases_parts v_told_paces v_told_starts x1 x3 n27) ih ((x4 + (1 : Int32))) (x5) ls (lv_sub hl [1, 2, 3, 0, 4] rfl) hf
  unfold f_X8_dark at hf
  refine lv_aload_n hx hb dX8_dark_0 rfl (lv_at hl 0 rfl) ?_
  refine va_get (D := G.1) (ci := 8) (v := .ref a_this_told) (C := RX8) (T := TX8) (N := 12) hx hb hts inX8 hown hK hP 0 rfl rfl 2 (by decide) lk26 (fun _ h9 => h9) rfl dX8_dark_1 ?_
  refine lv_iload_n hx hb dX8_dark_4 rfl (lv_at hl 1 rfl) ?_
  obtain ⟨r15, hu, hf⟩ := bd1_some hf
  refine zRi (va_runV (As := [.int g1]) (rest := []) hC (c_X5_hasTenant l G a_this_told a_this_told_starts a_this_told_paces a_this_told_brights a_this_told_purses a_this_told_leases (v_told_squares) (v_told_stars) (v_told_tenants) (g1) r15 hu) (cwV 1 hts gX8_dark_X5_hasTenant rfl rfl rfl hd_X5_hasTenant ⟨(Nat.le_of_ble_eq_true rfl), (Nat.le_of_ble_eq_true rfl)⟩) (zPV hE hP [1] rfl 1 rfl rfl) rfl rfl hl.1 rfl (lv_room (Nat.le_of_ble_eq_true rfl)) dX8_dark_5 ⟨Nat.zero_le _, Nat.zero_le _⟩) ?_
  refine lv_if_eq (tgt := 19) hx hb dX8_dark_8 (by decide) (fun hc16 => ?_) (fun hc16 => ?_)
  · have hf := if_t hf hc16
    refine lv_iconst (v := (-1 : Int32)) hx hb dX8_dark_19 (by decide) ?_
    have hr0 := so1 hf
    subst hr0
    rw [← hQ]
    exact W.iret (v := (-1 : Int32)) hx hb hr (fun t ht hW => ⟨rfl, ht⟩) (fun _ h => by cases h) dX8_dark_20
  · have hf := if_f hf hc16
    refine lv_iload_n hx hb dX8_dark_11 rfl (lv_at hl 2 rfl) ?_
    refine lv_iload_n hx hb dX8_dark_12 rfl (lv_at hl 3 rfl) ?_
    obtain ⟨r17, hu, hf⟩ := bd1_some hf
    refine zRi (va_runS (As := [.int g2, .int g3]) (rest := []) hC (c_X8_areNights l G (g2) (g3) r17 hu) (va_cwS 2 hts gX8_dark_X8_areNights rfl rfl rfl hd_X8_areNights.2 ⟨(Nat.le_of_ble_eq_true rfl), (Nat.le_of_ble_eq_true rfl)⟩) (zPS hE hP [] rfl) rfl rfl hl.1 rfl (lv_room (Nat.le_of_ble_eq_true rfl)) dX8_dark_13 ⟨Nat.zero_le _, Nat.zero_le _⟩) ?_
    refine lv_if_ne (tgt := 21) hx hb dX8_dark_16 (by decide) (fun hc18 => ?_) (fun hc18 => ?_)
    · have hf := if_f hf hc18
      refine lv_iconst (v := (0 : Int32)) hx hb dX8_dark_21 (by decide) ?_
      refine lv_istore (lv' := [(4, .int (0 : Int32)), (0, .ref a_this), (1, .int g1), (2, .int g2), (3, .int g3)]) hx hb dX8_dark_22 hl (by decide) rfl (fun ls hl => ?_)
      refine lv_iload_n hx hb dX8_dark_24 rfl (lv_at hl 3 rfl) ?_
      refine lv_istore (lv' := [(5, .int g2), (4, .int (0 : Int32)), (0, .ref a_this), (1, .int g1), (2, .int g2), (3, .int g3)]) hx hb dX8_dark_25 hl (by decide) rfl (fun ls hl => ?_)
      exact j27 (g1) (g3) zF ((0 : Int32)) (g2) ls (lv_sub hl [2, 3, 5, 1, 0] rfl) hf
    · have hf := if_t hf hc18
      refine lv_iconst (v := (-1 : Int32)) hx hb dX8_dark_19 (by decide) ?_
      have hr0 := so1 hf
      subst hr0
      rw [← hQ]
      exact W.iret (v := (-1 : Int32)) hx hb hr (fun t ht hW => ⟨rfl, ht⟩) (fun _ h => by cases h) dX8_dark_20
def f_X8_meets_b37 (v_told_squares : Int32) (v_told_stars : Int32) (v_told_paces : (Nat → Int32)) (v_told_starts : (Nat → Int32)) (v_now_leases_size : Int32) (v_now_leases_parts : (Nat → Int32))  (x1 : Int32) (x2 : Int32) : Nat → Int32 → Option (Int32)
  | 0, _ => none
  | n37 + 1, x4 => if (99 : Int32) < x4 then (some ((-9 : Int32))) else (bd1 (f_X5_squareOf (v_told_squares) (v_told_stars) (v_told_paces) (v_told_starts) (x2) (x4)) fun r12 => bd1 (f_X8_ownerOf (v_now_leases_size) (v_told_squares) (v_now_leases_parts) (r12) (x4)) fun r13 => if r13 = x1 then (some (x4)) else (f_X8_meets_b37 v_told_squares v_told_stars v_told_paces v_told_starts v_now_leases_size v_now_leases_parts x1 x2 n37 ((x4 + (1 : Int32)))))
def f_X8_meets  (v_told_squares : Int32) (v_told_stars : Int32) (v_told_tenants : Int32) (v_told_paces : (Nat → Int32)) (v_told_starts : (Nat → Int32)) (v_now_leases_size : Int32) (v_now_leases_parts : (Nat → Int32)) (g1 : Int32) (g2 : Int32) (g3 : Int32) : Option (Int32) := bd1 (f_X5_hasTenant (v_told_tenants) (g1)) fun r15 => if r15 = (0 : Int32) then (some ((-1 : Int32))) else (bd1 (f_X5_hasStar (v_told_stars) (g2)) fun r17 => if r17 = (0 : Int32) then (some ((-1 : Int32))) else (bd1 (f_X8_isWithin (g3) ((0 : Int32)) ((99 : Int32))) fun r19 => if r19 = (0 : Int32) then (some ((-1 : Int32))) else (f_X8_meets_b37 v_told_squares v_told_stars v_told_paces v_told_starts v_now_leases_size v_now_leases_parts (g1) (g2) zF (g3))))
abbrev rm_X8_meets : Room := { frames := 4, cells := 0, slots := 0, locals := 92 }
set_option maxHeartbeats 4000000 in
set_option maxRecDepth 100000 in
theorem c_X8_meets (l : Launch) (G : zG) (a_this : Nat) (a_this_told : Nat) (a_this_told_paces : Nat) (a_this_told_starts : Nat) (a_this_now : Nat) (a_this_now_leases : Nat) (a_this_now_leases_parts : Nat) (a_this_text : Nat) (a_this_reader : Nat) (a_this_draft : Nat) (a_this_firstImage : Nat) (a_this_secondImage : Nat) (a_this_kept : Nat) (a_this_offers : Nat) (a_this_seen : Nat) (a_this_rents : Nat) (a_this_told_brights : Nat) (a_this_told_purses : Nat) (a_this_told_leases : Nat) (a_this_now_purses : Nat) (a_this_now_past : Nat) (v_traced : Int64) (v_told_squares : Int32) (v_told_stars : Int32) (v_told_tenants : Int32) (v_told_paces : (Nat → Int32)) (v_told_starts : (Nat → Int32)) (v_now_night : Int32) (v_now_lot : Int32) (v_now_leases_most : Int32) (v_now_leases_size : Int32) (v_now_leases_parts : (Nat → Int32)) (g1 : Int32) (g2 : Int32) (g3 : Int32) (R0 : Int32) (hf : f_X8_meets v_told_squares v_told_stars v_told_tenants v_told_paces v_told_starts v_now_leases_size v_now_leases_parts g1 g2 g3 = some R0) : Met l yX8_meets wsX8_meets rm_X8_meets (va_Pc [.ref a_this, .int g1, .int g2, .int g3] (zR G [(a_this, .inr (8, [.ref a_this_text, .ref a_this_reader, .ref a_this_told, .ref a_this_draft, .ref a_this_now, .ref a_this_firstImage, .ref a_this_secondImage, .ref a_this_kept, .ref a_this_offers, .ref a_this_seen, .ref a_this_rents, .long v_traced])), (a_this_told, .inr (5, [.int v_told_squares, .int v_told_stars, .ref a_this_told_starts, .ref a_this_told_paces, .ref a_this_told_brights, .int v_told_tenants, .ref a_this_told_purses, .ref a_this_told_leases])), (a_this_told_paces, .inl (G.2.1, 8, .inl v_told_paces)), (a_this_told_starts, .inl (G.2.1, 8, .inl v_told_starts)), (a_this_now, .inr (0, [.int v_now_night, .int v_now_lot, .ref a_this_now_purses, .ref a_this_now_leases, .ref a_this_now_past])), (a_this_now_leases, .inr (6, [.int v_now_leases_most, .ref a_this_now_leases_parts, .int v_now_leases_size])), (a_this_now_leases_parts, .inl (G.2.1, 50, .inl v_now_leases_parts))])) (zSv (some (.int R0))) 0 0 (fun _ => False) := by
  refine Met.ofW (cc := cX8_meets) (maxL := 5) (ret := (some .int)) (by decide) rfl ?_
  intro p e s m args below meth c s₁ B hml hv
  obtain ⟨hargs, hP, hE⟩ := hv
  have hx := B.exec
  have hb := B.bytes
  have hr := B.returns
  have hts := atoms_spec (ws := wsX8_meets) B.pre
  have hown : s.vm.findClass RX8 = some m.cls := findClass_of_methodNamed B.named
  have hlocks := B.notSynchronized
  have hK := hE.1
  have hC : CallFix p m c cX8_meets 5 s args wsX8_meets RX8 := ⟨hx, hb, hml, hown, hts⟩
  have inX8 : ∀ w ∈ wsX80, w ∈ wsX8_meets := by decide +kernel
  have lk26 := hts (.fieldLink RX8 26 "SkyLeases" "told" "LSkyLeases$Sky;") (by decide +kernel)
  have hl := lv_entry ([.ref a_this, .int g1, .int g2, .int g3]) (n := 5) (Nat.le_of_ble_eq_true rfl)
  have hent : entryFrame m args 5 = F0 m 0 ((lg_sl ([.ref a_this, .int g1, .int g2, .int g3]) ++ List.replicate (5 - (lg_sl ([.ref a_this, .int g1, .int g2, .int g3])).length) Slot.unset).toArray) [] := by rw [hargs]; exact lg_entry_eq m [.ref a_this, .int g1, .int g2, .int g3] 5
  refine W.eq hent ?_
  clear hent
  generalize (lg_sl ([.ref a_this, .int g1, .int g2, .int g3]) ++ List.replicate (5 - (lg_sl ([.ref a_this, .int g1, .int g2, .int g3])).length) Slot.unset).toArray = ls at hl ⊢
  have hl : lv_has ls 5 [(0, .ref a_this), (1, .int g1), (2, .int g2), (3, .int g3)] := hl
  generalize hQ : MQ below _ args s 0 0 _ = QQ
  change W p l e rm_X8_meets s m args below meth c s.heap [] 0 0 QQ _
  have j37 : ∀ (x1 : Int32), ∀ (x2 : Int32), ∀ (nn : Nat), ∀ (x4 : Int32), ∀ (ls : Array Slot), lv_has ls 5 [(0, .ref a_this), (1, .int x1), (2, .int x2), (4, .int x4)] → f_X8_meets_b37 v_told_squares v_told_stars v_told_paces v_told_starts v_now_leases_size v_now_leases_parts x1 x2 nn x4 = some R0 → W p l e rm_X8_meets s m args below meth c s.heap [] 0 0 QQ (F0 m 37 ls []) := by
    intro x1 x2
    intro nn
    induction nn with
    | zero =>
      intro x4 ls hl hf
      rw [f_X8_meets_b37] at hf
      cases hf
    | succ n37 ih =>
      intro x4 ls hl hf
      rw [f_X8_meets_b37] at hf
      refine lv_iload hx hb dX8_meets_37 (lv_at hl 3 rfl) ?_
      refine lv_bipush (v := (99 : Int32)) hx hb dX8_meets_39 (by decide) ?_
      refine lv_icmp_gt (tgt := 73) hx hb dX8_meets_41 (by decide) (fun hc11 => ?_) (fun hc11 => ?_)
      · have hf := if_t hf hc11
        refine lv_bipush (v := (-9 : Int32)) hx hb dX8_meets_73 (by decide) ?_
        have hr0 := so1 hf
        subst hr0
        rw [← hQ]
        exact W.iret (v := (-9 : Int32)) hx hb hr (fun t ht hW => ⟨rfl, ht⟩) (fun _ h => by cases h) dX8_meets_75
      · have hf := if_f hf hc11
        refine lv_aload_n hx hb dX8_meets_44 rfl (lv_at hl 0 rfl) ?_
        refine lv_aload_n hx hb dX8_meets_45 rfl (lv_at hl 0 rfl) ?_
        refine va_get (D := G.1) (ci := 8) (v := .ref a_this_told) (C := RX8) (T := TX8) (N := 12) hx hb hts inX8 hown hK hP 0 rfl rfl 2 (by decide) lk26 (fun _ h9 => h9) rfl dX8_meets_46 ?_
        refine lv_iload_n hx hb dX8_meets_49 rfl (lv_at hl 2 rfl) ?_
        refine lv_iload hx hb dX8_meets_50 (lv_at hl 3 rfl) ?_
        obtain ⟨r12, hu, hf⟩ := bd1_some hf
        refine zRi (va_runV (As := [.int x2, .int x4]) (rest := [.ref a_this]) hC (c_X5_squareOf l G a_this_told a_this_told_paces a_this_told_starts a_this_told_brights a_this_told_purses a_this_told_leases (v_told_squares) (v_told_stars) (v_told_tenants) (v_told_paces) (v_told_starts) (x2) (x4) r12 hu) (cwV 2 hts gX8_meets_X5_squareOf rfl rfl rfl hd_X5_squareOf ⟨(Nat.le_of_ble_eq_true rfl), (Nat.le_of_ble_eq_true rfl)⟩) (zPV hE hP [1, 2, 3] rfl 1 rfl rfl) rfl rfl hl.1 rfl (lv_room (Nat.le_of_ble_eq_true rfl)) dX8_meets_52 ⟨Nat.zero_le _, Nat.zero_le _⟩) ?_
        refine lv_iload hx hb dX8_meets_55 (lv_at hl 3 rfl) ?_
        obtain ⟨r13, hu, hf⟩ := bd1_some hf
        refine zRi (va_runV (As := [.int r12, .int x4]) (rest := []) hC (c_X8_ownerOf l G a_this a_this_now a_this_now_leases a_this_told a_this_now_leases_parts a_this_text a_this_reader a_this_draft a_this_firstImage a_this_secondImage a_this_kept a_this_offers a_this_seen a_this_rents a_this_now_purses a_this_now_past a_this_told_starts a_this_told_paces a_this_told_brights a_this_told_purses a_this_told_leases (v_traced) (v_now_night) (v_now_lot) (v_now_leases_most) (v_now_leases_size) (v_told_squares) (v_told_stars) (v_told_tenants) (v_now_leases_parts) (r12) (x4) r13 hu) (cwV 2 hts gX8_meets_X8_ownerOf rfl rfl rfl hd_X8_ownerOf ⟨(Nat.le_of_ble_eq_true rfl), (Nat.le_of_ble_eq_true rfl)⟩) (zPV hE hP [0, 4, 5, 1, 6] rfl 0 rfl rfl) rfl rfl hl.1 rfl (lv_room (Nat.le_of_ble_eq_true rfl)) dX8_meets_57 ⟨Nat.zero_le _, Nat.zero_le _⟩) ?_
        refine lv_iload_n hx hb dX8_meets_60 rfl (lv_at hl 1 rfl) ?_
        refine lv_icmp_ne (tgt := 67) hx hb dX8_meets_61 (by decide) (fun hc14 => ?_) (fun hc14 => ?_)
        · have hf := if_f hf hc14
          refine lv_iinc (v := (x4 + (1 : Int32))) (lv' := [(4, .int (x4 + (1 : Int32))), (0, .ref a_this), (1, .int x1), (2, .int x2)]) hx hb dX8_meets_67 hl (k := 3) rfl rfl (by decide) rfl (fun ls hl => ?_)
          refine lv_goto (tgt := 37) hx hb dX8_meets_70 (by decide) ?_
          exact ih ((x4 + (1 : Int32))) ls (lv_sub hl [1, 2, 3, 0] rfl) hf
        · have hf := if_t hf hc14
          refine lv_iload hx hb dX8_meets_64 (lv_at hl 3 rfl) ?_
          have hr0 := so1 hf
          subst hr0
          rw [← hQ]
          exact W.iret (v := x4) hx hb hr (fun t ht hW => ⟨rfl, ht⟩) (fun _ h => by cases h) dX8_meets_66
  unfold f_X8_meets at hf
  refine lv_aload_n hx hb dX8_meets_0 rfl (lv_at hl 0 rfl) ?_
  refine va_get (D := G.1) (ci := 8) (v := .ref a_this_told) (C := RX8) (T := TX8) (N := 12) hx hb hts inX8 hown hK hP 0 rfl rfl 2 (by decide) lk26 (fun _ h9 => h9) rfl dX8_meets_1 ?_
  refine lv_iload_n hx hb dX8_meets_4 rfl (lv_at hl 1 rfl) ?_
  obtain ⟨r15, hu, hf⟩ := bd1_some hf
  refine zRi (va_runV (As := [.int g1]) (rest := []) hC (c_X5_hasTenant l G a_this_told a_this_told_starts a_this_told_paces a_this_told_brights a_this_told_purses a_this_told_leases (v_told_squares) (v_told_stars) (v_told_tenants) (g1) r15 hu) (cwV 1 hts gX8_meets_X5_hasTenant rfl rfl rfl hd_X5_hasTenant ⟨(Nat.le_of_ble_eq_true rfl), (Nat.le_of_ble_eq_true rfl)⟩) (zPV hE hP [1] rfl 1 rfl rfl) rfl rfl hl.1 rfl (lv_room (Nat.le_of_ble_eq_true rfl)) dX8_meets_5 ⟨Nat.zero_le _, Nat.zero_le _⟩) ?_
  refine lv_if_eq (tgt := 32) hx hb dX8_meets_8 (by decide) (fun hc16 => ?_) (fun hc16 => ?_)
  · have hf := if_t hf hc16
    refine lv_iconst (v := (-1 : Int32)) hx hb dX8_meets_32 (by decide) ?_
    have hr0 := so1 hf
    subst hr0
    rw [← hQ]
    exact W.iret (v := (-1 : Int32)) hx hb hr (fun t ht hW => ⟨rfl, ht⟩) (fun _ h => by cases h) dX8_meets_33
  · have hf := if_f hf hc16
    refine lv_aload_n hx hb dX8_meets_11 rfl (lv_at hl 0 rfl) ?_
    refine va_get (D := G.1) (ci := 8) (v := .ref a_this_told) (C := RX8) (T := TX8) (N := 12) hx hb hts inX8 hown hK hP 0 rfl rfl 2 (by decide) lk26 (fun _ h9 => h9) rfl dX8_meets_12 ?_
    refine lv_iload_n hx hb dX8_meets_15 rfl (lv_at hl 2 rfl) ?_
    obtain ⟨r17, hu, hf⟩ := bd1_some hf
    refine zRi (va_runV (As := [.int g2]) (rest := []) hC (c_X5_hasStar l G a_this_told a_this_told_starts a_this_told_paces a_this_told_brights a_this_told_purses a_this_told_leases (v_told_squares) (v_told_stars) (v_told_tenants) (g2) r17 hu) (cwV 1 hts gX8_meets_X5_hasStar rfl rfl rfl hd_X5_hasStar ⟨(Nat.le_of_ble_eq_true rfl), (Nat.le_of_ble_eq_true rfl)⟩) (zPV hE hP [1] rfl 1 rfl rfl) rfl rfl hl.1 rfl (lv_room (Nat.le_of_ble_eq_true rfl)) dX8_meets_16 ⟨Nat.zero_le _, Nat.zero_le _⟩) ?_
    refine lv_if_eq (tgt := 32) hx hb dX8_meets_19 (by decide) (fun hc18 => ?_) (fun hc18 => ?_)
    · have hf := if_t hf hc18
      refine lv_iconst (v := (-1 : Int32)) hx hb dX8_meets_32 (by decide) ?_
      have hr0 := so1 hf
      subst hr0
      rw [← hQ]
      exact W.iret (v := (-1 : Int32)) hx hb hr (fun t ht hW => ⟨rfl, ht⟩) (fun _ h => by cases h) dX8_meets_33
    · have hf := if_f hf hc18
      refine lv_iload_n hx hb dX8_meets_22 rfl (lv_at hl 3 rfl) ?_
      refine lv_iconst (v := (0 : Int32)) hx hb dX8_meets_23 (by decide) ?_
      refine lv_bipush (v := (99 : Int32)) hx hb dX8_meets_24 (by decide) ?_
      obtain ⟨r19, hu, hf⟩ := bd1_some hf
      refine zRi (va_runS (As := [.int g3, .int (0 : Int32), .int (99 : Int32)]) (rest := []) hC (c_X8_isWithin l G (g3) ((0 : Int32)) ((99 : Int32)) r19 hu) (va_cwS 3 hts gX8_meets_X8_isWithin rfl rfl rfl hd_X8_isWithin.2 ⟨(Nat.le_of_ble_eq_true rfl), (Nat.le_of_ble_eq_true rfl)⟩) (zPS hE hP [] rfl) rfl rfl hl.1 rfl (lv_room (Nat.le_of_ble_eq_true rfl)) dX8_meets_26 ⟨Nat.zero_le _, Nat.zero_le _⟩) ?_
      refine lv_if_ne (tgt := 34) hx hb dX8_meets_29 (by decide) (fun hc20 => ?_) (fun hc20 => ?_)
      · have hf := if_f hf hc20
        refine lv_iload_n hx hb dX8_meets_34 rfl (lv_at hl 3 rfl) ?_
        refine lv_istore (lv' := [(4, .int g3), (0, .ref a_this), (1, .int g1), (2, .int g2), (3, .int g3)]) hx hb dX8_meets_35 hl (by decide) rfl (fun ls hl => ?_)
        exact j37 (g1) (g2) zF (g3) ls (lv_sub hl [1, 2, 3, 0] rfl) hf
      · have hf := if_t hf hc20
        refine lv_iconst (v := (-1 : Int32)) hx hb dX8_meets_32 (by decide) ?_
        have hr0 := so1 hf
        subst hr0
        rw [← hQ]
        exact W.iret (v := (-1 : Int32)) hx hb hr (fun t ht hW => ⟨rfl, ht⟩) (fun _ h => by cases h) dX8_meets_33
def f_X8_areTerms  (v_told_squares : Int32) (v_told_tenants : Int32) (g1 : Int32) (g2 : Int32) (g3 : Int32) (g4 : Int32) (g5 : Int32) : Option (Int32) := bd1 (f_X5_hasTenant (v_told_tenants) (g1)) fun r9 => if r9 = (0 : Int32) then (some ((0 : Int32))) else (bd1 (f_X5_hasSquare (v_told_squares) (g2)) fun r11 => if r11 = (0 : Int32) then (some ((0 : Int32))) else (bd1 (f_X8_isWithin (g3) ((1 : Int32)) (v_told_squares)) fun r13 => if r13 = (0 : Int32) then (some ((0 : Int32))) else (bd1 (f_X8_areNights (g4) (g5)) fun r15 => if r15 = (0 : Int32) then (some ((0 : Int32))) else (some ((1 : Int32))))))
abbrev rm_X8_areTerms : Room := { frames := 2, cells := 0, slots := 0, locals := 43 }
set_option maxHeartbeats 4000000 in
set_option maxRecDepth 100000 in
theorem c_X8_areTerms (l : Launch) (G : zG) (a_this : Nat) (a_this_told : Nat) (a_this_text : Nat) (a_this_reader : Nat) (a_this_draft : Nat) (a_this_now : Nat) (a_this_firstImage : Nat) (a_this_secondImage : Nat) (a_this_kept : Nat) (a_this_offers : Nat) (a_this_seen : Nat) (a_this_rents : Nat) (a_this_told_starts : Nat) (a_this_told_paces : Nat) (a_this_told_brights : Nat) (a_this_told_purses : Nat) (a_this_told_leases : Nat) (v_traced : Int64) (v_told_squares : Int32) (v_told_stars : Int32) (v_told_tenants : Int32) (g1 : Int32) (g2 : Int32) (g3 : Int32) (g4 : Int32) (g5 : Int32) (R0 : Int32) (hf : f_X8_areTerms v_told_squares v_told_tenants g1 g2 g3 g4 g5 = some R0) : Met l yX8_areTerms wsX8_areTerms rm_X8_areTerms (va_Pc [.ref a_this, .int g1, .int g2, .int g3, .int g4, .int g5] (zR G [(a_this, .inr (8, [.ref a_this_text, .ref a_this_reader, .ref a_this_told, .ref a_this_draft, .ref a_this_now, .ref a_this_firstImage, .ref a_this_secondImage, .ref a_this_kept, .ref a_this_offers, .ref a_this_seen, .ref a_this_rents, .long v_traced])), (a_this_told, .inr (5, [.int v_told_squares, .int v_told_stars, .ref a_this_told_starts, .ref a_this_told_paces, .ref a_this_told_brights, .int v_told_tenants, .ref a_this_told_purses, .ref a_this_told_leases]))])) (zSv (some (.int R0))) 0 0 (fun _ => False) := by
  refine Met.ofW (cc := cX8_areTerms) (maxL := 6) (ret := (some .boolean)) (by decide) rfl ?_
  intro p e s m args below meth c s₁ B hml hv
  obtain ⟨hargs, hP, hE⟩ := hv
  have hx := B.exec
  have hb := B.bytes
  have hr := B.returns
  have hts := atoms_spec (ws := wsX8_areTerms) B.pre
  have hown : s.vm.findClass RX8 = some m.cls := findClass_of_methodNamed B.named
  have hlocks := B.notSynchronized
  have hK := hE.1
  have hC : CallFix p m c cX8_areTerms 6 s args wsX8_areTerms RX8 := ⟨hx, hb, hml, hown, hts⟩
  have inX5 : ∀ w ∈ wsX50, w ∈ wsX8_areTerms := by decide +kernel
  have inX8 : ∀ w ∈ wsX80, w ∈ wsX8_areTerms := by decide +kernel
  have lk26 := hts (.fieldLink RX8 26 "SkyLeases" "told" "LSkyLeases$Sky;") (by decide +kernel)
  have lk131 := hts (.fieldLink RX8 131 "SkyLeases$Sky" "squares" "I") (by decide +kernel)
  have hl := lv_entry ([.ref a_this, .int g1, .int g2, .int g3, .int g4, .int g5]) (n := 6) (Nat.le_of_ble_eq_true rfl)
  have hent : entryFrame m args 6 = F0 m 0 ((lg_sl ([.ref a_this, .int g1, .int g2, .int g3, .int g4, .int g5]) ++ List.replicate (6 - (lg_sl ([.ref a_this, .int g1, .int g2, .int g3, .int g4, .int g5])).length) Slot.unset).toArray) [] := by rw [hargs]; exact lg_entry_eq m [.ref a_this, .int g1, .int g2, .int g3, .int g4, .int g5] 6
  refine W.eq hent ?_
  clear hent
  generalize (lg_sl ([.ref a_this, .int g1, .int g2, .int g3, .int g4, .int g5]) ++ List.replicate (6 - (lg_sl ([.ref a_this, .int g1, .int g2, .int g3, .int g4, .int g5])).length) Slot.unset).toArray = ls at hl ⊢
  have hl : lv_has ls 6 [(0, .ref a_this), (1, .int g1), (2, .int g2), (3, .int g3), (4, .int g4), (5, .int g5)] := hl
  generalize hQ : MQ below _ args s 0 0 _ = QQ
  change W p l e rm_X8_areTerms s m args below meth c s.heap [] 0 0 QQ _
  unfold f_X8_areTerms at hf
  refine lv_aload_n hx hb dX8_areTerms_0 rfl (lv_at hl 0 rfl) ?_
  refine va_get (D := G.1) (ci := 8) (v := .ref a_this_told) (C := RX8) (T := TX8) (N := 12) hx hb hts inX8 hown hK hP 0 rfl rfl 2 (by decide) lk26 (fun _ h9 => h9) rfl dX8_areTerms_1 ?_
  refine lv_iload_n hx hb dX8_areTerms_4 rfl (lv_at hl 1 rfl) ?_
  obtain ⟨r9, hu, hf⟩ := bd1_some hf
  refine zRi (va_runV (As := [.int g1]) (rest := []) hC (c_X5_hasTenant l G a_this_told a_this_told_starts a_this_told_paces a_this_told_brights a_this_told_purses a_this_told_leases (v_told_squares) (v_told_stars) (v_told_tenants) (g1) r9 hu) (cwV 1 hts gX8_areTerms_X5_hasTenant rfl rfl rfl hd_X5_hasTenant ⟨(Nat.le_of_ble_eq_true rfl), (Nat.le_of_ble_eq_true rfl)⟩) (zPV hE hP [1] rfl 1 rfl rfl) rfl rfl hl.1 rfl (lv_room (Nat.le_of_ble_eq_true rfl)) dX8_areTerms_5 ⟨Nat.zero_le _, Nat.zero_le _⟩) ?_
  refine lv_if_eq (tgt := 51) hx hb dX8_areTerms_8 (by decide) (fun hc10 => ?_) (fun hc10 => ?_)
  · have hf := if_t hf hc10
    refine lv_iconst (v := (0 : Int32)) hx hb dX8_areTerms_51 (by decide) ?_
    have hr0 := so1 hf
    subst hr0
    rw [← hQ]
    exact W.zret (v := (0 : Int32)) hx hb hr rfl (fun t ht hW => ⟨rfl, ht⟩) (fun _ h => by cases h) dX8_areTerms_52
  · have hf := if_f hf hc10
    refine lv_aload_n hx hb dX8_areTerms_11 rfl (lv_at hl 0 rfl) ?_
    refine va_get (D := G.1) (ci := 8) (v := .ref a_this_told) (C := RX8) (T := TX8) (N := 12) hx hb hts inX8 hown hK hP 0 rfl rfl 2 (by decide) lk26 (fun _ h9 => h9) rfl dX8_areTerms_12 ?_
    refine lv_iload_n hx hb dX8_areTerms_15 rfl (lv_at hl 2 rfl) ?_
    obtain ⟨r11, hu, hf⟩ := bd1_some hf
    refine zRi (va_runV (As := [.int g2]) (rest := []) hC (c_X5_hasSquare l G a_this_told a_this_told_starts a_this_told_paces a_this_told_brights a_this_told_purses a_this_told_leases (v_told_squares) (v_told_stars) (v_told_tenants) (g2) r11 hu) (cwV 1 hts gX8_areTerms_X5_hasSquare rfl rfl rfl hd_X5_hasSquare ⟨(Nat.le_of_ble_eq_true rfl), (Nat.le_of_ble_eq_true rfl)⟩) (zPV hE hP [1] rfl 1 rfl rfl) rfl rfl hl.1 rfl (lv_room (Nat.le_of_ble_eq_true rfl)) dX8_areTerms_16 ⟨Nat.zero_le _, Nat.zero_le _⟩) ?_
    refine lv_if_eq (tgt := 51) hx hb dX8_areTerms_19 (by decide) (fun hc12 => ?_) (fun hc12 => ?_)
    · have hf := if_t hf hc12
      refine lv_iconst (v := (0 : Int32)) hx hb dX8_areTerms_51 (by decide) ?_
      have hr0 := so1 hf
      subst hr0
      rw [← hQ]
      exact W.zret (v := (0 : Int32)) hx hb hr rfl (fun t ht hW => ⟨rfl, ht⟩) (fun _ h => by cases h) dX8_areTerms_52
    · have hf := if_f hf hc12
      refine lv_iload_n hx hb dX8_areTerms_22 rfl (lv_at hl 3 rfl) ?_
      refine lv_iconst (v := (1 : Int32)) hx hb dX8_areTerms_23 (by decide) ?_
      refine lv_aload_n hx hb dX8_areTerms_24 rfl (lv_at hl 0 rfl) ?_
      refine va_get (D := G.1) (ci := 8) (v := .ref a_this_told) (C := RX8) (T := TX8) (N := 12) hx hb hts inX8 hown hK hP 0 rfl rfl 2 (by decide) lk26 (fun _ h9 => h9) rfl dX8_areTerms_25 ?_
      refine va_get (D := G.1) (ci := 5) (v := .int v_told_squares) (C := RX5) (T := TX5) (N := 8) hx hb hts inX5 hown hK hP 1 rfl rfl 0 (by decide) lk131 (fun _ h9 => h9) rfl dX8_areTerms_28 ?_
      obtain ⟨r13, hu, hf⟩ := bd1_some hf
      refine zRi (va_runS (As := [.int g3, .int (1 : Int32), .int v_told_squares]) (rest := []) hC (c_X8_isWithin l G (g3) ((1 : Int32)) (v_told_squares) r13 hu) (va_cwS 3 hts gX8_areTerms_X8_isWithin rfl rfl rfl hd_X8_isWithin.2 ⟨(Nat.le_of_ble_eq_true rfl), (Nat.le_of_ble_eq_true rfl)⟩) (zPS hE hP [] rfl) rfl rfl hl.1 rfl (lv_room (Nat.le_of_ble_eq_true rfl)) dX8_areTerms_31 ⟨Nat.zero_le _, Nat.zero_le _⟩) ?_
      refine lv_if_eq (tgt := 51) hx hb dX8_areTerms_34 (by decide) (fun hc14 => ?_) (fun hc14 => ?_)
      · have hf := if_t hf hc14
        refine lv_iconst (v := (0 : Int32)) hx hb dX8_areTerms_51 (by decide) ?_
        have hr0 := so1 hf
        subst hr0
        rw [← hQ]
        exact W.zret (v := (0 : Int32)) hx hb hr rfl (fun t ht hW => ⟨rfl, ht⟩) (fun _ h => by cases h) dX8_areTerms_52
      · have hf := if_f hf hc14
        refine lv_iload hx hb dX8_areTerms_37 (lv_at hl 4 rfl) ?_
        refine lv_iload hx hb dX8_areTerms_39 (lv_at hl 5 rfl) ?_
        obtain ⟨r15, hu, hf⟩ := bd1_some hf
        refine zRi (va_runS (As := [.int g4, .int g5]) (rest := []) hC (c_X8_areNights l G (g4) (g5) r15 hu) (va_cwS 2 hts gX8_areTerms_X8_areNights rfl rfl rfl hd_X8_areNights.2 ⟨(Nat.le_of_ble_eq_true rfl), (Nat.le_of_ble_eq_true rfl)⟩) (zPS hE hP [] rfl) rfl rfl hl.1 rfl (lv_room (Nat.le_of_ble_eq_true rfl)) dX8_areTerms_41 ⟨Nat.zero_le _, Nat.zero_le _⟩) ?_
        refine lv_if_eq (tgt := 51) hx hb dX8_areTerms_44 (by decide) (fun hc16 => ?_) (fun hc16 => ?_)
        · have hf := if_t hf hc16
          refine lv_iconst (v := (0 : Int32)) hx hb dX8_areTerms_51 (by decide) ?_
          have hr0 := so1 hf
          subst hr0
          rw [← hQ]
          exact W.zret (v := (0 : Int32)) hx hb hr rfl (fun t ht hW => ⟨rfl, ht⟩) (fun _ h => by cases h) dX8_areTerms_52
        · have hf := if_f hf hc16
          refine lv_iconst (v := (1 : Int32)) hx hb dX8_areTerms_47 (by decide) ?_
          refine lv_goto (tgt := 52) hx hb dX8_areTerms_48 (by decide) ?_
          have hr0 := so1 hf
          subst hr0
          rw [← hQ]
          exact W.zret (v := (1 : Int32)) hx hb hr rfl (fun t ht hW => ⟨rfl, ht⟩) (fun _ h => by cases h) dX8_areTerms_52
