def f_X1_shareSquare  (v_squareBits : (Nat → Int32)) (v_terms_size : Int32) (v_terms_parts : (Nat → Int32)) (g1 : Int32) (g2 : Int32) : Option (Int32) := gd (inB g1 8) (gd (inB g2 8) (if ((v_squareBits (g1).toNatClampNeg) &&& (v_squareBits (g2).toNatClampNeg)) = (0 : Int32) then (some ((0 : Int32))) else (bd1 (f_X6_part (v_terms_size) (v_terms_parts) (g1) ((3 : Int32))) fun r13 => bd1 (f_X6_part (v_terms_size) (v_terms_parts) (g2) ((4 : Int32))) fun r14 => if r14 < r13 then (some ((0 : Int32))) else (bd1 (f_X6_part (v_terms_size) (v_terms_parts) (g2) ((3 : Int32))) fun r16 => bd1 (f_X6_part (v_terms_size) (v_terms_parts) (g1) ((4 : Int32))) fun r17 => if r17 < r16 then (some ((0 : Int32))) else (some ((1 : Int32)))))))
abbrev rm_X1_shareSquare : Room := { frames := 2, cells := 0, slots := 0, locals := 44 }
set_option maxHeartbeats 4000000 in
set_option maxRecDepth 100000 in
theorem c_X1_shareSquare (l : Launch) (G : zG) (a_this : Nat) (a_this_squareBits : Nat) (a_this_terms : Nat) (a_this_terms_parts : Nat) (a_this_prices : Nat) (a_this_clashes : Nat) (a_this_starBits : Nat) (a_this_heldBits : Nat) (v_squareBits : (Nat → Int32)) (v_terms_most : Int32) (v_terms_size : Int32) (v_terms_parts : (Nat → Int32)) (g1 : Int32) (g2 : Int32) (R0 : Int32) (hf : f_X1_shareSquare v_squareBits v_terms_size v_terms_parts g1 g2 = some R0) : Met l yX1_shareSquare wsX1_shareSquare rm_X1_shareSquare (va_Pc [.ref a_this, .int g1, .int g2] (zR G [(a_this, .inr (1, [.ref a_this_terms, .ref a_this_prices, .ref a_this_squareBits, .ref a_this_clashes, .ref a_this_starBits, .ref a_this_heldBits])), (a_this_squareBits, .inl (G.2.1, 8, .inl v_squareBits)), (a_this_terms, .inr (6, [.int v_terms_most, .ref a_this_terms_parts, .int v_terms_size])), (a_this_terms_parts, .inl (G.2.1, 50, .inl v_terms_parts))])) (zSv (some (.int R0))) 0 0 (fun _ => False) := by
  refine Met.ofW (cc := cX1_shareSquare) (maxL := 3) (ret := (some .boolean)) (by decide) rfl ?_
  intro p e s m args below meth c s₁ B hml hv
  obtain ⟨hargs, hP, hE⟩ := hv
  have hx := B.exec
  have hb := B.bytes
  have hr := B.returns
  have hts := atoms_spec (ws := wsX1_shareSquare) B.pre
  have hown : s.vm.findClass RX1 = some m.cls := findClass_of_methodNamed B.named
  have hlocks := B.notSynchronized
  have hK := hE.1
  have hC : CallFix p m c cX1_shareSquare 3 s args wsX1_shareSquare RX1 := ⟨hx, hb, hml, hown, hts⟩
  have inX1 : ∀ w ∈ wsX10, w ∈ wsX1_shareSquare := by decide +kernel
  have lk14 := hts (.fieldLink RX1 14 "SkyLeases$Offers" "terms" "LSkyLeases$Terms;") (by decide +kernel)
  have lk24 := hts (.fieldLink RX1 24 "SkyLeases$Offers" "squareBits" "[I") (by decide +kernel)
  have hl := lv_entry ([.ref a_this, .int g1, .int g2]) (n := 3) (Nat.le_of_ble_eq_true rfl)
  have hent : entryFrame m args 3 = F0 m 0 ((lg_sl ([.ref a_this, .int g1, .int g2]) ++ List.replicate (3 - (lg_sl ([.ref a_this, .int g1, .int g2])).length) Slot.unset).toArray) [] := by rw [hargs]; exact lg_entry_eq m [.ref a_this, .int g1, .int g2] 3
  refine W.eq hent ?_
  clear hent
  generalize (lg_sl ([.ref a_this, .int g1, .int g2]) ++ List.replicate (3 - (lg_sl ([.ref a_this, .int g1, .int g2])).length) Slot.unset).toArray = ls at hl ⊢
  have hl : lv_has ls 3 [(0, .ref a_this), (1, .int g1), (2, .int g2)] := hl
  generalize hQ : MQ below _ args s 0 0 _ = QQ
  change W p l e rm_X1_shareSquare s m args below meth c s.heap [] 0 0 QQ _
  unfold f_X1_shareSquare at hf
  refine lv_aload_n hx hb dX1_shareSquare_0 rfl (lv_at hl 0 rfl) ?_
  refine va_get (D := G.1) (ci := 1) (v := .ref a_this_squareBits) (C := RX1) (T := TX1) (N := 6) hx hb hts inX1 hown hK hP 0 rfl rfl 2 (by decide) lk24 (fun _ h9 => h9) rfl dX1_shareSquare_1 ?_
  refine lv_iload_n hx hb dX1_shareSquare_4 rfl (lv_at hl 1 rfl) ?_
  obtain ⟨hg10, hf⟩ := gd_some hf
  refine va_iald hx hb hK hP 1 0 rfl rfl (inB_in hg10) dX1_shareSquare_5 ?_
  refine lv_aload_n hx hb dX1_shareSquare_6 rfl (lv_at hl 0 rfl) ?_
  refine va_get (D := G.1) (ci := 1) (v := .ref a_this_squareBits) (C := RX1) (T := TX1) (N := 6) hx hb hts inX1 hown hK hP 0 rfl rfl 2 (by decide) lk24 (fun _ h9 => h9) rfl dX1_shareSquare_7 ?_
  refine lv_iload_n hx hb dX1_shareSquare_10 rfl (lv_at hl 2 rfl) ?_
  obtain ⟨hg11, hf⟩ := gd_some hf
  refine va_iald hx hb hK hP 1 0 rfl rfl (inB_in hg11) dX1_shareSquare_11 ?_
  refine lv_iand hx hb dX1_shareSquare_12 ?_
  refine lv_if_eq (tgt := 62) hx hb dX1_shareSquare_13 (by decide) (fun hc12 => ?_) (fun hc12 => ?_)
  · have hf := if_t hf hc12
    refine lv_iconst (v := (0 : Int32)) hx hb dX1_shareSquare_62 (by decide) ?_
    have hr0 := so1 hf
    subst hr0
    rw [← hQ]
    exact W.zret (v := (0 : Int32)) hx hb hr rfl (fun t ht hW => ⟨rfl, ht⟩) (fun _ h => by cases h) dX1_shareSquare_63
  · have hf := if_f hf hc12
    refine lv_aload_n hx hb dX1_shareSquare_16 rfl (lv_at hl 0 rfl) ?_
    refine va_get (D := G.1) (ci := 1) (v := .ref a_this_terms) (C := RX1) (T := TX1) (N := 6) hx hb hts inX1 hown hK hP 0 rfl rfl 0 (by decide) lk14 (fun _ h9 => h9) rfl dX1_shareSquare_17 ?_
    refine lv_iload_n hx hb dX1_shareSquare_20 rfl (lv_at hl 1 rfl) ?_
    refine lv_iconst (v := (3 : Int32)) hx hb dX1_shareSquare_21 (by decide) ?_
    obtain ⟨r13, hu, hf⟩ := bd1_some hf
    refine zRi (va_runV (As := [.int g1, .int (3 : Int32)]) (rest := []) hC (c_X6_part l G a_this_terms a_this_terms_parts (v_terms_most) (v_terms_size) (v_terms_parts) (g1) ((3 : Int32)) r13 hu) (cwV 2 hts gX1_shareSquare_X6_part rfl rfl rfl hd_X6_part ⟨(Nat.le_of_ble_eq_true rfl), (Nat.le_of_ble_eq_true rfl)⟩) (zPV hE hP [2, 3] rfl 2 rfl rfl) rfl rfl hl.1 rfl (lv_room (Nat.le_of_ble_eq_true rfl)) dX1_shareSquare_22 ⟨Nat.zero_le _, Nat.zero_le _⟩) ?_
    refine lv_aload_n hx hb dX1_shareSquare_25 rfl (lv_at hl 0 rfl) ?_
    refine va_get (D := G.1) (ci := 1) (v := .ref a_this_terms) (C := RX1) (T := TX1) (N := 6) hx hb hts inX1 hown hK hP 0 rfl rfl 0 (by decide) lk14 (fun _ h9 => h9) rfl dX1_shareSquare_26 ?_
    refine lv_iload_n hx hb dX1_shareSquare_29 rfl (lv_at hl 2 rfl) ?_
    refine lv_iconst (v := (4 : Int32)) hx hb dX1_shareSquare_30 (by decide) ?_
    obtain ⟨r14, hu, hf⟩ := bd1_some hf
    refine zRi (va_runV (As := [.int g2, .int (4 : Int32)]) (rest := [.int r13]) hC (c_X6_part l G a_this_terms a_this_terms_parts (v_terms_most) (v_terms_size) (v_terms_parts) (g2) ((4 : Int32)) r14 hu) (cwV 2 hts gX1_shareSquare_X6_part rfl rfl rfl hd_X6_part ⟨(Nat.le_of_ble_eq_true rfl), (Nat.le_of_ble_eq_true rfl)⟩) (zPV hE hP [2, 3] rfl 2 rfl rfl) rfl rfl hl.1 rfl (lv_room (Nat.le_of_ble_eq_true rfl)) dX1_shareSquare_31 ⟨Nat.zero_le _, Nat.zero_le _⟩) ?_
    refine lv_icmp_gt (tgt := 62) hx hb dX1_shareSquare_34 (by decide) (fun hc15 => ?_) (fun hc15 => ?_)
    · have hf := if_t hf hc15
      refine lv_iconst (v := (0 : Int32)) hx hb dX1_shareSquare_62 (by decide) ?_
      have hr0 := so1 hf
      subst hr0
      rw [← hQ]
      exact W.zret (v := (0 : Int32)) hx hb hr rfl (fun t ht hW => ⟨rfl, ht⟩) (fun _ h => by cases h) dX1_shareSquare_63
    · have hf := if_f hf hc15
      refine lv_aload_n hx hb dX1_shareSquare_37 rfl (lv_at hl 0 rfl) ?_
      refine va_get (D := G.1) (ci := 1) (v := .ref a_this_terms) (C := RX1) (T := TX1) (N := 6) hx hb hts inX1 hown hK hP 0 rfl rfl 0 (by decide) lk14 (fun _ h9 => h9) rfl dX1_shareSquare_38 ?_
      refine lv_iload_n hx hb dX1_shareSquare_41 rfl (lv_at hl 2 rfl) ?_
      refine lv_iconst (v := (3 : Int32)) hx hb dX1_shareSquare_42 (by decide) ?_
      obtain ⟨r16, hu, hf⟩ := bd1_some hf
      refine zRi (va_runV (As := [.int g2, .int (3 : Int32)]) (rest := []) hC (c_X6_part l G a_this_terms a_this_terms_parts (v_terms_most) (v_terms_size) (v_terms_parts) (g2) ((3 : Int32)) r16 hu) (cwV 2 hts gX1_shareSquare_X6_part rfl rfl rfl hd_X6_part ⟨(Nat.le_of_ble_eq_true rfl), (Nat.le_of_ble_eq_true rfl)⟩) (zPV hE hP [2, 3] rfl 2 rfl rfl) rfl rfl hl.1 rfl (lv_room (Nat.le_of_ble_eq_true rfl)) dX1_shareSquare_43 ⟨Nat.zero_le _, Nat.zero_le _⟩) ?_
      refine lv_aload_n hx hb dX1_shareSquare_46 rfl (lv_at hl 0 rfl) ?_
      refine va_get (D := G.1) (ci := 1) (v := .ref a_this_terms) (C := RX1) (T := TX1) (N := 6) hx hb hts inX1 hown hK hP 0 rfl rfl 0 (by decide) lk14 (fun _ h9 => h9) rfl dX1_shareSquare_47 ?_
      refine lv_iload_n hx hb dX1_shareSquare_50 rfl (lv_at hl 1 rfl) ?_
      refine lv_iconst (v := (4 : Int32)) hx hb dX1_shareSquare_51 (by decide) ?_
      obtain ⟨r17, hu, hf⟩ := bd1_some hf
      refine zRi (va_runV (As := [.int g1, .int (4 : Int32)]) (rest := [.int r16]) hC (c_X6_part l G a_this_terms a_this_terms_parts (v_terms_most) (v_terms_size) (v_terms_parts) (g1) ((4 : Int32)) r17 hu) (cwV 2 hts gX1_shareSquare_X6_part rfl rfl rfl hd_X6_part ⟨(Nat.le_of_ble_eq_true rfl), (Nat.le_of_ble_eq_true rfl)⟩) (zPV hE hP [2, 3] rfl 2 rfl rfl) rfl rfl hl.1 rfl (lv_room (Nat.le_of_ble_eq_true rfl)) dX1_shareSquare_52 ⟨Nat.zero_le _, Nat.zero_le _⟩) ?_
      refine lv_icmp_gt (tgt := 62) hx hb dX1_shareSquare_55 (by decide) (fun hc18 => ?_) (fun hc18 => ?_)
      · have hf := if_t hf hc18
        refine lv_iconst (v := (0 : Int32)) hx hb dX1_shareSquare_62 (by decide) ?_
        have hr0 := so1 hf
        subst hr0
        rw [← hQ]
        exact W.zret (v := (0 : Int32)) hx hb hr rfl (fun t ht hW => ⟨rfl, ht⟩) (fun _ h => by cases h) dX1_shareSquare_63
      · have hf := if_f hf hc18
        refine lv_iconst (v := (1 : Int32)) hx hb dX1_shareSquare_58 (by decide) ?_
        refine lv_goto (tgt := 63) hx hb dX1_shareSquare_59 (by decide) ?_
        have hr0 := so1 hf
        subst hr0
        rw [← hQ]
        exact W.zret (v := (1 : Int32)) hx hb hr rfl (fun t ht hW => ⟨rfl, ht⟩) (fun _ h => by cases h) dX1_shareSquare_63
theorem hd_X1_shareSquare : yX1_shareSquare.cls = RX1 ∧ yX1_shareSquare.cls ≠ "java/lang/invoke/MethodHandle" ∧ yX1_shareSquare.cls ≠ "java/lang/invoke/VarHandle" ∧ (parseMethodDescriptor yX1_shareSquare.desc).map (fun d => d.parameters.length) = some 2 := by decide +kernel
def f_X1_settleLast_b72  (k39 : Int32 → (Nat → Int32) → Option ((Nat → Int32) × (Nat → Int32) × (Nat → Int32)))  (x4 : Int32) (v_squareBits : (Nat → Int32)) : Option ((Nat → Int32) × (Nat → Int32) × (Nat → Int32)) := k39 ((x4 + (1 : Int32))) (v_squareBits)
def f_X1_settleLast_b117  (k88 : Int32 → (Nat → Int32) → Option ((Nat → Int32) × (Nat → Int32) × (Nat → Int32)))  (x4 : Int32) (v_clashes : (Nat → Int32)) : Option ((Nat → Int32) × (Nat → Int32) × (Nat → Int32)) := k88 ((x4 + (1 : Int32))) (v_clashes)
def f_X1_settleLast_b88 (v_terms_size : Int32) (v_terms_parts : (Nat → Int32))  (x3 : Int32) (v_prices : (Nat → Int32)) (v_squareBits : (Nat → Int32)) : Nat → Int32 → (Nat → Int32) → Option ((Nat → Int32) × (Nat → Int32) × (Nat → Int32))
  | 0, _, _ => none
  | n88 + 1, x4, v_clashes => if x3 ≤ x4 then (some (v_prices, v_squareBits, v_clashes)) else (bd1 (f_X1_shareSquare (v_squareBits) (v_terms_size) (v_terms_parts) (x4) (x3)) fun r22 => if r22 = (0 : Int32) then (f_X1_settleLast_b117 (f_X1_settleLast_b88 v_terms_size v_terms_parts x3 v_prices v_squareBits n88) (x4) (v_clashes)) else (gd (inB x3 8) (gd (inB x3 8) (nm (upd v_clashes (x3).toNatClampNeg ((v_clashes (x3).toNatClampNeg) ||| ((1 : Int32) <<< (x4 &&& (31 : Int32))))) fun y26 => f_X1_settleLast_b117 (f_X1_settleLast_b88 v_terms_size v_terms_parts x3 v_prices v_squareBits n88) (x4) (y26)))))
def f_X1_settleLast_b39 (v_terms_size : Int32) (v_terms_parts : (Nat → Int32))  (x2 : Int32) (x3 : Int32) (v_prices : (Nat → Int32)) (v_clashes : (Nat → Int32)) : Nat → Int32 → (Nat → Int32) → Option ((Nat → Int32) × (Nat → Int32) × (Nat → Int32))
  | 0, _, _ => none
  | n39 + 1, x4, v_squareBits => if x2 ≤ x4 then (gd (inB x3 8) (nm (upd v_clashes (x3).toNatClampNeg (0 : Int32)) fun y29 => f_X1_settleLast_b88 v_terms_size v_terms_parts (x3) (v_prices) (v_squareBits) zF ((0 : Int32)) (y29))) else (bd1 (f_X6_hasSquare (v_terms_size) (v_terms_parts) (x3) (x4) (x2)) fun r30 => if r30 = (0 : Int32) then (f_X1_settleLast_b72 (f_X1_settleLast_b39 v_terms_size v_terms_parts x2 x3 v_prices v_clashes n39) (x4) (v_squareBits)) else (gd (inB x3 8) (gd (inB x3 8) (nm (upd v_squareBits (x3).toNatClampNeg ((v_squareBits (x3).toNatClampNeg) ||| ((1 : Int32) <<< (x4 &&& (31 : Int32))))) fun y34 => f_X1_settleLast_b72 (f_X1_settleLast_b39 v_terms_size v_terms_parts x2 x3 v_prices v_clashes n39) (x4) (y34)))))
def f_X1_settleLast  (v_terms_size : Int32) (v_prices : (Nat → Int32)) (v_squareBits : (Nat → Int32)) (v_clashes : (Nat → Int32)) (v_terms_parts : (Nat → Int32)) (g1 : Int32) (g2 : Int32) : Option ((Nat → Int32) × (Nat → Int32) × (Nat → Int32)) := bd1 (f_X6_has (v_terms_size) ((v_terms_size - (1 : Int32)))) fun r35 => if r35 = (0 : Int32) then (some (v_prices, v_squareBits, v_clashes)) else (gd (inB (v_terms_size - (1 : Int32)) 8) (nm (upd v_prices ((v_terms_size - (1 : Int32))).toNatClampNeg g1) fun y38 => gd (inB (v_terms_size - (1 : Int32)) 8) (nm (upd v_squareBits ((v_terms_size - (1 : Int32))).toNatClampNeg (0 : Int32)) fun y40 => f_X1_settleLast_b39 v_terms_size v_terms_parts (g2) ((v_terms_size - (1 : Int32))) (y38) (v_clashes) zF ((0 : Int32)) (y40))))
abbrev rm_X1_settleLast : Room := { frames := 3, cells := 0, slots := 0, locals := 66 }
set_option maxHeartbeats 4000000 in
set_option maxRecDepth 100000 in
theorem c_X1_settleLast (l : Launch) (G : zG) (sz : Nat) (a_this : Nat) (a_this_terms : Nat) (a_this_prices : Nat) (a_this_squareBits : Nat) (a_this_clashes : Nat) (a_this_terms_parts : Nat) (a_this_starBits : Nat) (a_this_heldBits : Nat) (v_terms_most : Int32) (v_terms_size : Int32) (v_prices : (Nat → Int32)) (v_squareBits : (Nat → Int32)) (v_clashes : (Nat → Int32)) (v_terms_parts : (Nat → Int32)) (g1 : Int32) (g2 : Int32) (R1 : (Nat → Int32)) (R2 : (Nat → Int32)) (R3 : (Nat → Int32)) (hf : f_X1_settleLast v_terms_size v_prices v_squareBits v_clashes v_terms_parts g1 g2 = some (R1, R2, R3)) : Met l yX1_settleLast wsX1_settleLast rm_X1_settleLast (va_Pc [.ref a_this, .int g1, .int g2] (zB G [(a_this, .inr (1, [.ref a_this_terms, .ref a_this_prices, .ref a_this_squareBits, .ref a_this_clashes, .ref a_this_starBits, .ref a_this_heldBits])), (a_this_terms, .inr (6, [.int v_terms_most, .ref a_this_terms_parts, .int v_terms_size])), (a_this_prices, .inl (G.2.1, 8, .inl v_prices)), (a_this_squareBits, .inl (G.2.1, 8, .inl v_squareBits)), (a_this_clashes, .inl (G.2.1, 8, .inl v_clashes)), (a_this_terms_parts, .inl (G.2.1, 50, .inl v_terms_parts))] sz)) (zQ G none [(a_this, .inr (1, [.ref a_this_terms, .ref a_this_prices, .ref a_this_squareBits, .ref a_this_clashes, .ref a_this_starBits, .ref a_this_heldBits])), (a_this_terms, .inr (6, [.int v_terms_most, .ref a_this_terms_parts, .int v_terms_size])), (a_this_prices, .inl (G.2.1, 8, .inl R1)), (a_this_squareBits, .inl (G.2.1, 8, .inl R2)), (a_this_clashes, .inl (G.2.1, 8, .inl R3)), (a_this_terms_parts, .inl (G.2.1, 50, .inl v_terms_parts))] (va_A [(a_this, .inr (1, [.ref a_this_terms, .ref a_this_prices, .ref a_this_squareBits, .ref a_this_clashes, .ref a_this_starBits, .ref a_this_heldBits])), (a_this_terms, .inr (6, [.int v_terms_most, .ref a_this_terms_parts, .int v_terms_size])), (a_this_prices, .inl (G.2.1, 8, .inl v_prices)), (a_this_squareBits, .inl (G.2.1, 8, .inl v_squareBits)), (a_this_clashes, .inl (G.2.1, 8, .inl v_clashes)), (a_this_terms_parts, .inl (G.2.1, 50, .inl v_terms_parts))] sz)) 0 0 (va_A [(a_this, .inr (1, [.ref a_this_terms, .ref a_this_prices, .ref a_this_squareBits, .ref a_this_clashes, .ref a_this_starBits, .ref a_this_heldBits])), (a_this_terms, .inr (6, [.int v_terms_most, .ref a_this_terms_parts, .int v_terms_size])), (a_this_prices, .inl (G.2.1, 8, .inl v_prices)), (a_this_squareBits, .inl (G.2.1, 8, .inl v_squareBits)), (a_this_clashes, .inl (G.2.1, 8, .inl v_clashes)), (a_this_terms_parts, .inl (G.2.1, 50, .inl v_terms_parts))] sz) := by
  refine Met.ofW (cc := cX1_settleLast) (maxL := 5) (ret := none) (by decide) rfl ?_
  intro p e s m args below meth c s₁ B hml hv
  obtain ⟨hargs, hsz, hP, hD0, hE⟩ := hv
  have hx := B.exec
  have hb := B.bytes
  have hr := B.returns
  have hts := atoms_spec (ws := wsX1_settleLast) B.pre
  have hown : s.vm.findClass RX1 = some m.cls := findClass_of_methodNamed B.named
  have hlocks := B.notSynchronized
  have hK := hE.1
  have hC : CallFix p m c cX1_settleLast 5 s args wsX1_settleLast RX1 := ⟨hx, hb, hml, hown, hts⟩
  have inX1 : ∀ w ∈ wsX10, w ∈ wsX1_settleLast := by decide +kernel
  have inX6 : ∀ w ∈ wsX60, w ∈ wsX1_settleLast := by decide +kernel
  have lk14 := hts (.fieldLink RX1 14 "SkyLeases$Offers" "terms" "LSkyLeases$Terms;") (by decide +kernel)
  have lk20 := hts (.fieldLink RX1 20 "SkyLeases$Offers" "prices" "[I") (by decide +kernel)
  have lk24 := hts (.fieldLink RX1 24 "SkyLeases$Offers" "squareBits" "[I") (by decide +kernel)
  have lk27 := hts (.fieldLink RX1 27 "SkyLeases$Offers" "clashes" "[I") (by decide +kernel)
  have lk36 := hts (.fieldLink RX1 36 "SkyLeases$Terms" "size" "I") (by decide +kernel)
  subst hsz
  have hD := hD0.self (sz := s.heap.size)
  generalize hAe : va_A [(a_this, .inr (1, [.ref a_this_terms, .ref a_this_prices, .ref a_this_squareBits, .ref a_this_clashes, .ref a_this_starBits, .ref a_this_heldBits])), (a_this_terms, .inr (6, [.int v_terms_most, .ref a_this_terms_parts, .int v_terms_size])), (a_this_prices, .inl (G.2.1, 8, .inl v_prices)), (a_this_squareBits, .inl (G.2.1, 8, .inl v_squareBits)), (a_this_clashes, .inl (G.2.1, 8, .inl v_clashes)), (a_this_terms_parts, .inl (G.2.1, 50, .inl v_terms_parts))] s.heap.size = A at hD ⊢
  have hA : ∀ q : Nat, s.heap.size ≤ q → A q := fun q h => by rw [← hAe]; exact Or.inr h
  have hS : va_S A s.heap s.heap [] := va_S.rf
  have hP : va_P G.1 vwCl [(a_this, .inr (1, [.ref a_this_terms, .ref a_this_prices, .ref a_this_squareBits, .ref a_this_clashes, .ref a_this_starBits, .ref a_this_heldBits])), (a_this_terms, .inr (6, [.int v_terms_most, .ref a_this_terms_parts, .int v_terms_size])), (a_this_prices, .inl (G.2.1, 8, .inl v_prices)), (a_this_squareBits, .inl (G.2.1, 8, .inl v_squareBits)), (a_this_clashes, .inl (G.2.1, 8, .inl v_clashes)), (a_this_terms_parts, .inl (G.2.1, 50, .inl v_terms_parts))] s.heap := hP
  have hl := lv_entry ([.ref a_this, .int g1, .int g2]) (n := 5) (Nat.le_of_ble_eq_true rfl)
  have hent : entryFrame m args 5 = F0 m 0 ((lg_sl ([.ref a_this, .int g1, .int g2]) ++ List.replicate (5 - (lg_sl ([.ref a_this, .int g1, .int g2])).length) Slot.unset).toArray) [] := by rw [hargs]; exact lg_entry_eq m [.ref a_this, .int g1, .int g2] 5
  refine W.eq hent ?_
  clear hent
  generalize (lg_sl ([.ref a_this, .int g1, .int g2]) ++ List.replicate (5 - (lg_sl ([.ref a_this, .int g1, .int g2])).length) Slot.unset).toArray = ls at hl ⊢
  have hl : lv_has ls 5 [(0, .ref a_this), (1, .int g1), (2, .int g2)] := hl
  generalize hQ : MQ below _ args s 0 0 _ = QQ
  change W p l e rm_X1_settleLast s m args below meth c s.heap [] 0 0 QQ _
  have j72 : ∀ (x2 : Int32), ∀ (x3 : Int32), ∀ (v_prices : (Nat → Int32)), ∀ (v_clashes : (Nat → Int32)), ∀ (k39 : Int32 → (Nat → Int32) → Option ((Nat → Int32) × (Nat → Int32) × (Nat → Int32))), (∀ (x4 : Int32), ∀ (v_squareBits : (Nat → Int32)), ∀ (ls : Array Slot), lv_has ls 5 [(0, .ref a_this), (2, .int x2), (3, .int x3), (4, .int x4)] → ∀ (H : Heap) (locs : List Loc), va_P G.1 vwCl [(a_this, .inr (1, [.ref a_this_terms, .ref a_this_prices, .ref a_this_squareBits, .ref a_this_clashes, .ref a_this_starBits, .ref a_this_heldBits])), (a_this_terms, .inr (6, [.int v_terms_most, .ref a_this_terms_parts, .int v_terms_size])), (a_this_prices, .inl (G.2.1, 8, .inl v_prices)), (a_this_squareBits, .inl (G.2.1, 8, .inl v_squareBits)), (a_this_clashes, .inl (G.2.1, 8, .inl v_clashes)), (a_this_terms_parts, .inl (G.2.1, 50, .inl v_terms_parts))] H → va_D A [(a_this, .inr (1, [.ref a_this_terms, .ref a_this_prices, .ref a_this_squareBits, .ref a_this_clashes, .ref a_this_starBits, .ref a_this_heldBits])), (a_this_terms, .inr (6, [.int v_terms_most, .ref a_this_terms_parts, .int v_terms_size])), (a_this_prices, .inl (G.2.1, 8, .inl v_prices)), (a_this_squareBits, .inl (G.2.1, 8, .inl v_squareBits)), (a_this_clashes, .inl (G.2.1, 8, .inl v_clashes)), (a_this_terms_parts, .inl (G.2.1, 50, .inl v_terms_parts))] → va_S A s.heap H locs → k39 x4 v_squareBits = some (R1, R2, R3) → W p l e rm_X1_settleLast s m args below meth c H locs 0 0 QQ (F0 m 39 ls [])) → ∀ (x4 : Int32), ∀ (v_squareBits : (Nat → Int32)), ∀ (ls : Array Slot), lv_has ls 5 [(0, .ref a_this), (2, .int x2), (3, .int x3), (4, .int x4)] → ∀ (H : Heap) (locs : List Loc), va_P G.1 vwCl [(a_this, .inr (1, [.ref a_this_terms, .ref a_this_prices, .ref a_this_squareBits, .ref a_this_clashes, .ref a_this_starBits, .ref a_this_heldBits])), (a_this_terms, .inr (6, [.int v_terms_most, .ref a_this_terms_parts, .int v_terms_size])), (a_this_prices, .inl (G.2.1, 8, .inl v_prices)), (a_this_squareBits, .inl (G.2.1, 8, .inl v_squareBits)), (a_this_clashes, .inl (G.2.1, 8, .inl v_clashes)), (a_this_terms_parts, .inl (G.2.1, 50, .inl v_terms_parts))] H → va_D A [(a_this, .inr (1, [.ref a_this_terms, .ref a_this_prices, .ref a_this_squareBits, .ref a_this_clashes, .ref a_this_starBits, .ref a_this_heldBits])), (a_this_terms, .inr (6, [.int v_terms_most, .ref a_this_terms_parts, .int v_terms_size])), (a_this_prices, .inl (G.2.1, 8, .inl v_prices)), (a_this_squareBits, .inl (G.2.1, 8, .inl v_squareBits)), (a_this_clashes, .inl (G.2.1, 8, .inl v_clashes)), (a_this_terms_parts, .inl (G.2.1, 50, .inl v_terms_parts))] → va_S A s.heap H locs → f_X1_settleLast_b72 k39 x4 v_squareBits = some (R1, R2, R3) → W p l e rm_X1_settleLast s m args below meth c H locs 0 0 QQ (F0 m 72 ls []) := by
    intro x2 x3 v_prices v_clashes k39 hk39 x4 v_squareBits ls hl H locs hP hD hS hf
    unfold f_X1_settleLast_b72 at hf
    refine lv_iinc (v := (x4 + (1 : Int32))) (lv' := [(4, .int (x4 + (1 : Int32))), (0, .ref a_this), (2, .int x2), (3, .int x3)]) hx hb dX1_settleLast_72 hl (k := 3) rfl rfl (by decide) rfl (fun ls hl => ?_)
    refine lv_goto (tgt := 39) hx hb dX1_settleLast_75 (by decide) ?_
    exact hk39 ((x4 + (1 : Int32))) (v_squareBits) ls (lv_sub hl [1, 2, 3, 0] rfl) _ _ hP hD hS hf
  have j117 : ∀ (x3 : Int32), ∀ (v_prices : (Nat → Int32)), ∀ (v_squareBits : (Nat → Int32)), ∀ (k88 : Int32 → (Nat → Int32) → Option ((Nat → Int32) × (Nat → Int32) × (Nat → Int32))), (∀ (x4 : Int32), ∀ (v_clashes : (Nat → Int32)), ∀ (ls : Array Slot), lv_has ls 5 [(0, .ref a_this), (3, .int x3), (4, .int x4)] → ∀ (H : Heap) (locs : List Loc), va_P G.1 vwCl [(a_this, .inr (1, [.ref a_this_terms, .ref a_this_prices, .ref a_this_squareBits, .ref a_this_clashes, .ref a_this_starBits, .ref a_this_heldBits])), (a_this_terms, .inr (6, [.int v_terms_most, .ref a_this_terms_parts, .int v_terms_size])), (a_this_prices, .inl (G.2.1, 8, .inl v_prices)), (a_this_squareBits, .inl (G.2.1, 8, .inl v_squareBits)), (a_this_clashes, .inl (G.2.1, 8, .inl v_clashes)), (a_this_terms_parts, .inl (G.2.1, 50, .inl v_terms_parts))] H → va_D A [(a_this, .inr (1, [.ref a_this_terms, .ref a_this_prices, .ref a_this_squareBits, .ref a_this_clashes, .ref a_this_starBits, .ref a_this_heldBits])), (a_this_terms, .inr (6, [.int v_terms_most, .ref a_this_terms_parts, .int v_terms_size])), (a_this_prices, .inl (G.2.1, 8, .inl v_prices)), (a_this_squareBits, .inl (G.2.1, 8, .inl v_squareBits)), (a_this_clashes, .inl (G.2.1, 8, .inl v_clashes)), (a_this_terms_parts, .inl (G.2.1, 50, .inl v_terms_parts))] → va_S A s.heap H locs → k88 x4 v_clashes = some (R1, R2, R3) → W p l e rm_X1_settleLast s m args below meth c H locs 0 0 QQ (F0 m 88 ls [])) → ∀ (x4 : Int32), ∀ (v_clashes : (Nat → Int32)), ∀ (ls : Array Slot), lv_has ls 5 [(0, .ref a_this), (3, .int x3), (4, .int x4)] → ∀ (H : Heap) (locs : List Loc), va_P G.1 vwCl [(a_this, .inr (1, [.ref a_this_terms, .ref a_this_prices, .ref a_this_squareBits, .ref a_this_clashes, .ref a_this_starBits, .ref a_this_heldBits])), (a_this_terms, .inr (6, [.int v_terms_most, .ref a_this_terms_parts, .int v_terms_size])), (a_this_prices, .inl (G.2.1, 8, .inl v_prices)), (a_this_squareBits, .inl (G.2.1, 8, .inl v_squareBits)), (a_this_clashes, .inl (G.2.1, 8, .inl v_clashes)), (a_this_terms_parts, .inl (G.2.1, 50, .inl v_terms_parts))] H → va_D A [(a_this, .inr (1, [.ref a_this_terms, .ref a_this_prices, .ref a_this_squareBits, .ref a_this_clashes, .ref a_this_starBits, .ref a_this_heldBits])), (a_this_terms, .inr (6, [.int v_terms_most, .ref a_this_terms_parts, .int v_terms_size])), (a_this_prices, .inl (G.2.1, 8, .inl v_prices)), (a_this_squareBits, .inl (G.2.1, 8, .inl v_squareBits)), (a_this_clashes, .inl (G.2.1, 8, .inl v_clashes)), (a_this_terms_parts, .inl (G.2.1, 50, .inl v_terms_parts))] → va_S A s.heap H locs → f_X1_settleLast_b117 k88 x4 v_clashes = some (R1, R2, R3) → W p l e rm_X1_settleLast s m args below meth c H locs 0 0 QQ (F0 m 117 ls []) := by
    intro x3 v_prices v_squareBits k88 hk88 x4 v_clashes ls hl H locs hP hD hS hf
    unfold f_X1_settleLast_b117 at hf
    refine lv_iinc (v := (x4 + (1 : Int32))) (lv' := [(4, .int (x4 + (1 : Int32))), (0, .ref a_this), (3, .int x3)]) hx hb dX1_settleLast_117 hl (k := 2) rfl rfl (by decide) rfl (fun ls hl => ?_)
    refine lv_goto (tgt := 88) hx hb dX1_settleLast_120 (by decide) ?_
    exact hk88 ((x4 + (1 : Int32))) (v_clashes) ls (lv_sub hl [1, 2, 0] rfl) _ _ hP hD hS hf
  have j88 : ∀ (x3 : Int32), ∀ (v_prices : (Nat → Int32)), ∀ (v_squareBits : (Nat → Int32)), ∀ (nn : Nat), ∀ (x4 : Int32), ∀ (v_clashes : (Nat → Int32)), ∀ (ls : Array Slot), lv_has ls 5 [(0, .ref a_this), (3, .int x3), (4, .int x4)] → ∀ (H : Heap) (locs : List Loc), va_P G.1 vwCl [(a_this, .inr (1, [.ref a_this_terms, .ref a_this_prices, .ref a_this_squareBits, .ref a_this_clashes, .ref a_this_starBits, .ref a_this_heldBits])), (a_this_terms, .inr (6, [.int v_terms_most, .ref a_this_terms_parts, .int v_terms_size])), (a_this_prices, .inl (G.2.1, 8, .inl v_prices)), (a_this_squareBits, .inl (G.2.1, 8, .inl v_squareBits)), (a_this_clashes, .inl (G.2.1, 8, .inl v_clashes)), (a_this_terms_parts, .inl (G.2.1, 50, .inl v_terms_parts))] H → va_D A [(a_this, .inr (1, [.ref a_this_terms, .ref a_this_prices, .ref a_this_squareBits, .ref a_this_clashes, .ref a_this_starBits, .ref a_this_heldBits])), (a_this_terms, .inr (6, [.int v_terms_most, .ref a_this_terms_parts, .int v_terms_size])), (a_this_prices, .inl (G.2.1, 8, .inl v_prices)), (a_this_squareBits, .inl (G.2.1, 8, .inl v_squareBits)), (a_this_clashes, .inl (G.2.1, 8, .inl v_clashes)), (a_this_terms_parts, .inl (G.2.1, 50, .inl v_terms_parts))] → va_S A s.heap H locs → f_X1_settleLast_b88 v_terms_size v_terms_parts x3 v_prices v_squareBits nn x4 v_clashes = some (R1, R2, R3) → W p l e rm_X1_settleLast s m args below meth c H locs 0 0 QQ (F0 m 88 ls []) := by
    intro x3 v_prices v_squareBits
    intro nn
    induction nn with
    | zero =>
      intro x4 v_clashes ls hl H locs hP hD hS hf
      rw [f_X1_settleLast_b88] at hf
      cases hf
    | succ n88 ih =>
      intro x4 v_clashes ls hl H locs hP hD hS hf
      rw [f_X1_settleLast_b88] at hf
      refine lv_iload hx hb dX1_settleLast_88 (lv_at hl 2 rfl) ?_
      refine lv_iload_n hx hb dX1_settleLast_90 rfl (lv_at hl 1 rfl) ?_
      refine lv_icmp_ge (tgt := 123) hx hb dX1_settleLast_91 (by decide) (fun hc21 => ?_) (fun hc21 => ?_)
      · have hf := if_t hf hc21
        obtain ⟨hr0, hr1, hr2⟩ := so3 hf
        subst hr0
        subst hr1
        subst hr2
        rw [← hQ]
        exact W.vret hx hb hr (fun t ht hW => ⟨⟨rfl, by rw [ht]; exact hP⟩, hS.F ht⟩) hS.2.2 dX1_settleLast_123
      · have hf := if_f hf hc21
        refine lv_aload_n hx hb dX1_settleLast_94 rfl (lv_at hl 0 rfl) ?_
        refine lv_iload hx hb dX1_settleLast_95 (lv_at hl 2 rfl) ?_
        refine lv_iload_n hx hb dX1_settleLast_97 rfl (lv_at hl 1 rfl) ?_
        obtain ⟨r22, hu, hf⟩ := bd1_some hf
        refine zRi (va_runV (As := [.int x4, .int x3]) (rest := []) hC (c_X1_shareSquare l G a_this a_this_squareBits a_this_terms a_this_terms_parts a_this_prices a_this_clashes a_this_starBits a_this_heldBits (v_squareBits) (v_terms_most) (v_terms_size) (v_terms_parts) (x4) (x3) r22 hu) (cwV 2 hts gX1_settleLast_X1_shareSquare rfl rfl rfl hd_X1_shareSquare ⟨(Nat.le_of_ble_eq_true rfl), (Nat.le_of_ble_eq_true rfl)⟩) (zPV hE hP [0, 3, 1, 5] rfl 0 rfl rfl) rfl rfl hl.1 rfl (lv_room (Nat.le_of_ble_eq_true rfl)) dX1_settleLast_98 ⟨Nat.zero_le _, Nat.zero_le _⟩) ?_
        refine lv_if_eq (tgt := 117) hx hb dX1_settleLast_101 (by decide) (fun hc23 => ?_) (fun hc23 => ?_)
        · have hf := if_t hf hc23
          exact j117 (x3) (v_prices) (v_squareBits) (f_X1_settleLast_b88 v_terms_size v_terms_parts x3 v_prices v_squareBits n88) ih (x4) (v_clashes) ls (lv_sub hl [0, 1, 2] rfl) _ _ hP hD hS hf
        · have hf := if_f hf hc23
          refine lv_aload_n hx hb dX1_settleLast_104 rfl (lv_at hl 0 rfl) ?_
          refine va_get (D := G.1) (ci := 1) (v := .ref a_this_clashes) (C := RX1) (T := TX1) (N := 6) hx hb hts inX1 hown hK hP 0 rfl rfl 3 (by decide) lk27 (fun _ h9 => h9) rfl dX1_settleLast_105 ?_
          refine lv_iload_n hx hb dX1_settleLast_108 rfl (lv_at hl 1 rfl) ?_
          refine lv_dup2_11 hx hb dX1_settleLast_109 rfl rfl ?_
          obtain ⟨hg24, hf⟩ := gd_some hf
          refine va_iald hx hb hK hP 4 0 rfl rfl (inB_in hg24) dX1_settleLast_110 ?_
          refine lv_iconst (v := (1 : Int32)) hx hb dX1_settleLast_111 (by decide) ?_
          refine lv_iload hx hb dX1_settleLast_112 (lv_at hl 2 rfl) ?_
          refine lv_ishl hx hb dX1_settleLast_114 ?_
          refine lv_ior hx hb dX1_settleLast_115 ?_
          obtain ⟨hg25, hf⟩ := gd_some hf
          refine z_iast hx hb hK hP hD hS 4 0 rfl rfl (inB_in hg25) dX1_settleLast_116 (fun gg => [(a_this, .inr (1, [.ref a_this_terms, .ref a_this_prices, .ref a_this_squareBits, .ref a_this_clashes, .ref a_this_starBits, .ref a_this_heldBits])), (a_this_terms, .inr (6, [.int v_terms_most, .ref a_this_terms_parts, .int v_terms_size])), (a_this_prices, .inl (G.2.1, 8, .inl v_prices)), (a_this_squareBits, .inl (G.2.1, 8, .inl v_squareBits)), (a_this_clashes, .inl (G.2.1, 8, .inl gg)), (a_this_terms_parts, .inl (G.2.1, 50, .inl v_terms_parts))]) (fun gg => rfl) (fun y26 H locs ey26 hP hD hS => ?_)
          have hf := nm_to hf ey26
          have hP : va_P G.1 vwCl [(a_this, .inr (1, [.ref a_this_terms, .ref a_this_prices, .ref a_this_squareBits, .ref a_this_clashes, .ref a_this_starBits, .ref a_this_heldBits])), (a_this_terms, .inr (6, [.int v_terms_most, .ref a_this_terms_parts, .int v_terms_size])), (a_this_prices, .inl (G.2.1, 8, .inl v_prices)), (a_this_squareBits, .inl (G.2.1, 8, .inl v_squareBits)), (a_this_clashes, .inl (G.2.1, 8, .inl y26)), (a_this_terms_parts, .inl (G.2.1, 50, .inl v_terms_parts))] H := hP
          have hD : va_D A [(a_this, .inr (1, [.ref a_this_terms, .ref a_this_prices, .ref a_this_squareBits, .ref a_this_clashes, .ref a_this_starBits, .ref a_this_heldBits])), (a_this_terms, .inr (6, [.int v_terms_most, .ref a_this_terms_parts, .int v_terms_size])), (a_this_prices, .inl (G.2.1, 8, .inl v_prices)), (a_this_squareBits, .inl (G.2.1, 8, .inl v_squareBits)), (a_this_clashes, .inl (G.2.1, 8, .inl y26)), (a_this_terms_parts, .inl (G.2.1, 50, .inl v_terms_parts))] := hD
          exact j117 (x3) (v_prices) (v_squareBits) (f_X1_settleLast_b88 v_terms_size v_terms_parts x3 v_prices v_squareBits n88) ih (x4) (y26) ls (lv_sub hl [0, 1, 2] rfl) _ _ hP hD hS hf
  have j39 : ∀ (x2 : Int32), ∀ (x3 : Int32), ∀ (v_prices : (Nat → Int32)), ∀ (v_clashes : (Nat → Int32)), ∀ (nn : Nat), ∀ (x4 : Int32), ∀ (v_squareBits : (Nat → Int32)), ∀ (ls : Array Slot), lv_has ls 5 [(0, .ref a_this), (2, .int x2), (3, .int x3), (4, .int x4)] → ∀ (H : Heap) (locs : List Loc), va_P G.1 vwCl [(a_this, .inr (1, [.ref a_this_terms, .ref a_this_prices, .ref a_this_squareBits, .ref a_this_clashes, .ref a_this_starBits, .ref a_this_heldBits])), (a_this_terms, .inr (6, [.int v_terms_most, .ref a_this_terms_parts, .int v_terms_size])), (a_this_prices, .inl (G.2.1, 8, .inl v_prices)), (a_this_squareBits, .inl (G.2.1, 8, .inl v_squareBits)), (a_this_clashes, .inl (G.2.1, 8, .inl v_clashes)), (a_this_terms_parts, .inl (G.2.1, 50, .inl v_terms_parts))] H → va_D A [(a_this, .inr (1, [.ref a_this_terms, .ref a_this_prices, .ref a_this_squareBits, .ref a_this_clashes, .ref a_this_starBits, .ref a_this_heldBits])), (a_this_terms, .inr (6, [.int v_terms_most, .ref a_this_terms_parts, .int v_terms_size])), (a_this_prices, .inl (G.2.1, 8, .inl v_prices)), (a_this_squareBits, .inl (G.2.1, 8, .inl v_squareBits)), (a_this_clashes, .inl (G.2.1, 8, .inl v_clashes)), (a_this_terms_parts, .inl (G.2.1, 50, .inl v_terms_parts))] → va_S A s.heap H locs → f_X1_settleLast_b39 v_terms_size v_terms_parts x2 x3 v_prices v_clashes nn x4 v_squareBits = some (R1, R2, R3) → W p l e rm_X1_settleLast s m args below meth c H locs 0 0 QQ (F0 m 39 ls []) := by
    intro x2 x3 v_prices v_clashes
    intro nn
    induction nn with
    | zero =>
      intro x4 v_squareBits ls hl H locs hP hD hS hf
      rw [f_X1_settleLast_b39] at hf
      cases hf
    | succ n39 ih =>
      intro x4 v_squareBits ls hl H locs hP hD hS hf
      rw [f_X1_settleLast_b39] at hf
      refine lv_iload hx hb dX1_settleLast_39 (lv_at hl 3 rfl) ?_
      refine lv_iload_n hx hb dX1_settleLast_41 rfl (lv_at hl 1 rfl) ?_
      refine lv_icmp_ge (tgt := 78) hx hb dX1_settleLast_42 (by decide) (fun hc27 => ?_) (fun hc27 => ?_)
      · have hf := if_t hf hc27
        refine lv_aload_n hx hb dX1_settleLast_78 rfl (lv_at hl 0 rfl) ?_
        refine va_get (D := G.1) (ci := 1) (v := .ref a_this_clashes) (C := RX1) (T := TX1) (N := 6) hx hb hts inX1 hown hK hP 0 rfl rfl 3 (by decide) lk27 (fun _ h9 => h9) rfl dX1_settleLast_79 ?_
        refine lv_iload_n hx hb dX1_settleLast_82 rfl (lv_at hl 2 rfl) ?_
        refine lv_iconst (v := (0 : Int32)) hx hb dX1_settleLast_83 (by decide) ?_
        obtain ⟨hg28, hf⟩ := gd_some hf
        refine z_iast hx hb hK hP hD hS 4 0 rfl rfl (inB_in hg28) dX1_settleLast_84 (fun gg => [(a_this, .inr (1, [.ref a_this_terms, .ref a_this_prices, .ref a_this_squareBits, .ref a_this_clashes, .ref a_this_starBits, .ref a_this_heldBits])), (a_this_terms, .inr (6, [.int v_terms_most, .ref a_this_terms_parts, .int v_terms_size])), (a_this_prices, .inl (G.2.1, 8, .inl v_prices)), (a_this_squareBits, .inl (G.2.1, 8, .inl v_squareBits)), (a_this_clashes, .inl (G.2.1, 8, .inl gg)), (a_this_terms_parts, .inl (G.2.1, 50, .inl v_terms_parts))]) (fun gg => rfl) (fun y29 H locs ey29 hP hD hS => ?_)
        have hf := nm_to hf ey29
        have hP : va_P G.1 vwCl [(a_this, .inr (1, [.ref a_this_terms, .ref a_this_prices, .ref a_this_squareBits, .ref a_this_clashes, .ref a_this_starBits, .ref a_this_heldBits])), (a_this_terms, .inr (6, [.int v_terms_most, .ref a_this_terms_parts, .int v_terms_size])), (a_this_prices, .inl (G.2.1, 8, .inl v_prices)), (a_this_squareBits, .inl (G.2.1, 8, .inl v_squareBits)), (a_this_clashes, .inl (G.2.1, 8, .inl y29)), (a_this_terms_parts, .inl (G.2.1, 50, .inl v_terms_parts))] H := hP
        have hD : va_D A [(a_this, .inr (1, [.ref a_this_terms, .ref a_this_prices, .ref a_this_squareBits, .ref a_this_clashes, .ref a_this_starBits, .ref a_this_heldBits])), (a_this_terms, .inr (6, [.int v_terms_most, .ref a_this_terms_parts, .int v_terms_size])), (a_this_prices, .inl (G.2.1, 8, .inl v_prices)), (a_this_squareBits, .inl (G.2.1, 8, .inl v_squareBits)), (a_this_clashes, .inl (G.2.1, 8, .inl y29)), (a_this_terms_parts, .inl (G.2.1, 50, .inl v_terms_parts))] := hD
        refine lv_iconst (v := (0 : Int32)) hx hb dX1_settleLast_85 (by decide) ?_
        refine lv_istore (lv' := [(4, .int (0 : Int32)), (0, .ref a_this), (2, .int x2), (3, .int x3)]) hx hb dX1_settleLast_86 hl (by decide) rfl (fun ls hl => ?_)
        exact j88 (x3) (v_prices) (v_squareBits) zF ((0 : Int32)) (y29) ls (lv_sub hl [1, 3, 0] rfl) _ _ hP hD hS hf
      · have hf := if_f hf hc27
        refine lv_aload_n hx hb dX1_settleLast_45 rfl (lv_at hl 0 rfl) ?_
        refine va_get (D := G.1) (ci := 1) (v := .ref a_this_terms) (C := RX1) (T := TX1) (N := 6) hx hb hts inX1 hown hK hP 0 rfl rfl 0 (by decide) lk14 (fun _ h9 => h9) rfl dX1_settleLast_46 ?_
        refine lv_iload_n hx hb dX1_settleLast_49 rfl (lv_at hl 2 rfl) ?_
        refine lv_iload hx hb dX1_settleLast_50 (lv_at hl 3 rfl) ?_
        refine lv_iload_n hx hb dX1_settleLast_52 rfl (lv_at hl 1 rfl) ?_
        obtain ⟨r30, hu, hf⟩ := bd1_some hf
        refine zRi (va_runV (As := [.int x3, .int x4, .int x2]) (rest := []) hC (c_X6_hasSquare l G a_this_terms a_this_terms_parts (v_terms_most) (v_terms_size) (v_terms_parts) (x3) (x4) (x2) r30 hu) (cwV 3 hts gX1_settleLast_X6_hasSquare rfl rfl rfl hd_X6_hasSquare ⟨(Nat.le_of_ble_eq_true rfl), (Nat.le_of_ble_eq_true rfl)⟩) (zPV hE hP [1, 5] rfl 1 rfl rfl) rfl rfl hl.1 rfl (lv_room (Nat.le_of_ble_eq_true rfl)) dX1_settleLast_53 ⟨Nat.zero_le _, Nat.zero_le _⟩) ?_
        refine lv_if_eq (tgt := 72) hx hb dX1_settleLast_56 (by decide) (fun hc31 => ?_) (fun hc31 => ?_)
        · have hf := if_t hf hc31
          exact j72 (x2) (x3) (v_prices) (v_clashes) (f_X1_settleLast_b39 v_terms_size v_terms_parts x2 x3 v_prices v_clashes n39) ih (x4) (v_squareBits) ls (lv_sub hl [0, 1, 2, 3] rfl) _ _ hP hD hS hf
        · have hf := if_f hf hc31
          refine lv_aload_n hx hb dX1_settleLast_59 rfl (lv_at hl 0 rfl) ?_
          refine va_get (D := G.1) (ci := 1) (v := .ref a_this_squareBits) (C := RX1) (T := TX1) (N := 6) hx hb hts inX1 hown hK hP 0 rfl rfl 2 (by decide) lk24 (fun _ h9 => h9) rfl dX1_settleLast_60 ?_
          refine lv_iload_n hx hb dX1_settleLast_63 rfl (lv_at hl 2 rfl) ?_
          refine lv_dup2_11 hx hb dX1_settleLast_64 rfl rfl ?_
          obtain ⟨hg32, hf⟩ := gd_some hf
          refine va_iald hx hb hK hP 3 0 rfl rfl (inB_in hg32) dX1_settleLast_65 ?_
          refine lv_iconst (v := (1 : Int32)) hx hb dX1_settleLast_66 (by decide) ?_
          refine lv_iload hx hb dX1_settleLast_67 (lv_at hl 3 rfl) ?_
          refine lv_ishl hx hb dX1_settleLast_69 ?_
          refine lv_ior hx hb dX1_settleLast_70 ?_
          obtain ⟨hg33, hf⟩ := gd_some hf
          refine z_iast hx hb hK hP hD hS 3 0 rfl rfl (inB_in hg33) dX1_settleLast_71 (fun gg => [(a_this, .inr (1, [.ref a_this_terms, .ref a_this_prices, .ref a_this_squareBits, .ref a_this_clashes, .ref a_this_starBits, .ref a_this_heldBits])), (a_this_terms, .inr (6, [.int v_terms_most, .ref a_this_terms_parts, .int v_terms_size])), (a_this_prices, .inl (G.2.1, 8, .inl v_prices)), (a_this_squareBits, .inl (G.2.1, 8, .inl gg)), (a_this_clashes, .inl (G.2.1, 8, .inl v_clashes)), (a_this_terms_parts, .inl (G.2.1, 50, .inl v_terms_parts))]) (fun gg => rfl) (fun y34 H locs ey34 hP hD hS => ?_)
          have hf := nm_to hf ey34
          have hP : va_P G.1 vwCl [(a_this, .inr (1, [.ref a_this_terms, .ref a_this_prices, .ref a_this_squareBits, .ref a_this_clashes, .ref a_this_starBits, .ref a_this_heldBits])), (a_this_terms, .inr (6, [.int v_terms_most, .ref a_this_terms_parts, .int v_terms_size])), (a_this_prices, .inl (G.2.1, 8, .inl v_prices)), (a_this_squareBits, .inl (G.2.1, 8, .inl y34)), (a_this_clashes, .inl (G.2.1, 8, .inl v_clashes)), (a_this_terms_parts, .inl (G.2.1, 50, .inl v_terms_parts))] H := hP
          have hD : va_D A [(a_this, .inr (1, [.ref a_this_terms, .ref a_this_prices, .ref a_this_squareBits, .ref a_this_clashes, .ref a_this_starBits, .ref a_this_heldBits])), (a_this_terms, .inr (6, [.int v_terms_most, .ref a_this_terms_parts, .int v_terms_size])), (a_this_prices, .inl (G.2.1, 8, .inl v_prices)), (a_this_squareBits, .inl (G.2.1, 8, .inl y34)), (a_this_clashes, .inl (G.2.1, 8, .inl v_clashes)), (a_this_terms_parts, .inl (G.2.1, 50, .inl v_terms_parts))] := hD
          exact j72 (x2) (x3) (v_prices) (v_clashes) (f_X1_settleLast_b39 v_terms_size v_terms_parts x2 x3 v_prices v_clashes n39) ih (x4) (y34) ls (lv_sub hl [0, 1, 2, 3] rfl) _ _ hP hD hS hf
  have hSH := hS
  unfold f_X1_settleLast at hf
  refine lv_aload_n hx hb dX1_settleLast_0 rfl (lv_at hl 0 rfl) ?_
  refine va_get (D := G.1) (ci := 1) (v := .ref a_this_terms) (C := RX1) (T := TX1) (N := 6) hx hb hts inX1 hown hK hP 0 rfl rfl 0 (by decide) lk14 (fun _ h9 => h9) rfl dX1_settleLast_1 ?_
  refine va_get (D := G.1) (ci := 6) (v := .int v_terms_size) (C := RX6) (T := TX6) (N := 3) hx hb hts inX6 hown hK hP 1 rfl rfl 2 (by decide) lk36 (fun _ h9 => h9) rfl dX1_settleLast_4 ?_
  refine lv_iconst (v := (1 : Int32)) hx hb dX1_settleLast_7 (by decide) ?_
  refine lv_isub hx hb dX1_settleLast_8 ?_
  refine lv_istore_n (lv' := [(3, .int (v_terms_size - (1 : Int32))), (0, .ref a_this), (1, .int g1), (2, .int g2)]) hx hb dX1_settleLast_9 rfl hl (by decide) rfl (fun ls hl => ?_)
  refine lv_aload_n hx hb dX1_settleLast_10 rfl (lv_at hl 1 rfl) ?_
  refine va_get (D := G.1) (ci := 1) (v := .ref a_this_terms) (C := RX1) (T := TX1) (N := 6) hx hb hts inX1 hown hK hP 0 rfl rfl 0 (by decide) lk14 (fun _ h9 => h9) rfl dX1_settleLast_11 ?_
  refine lv_iload_n hx hb dX1_settleLast_14 rfl (lv_at hl 0 rfl) ?_
  obtain ⟨r35, hu, hf⟩ := bd1_some hf
  refine zRi (va_runV (As := [.int (v_terms_size - (1 : Int32))]) (rest := []) hC (c_X6_has l G a_this_terms a_this_terms_parts (v_terms_most) (v_terms_size) ((v_terms_size - (1 : Int32))) r35 hu) (cwV 1 hts gX1_settleLast_X6_has rfl rfl rfl hd_X6_has ⟨(Nat.le_of_ble_eq_true rfl), (Nat.le_of_ble_eq_true rfl)⟩) (zPV hE hP [1] rfl 1 rfl rfl) rfl rfl hl.1 rfl (lv_room (Nat.le_of_ble_eq_true rfl)) dX1_settleLast_15 ⟨Nat.zero_le _, Nat.zero_le _⟩) ?_
  refine lv_if_ne (tgt := 22) hx hb dX1_settleLast_18 (by decide) (fun hc36 => ?_) (fun hc36 => ?_)
  · have hf := if_f hf hc36
    refine lv_aload_n hx hb dX1_settleLast_22 rfl (lv_at hl 1 rfl) ?_
    refine va_get (D := G.1) (ci := 1) (v := .ref a_this_prices) (C := RX1) (T := TX1) (N := 6) hx hb hts inX1 hown hK hP 0 rfl rfl 1 (by decide) lk20 (fun _ h9 => h9) rfl dX1_settleLast_23 ?_
    refine lv_iload_n hx hb dX1_settleLast_26 rfl (lv_at hl 0 rfl) ?_
    refine lv_iload_n hx hb dX1_settleLast_27 rfl (lv_at hl 2 rfl) ?_
    obtain ⟨hg37, hf⟩ := gd_some hf
    refine z_iast hx hb hK hP hD hS 2 0 rfl rfl (inB_in hg37) dX1_settleLast_28 (fun gg => [(a_this, .inr (1, [.ref a_this_terms, .ref a_this_prices, .ref a_this_squareBits, .ref a_this_clashes, .ref a_this_starBits, .ref a_this_heldBits])), (a_this_terms, .inr (6, [.int v_terms_most, .ref a_this_terms_parts, .int v_terms_size])), (a_this_prices, .inl (G.2.1, 8, .inl gg)), (a_this_squareBits, .inl (G.2.1, 8, .inl v_squareBits)), (a_this_clashes, .inl (G.2.1, 8, .inl v_clashes)), (a_this_terms_parts, .inl (G.2.1, 50, .inl v_terms_parts))]) (fun gg => rfl) (fun y38 H locs ey38 hP hD hS => ?_)
    have hf := nm_to hf ey38
    have hP : va_P G.1 vwCl [(a_this, .inr (1, [.ref a_this_terms, .ref a_this_prices, .ref a_this_squareBits, .ref a_this_clashes, .ref a_this_starBits, .ref a_this_heldBits])), (a_this_terms, .inr (6, [.int v_terms_most, .ref a_this_terms_parts, .int v_terms_size])), (a_this_prices, .inl (G.2.1, 8, .inl y38)), (a_this_squareBits, .inl (G.2.1, 8, .inl v_squareBits)), (a_this_clashes, .inl (G.2.1, 8, .inl v_clashes)), (a_this_terms_parts, .inl (G.2.1, 50, .inl v_terms_parts))] H := hP
    have hD : va_D A [(a_this, .inr (1, [.ref a_this_terms, .ref a_this_prices, .ref a_this_squareBits, .ref a_this_clashes, .ref a_this_starBits, .ref a_this_heldBits])), (a_this_terms, .inr (6, [.int v_terms_most, .ref a_this_terms_parts, .int v_terms_size])), (a_this_prices, .inl (G.2.1, 8, .inl y38)), (a_this_squareBits, .inl (G.2.1, 8, .inl v_squareBits)), (a_this_clashes, .inl (G.2.1, 8, .inl v_clashes)), (a_this_terms_parts, .inl (G.2.1, 50, .inl v_terms_parts))] := hD
    refine lv_aload_n hx hb dX1_settleLast_29 rfl (lv_at hl 1 rfl) ?_
    refine va_get (D := G.1) (ci := 1) (v := .ref a_this_squareBits) (C := RX1) (T := TX1) (N := 6) hx hb hts inX1 hown hK hP 0 rfl rfl 2 (by decide) lk24 (fun _ h9 => h9) rfl dX1_settleLast_30 ?_
    refine lv_iload_n hx hb dX1_settleLast_33 rfl (lv_at hl 0 rfl) ?_
    refine lv_iconst (v := (0 : Int32)) hx hb dX1_settleLast_34 (by decide) ?_
    obtain ⟨hg39, hf⟩ := gd_some hf
    refine z_iast hx hb hK hP hD hS 3 0 rfl rfl (inB_in hg39) dX1_settleLast_35 (fun gg => [(a_this, .inr (1, [.ref a_this_terms, .ref a_this_prices, .ref a_this_squareBits, .ref a_this_clashes, .ref a_this_starBits, .ref a_this_heldBits])), (a_this_terms, .inr (6, [.int v_terms_most, .ref a_this_terms_parts, .int v_terms_size])), (a_this_prices, .inl (G.2.1, 8, .inl y38)), (a_this_squareBits, .inl (G.2.1, 8, .inl gg)), (a_this_clashes, .inl (G.2.1, 8, .inl v_clashes)), (a_this_terms_parts, .inl (G.2.1, 50, .inl v_terms_parts))]) (fun gg => rfl) (fun y40 H locs ey40 hP hD hS => ?_)
    have hf := nm_to hf ey40
    have hP : va_P G.1 vwCl [(a_this, .inr (1, [.ref a_this_terms, .ref a_this_prices, .ref a_this_squareBits, .ref a_this_clashes, .ref a_this_starBits, .ref a_this_heldBits])), (a_this_terms, .inr (6, [.int v_terms_most, .ref a_this_terms_parts, .int v_terms_size])), (a_this_prices, .inl (G.2.1, 8, .inl y38)), (a_this_squareBits, .inl (G.2.1, 8, .inl y40)), (a_this_clashes, .inl (G.2.1, 8, .inl v_clashes)), (a_this_terms_parts, .inl (G.2.1, 50, .inl v_terms_parts))] H := hP
    have hD : va_D A [(a_this, .inr (1, [.ref a_this_terms, .ref a_this_prices, .ref a_this_squareBits, .ref a_this_clashes, .ref a_this_starBits, .ref a_this_heldBits])), (a_this_terms, .inr (6, [.int v_terms_most, .ref a_this_terms_parts, .int v_terms_size])), (a_this_prices, .inl (G.2.1, 8, .inl y38)), (a_this_squareBits, .inl (G.2.1, 8, .inl y40)), (a_this_clashes, .inl (G.2.1, 8, .inl v_clashes)), (a_this_terms_parts, .inl (G.2.1, 50, .inl v_terms_parts))] := hD
    refine lv_iconst (v := (0 : Int32)) hx hb dX1_settleLast_36 (by decide) ?_
    refine lv_istore (lv' := [(4, .int (0 : Int32)), (3, .int (v_terms_size - (1 : Int32))), (0, .ref a_this), (1, .int g1), (2, .int g2)]) hx hb dX1_settleLast_37 hl (by decide) rfl (fun ls hl => ?_)
    exact j39 (g2) ((v_terms_size - (1 : Int32))) (y38) (v_clashes) zF ((0 : Int32)) (y40) ls (lv_sub hl [2, 4, 1, 0] rfl) _ _ hP hD hS hf
  · have hf := if_t hf hc36
    obtain ⟨hr0, hr1, hr2⟩ := so3 hf
    subst hr0
    subst hr1
    subst hr2
    rw [← hQ]
    exact W.vret hx hb hr (fun t ht hW => ⟨⟨rfl, by rw [ht]; exact hP⟩, hS.F ht⟩) hS.2.2 dX1_settleLast_21
def f_X1_isIn   (g0 : Int32) (g1 : Int32) : Option (Int32) := if ((g0 >>> (g1 &&& (31 : Int32))) &&& (1 : Int32)) = (1 : Int32) then (some ((1 : Int32))) else (some ((0 : Int32)))
abbrev rm_X1_isIn : Room := { frames := 0, cells := 0, slots := 0, locals := 0 }
set_option maxHeartbeats 4000000 in
set_option maxRecDepth 100000 in
theorem c_X1_isIn (l : Launch) (G : zG) (g0 : Int32) (g1 : Int32) (R0 : Int32) (hf : f_X1_isIn g0 g1 = some R0) : Met l yX1_isIn wsX1_isIn rm_X1_isIn (va_Pc [.int g0, .int g1] (zR G [])) (zSv (some (.int R0))) 0 0 (fun _ => False) := by
  refine Met.ofW (cc := cX1_isIn) (maxL := 2) (ret := (some .boolean)) (by decide) rfl ?_
  intro p e s m args below meth c s₁ B hml hv
  obtain ⟨hargs, hP, hE⟩ := hv
  have hx := B.exec
  have hb := B.bytes
  have hr := B.returns
  have hts := atoms_spec (ws := wsX1_isIn) B.pre
  have hown : s.vm.findClass RX1 = some m.cls := findClass_of_methodNamed B.named
  have hlocks := B.notSynchronized
  have hK := hE.1
  have hC : CallFix p m c cX1_isIn 2 s args wsX1_isIn RX1 := ⟨hx, hb, hml, hown, hts⟩
  have hl := lv_entry ([.int g0, .int g1]) (n := 2) (Nat.le_of_ble_eq_true rfl)
  have hent : entryFrame m args 2 = F0 m 0 ((lg_sl ([.int g0, .int g1]) ++ List.replicate (2 - (lg_sl ([.int g0, .int g1])).length) Slot.unset).toArray) [] := by rw [hargs]; exact lg_entry_eq m [.int g0, .int g1] 2
  refine W.eq hent ?_
  clear hent
  generalize (lg_sl ([.int g0, .int g1]) ++ List.replicate (2 - (lg_sl ([.int g0, .int g1])).length) Slot.unset).toArray = ls at hl ⊢
  have hl : lv_has ls 2 [(0, .int g0), (1, .int g1)] := hl
  generalize hQ : MQ below _ args s 0 0 _ = QQ
  change W p l e rm_X1_isIn s m args below meth c s.heap [] 0 0 QQ _
  unfold f_X1_isIn at hf
  refine lv_iload_n hx hb dX1_isIn_0 rfl (lv_at hl 0 rfl) ?_
  refine lv_iload_n hx hb dX1_isIn_1 rfl (lv_at hl 1 rfl) ?_
  refine lv_ishr hx hb dX1_isIn_2 ?_
  refine lv_iconst (v := (1 : Int32)) hx hb dX1_isIn_3 (by decide) ?_
  refine lv_iand hx hb dX1_isIn_4 ?_
  refine lv_iconst (v := (1 : Int32)) hx hb dX1_isIn_5 (by decide) ?_
  refine lv_icmp_ne (tgt := 13) hx hb dX1_isIn_6 (by decide) (fun hc2 => ?_) (fun hc2 => ?_)
  · have hf := if_f hf hc2
    refine lv_iconst (v := (0 : Int32)) hx hb dX1_isIn_13 (by decide) ?_
    have hr0 := so1 hf
    subst hr0
    rw [← hQ]
    exact W.zret (v := (0 : Int32)) hx hb hr rfl (fun t ht hW => ⟨rfl, ht⟩) (fun _ h => by cases h) dX1_isIn_14
  · have hf := if_t hf hc2
    refine lv_iconst (v := (1 : Int32)) hx hb dX1_isIn_9 (by decide) ?_
    refine lv_goto (tgt := 14) hx hb dX1_isIn_10 (by decide) ?_
    have hr0 := so1 hf
    subst hr0
    rw [← hQ]
    exact W.zret (v := (1 : Int32)) hx hb hr rfl (fun t ht hW => ⟨rfl, ht⟩) (fun _ h => by cases h) dX1_isIn_14
theorem hd_X1_isIn : yX1_isIn.cls = RX1 ∧ yX1_isIn.cls ≠ "java/lang/invoke/MethodHandle" ∧ yX1_isIn.cls ≠ "java/lang/invoke/VarHandle" ∧ (parseMethodDescriptor yX1_isIn.desc).map (fun d => d.parameters.length) = some 2 := by decide +kernel
def f_X1_priceOf_b34  (k4 : Int32 → Int32 → Option (Int32))  (x3 : Int32) (t0 : Int32) (t1 : Int32) : Option (Int32) := k4 ((t0 + t1)) ((x3 + (1 : Int32)))
def f_X1_priceOf_b4 (v_terms_size : Int32) (v_prices : (Nat → Int32))  (x1 : Int32) : Nat → Int32 → Int32 → Option (Int32)
  | 0, _, _ => none
  | n4 + 1, x2, x3 => if v_terms_size ≤ x3 then (some (x2)) else (bd1 (f_X1_isIn (x1) (x3)) fun r6 => if r6 = (0 : Int32) then (f_X1_priceOf_b34 (f_X1_priceOf_b4 v_terms_size v_prices x1 n4) (x3) (x2) ((0 : Int32))) else (gd (inB x3 8) (f_X1_priceOf_b34 (f_X1_priceOf_b4 v_terms_size v_prices x1 n4) (x3) (x2) ((v_prices (x3).toNatClampNeg)))))
def f_X1_priceOf  (v_terms_size : Int32) (v_prices : (Nat → Int32)) (g1 : Int32) : Option (Int32) := f_X1_priceOf_b4 v_terms_size v_prices (g1) zF ((0 : Int32)) ((0 : Int32))
abbrev rm_X1_priceOf : Room := { frames := 1, cells := 0, slots := 0, locals := 21 }
set_option maxHeartbeats 4000000 in
set_option maxRecDepth 100000 in
theorem c_X1_priceOf (l : Launch) (G : zG) (a_this : Nat) (a_this_terms : Nat) (a_this_prices : Nat) (a_this_squareBits : Nat) (a_this_clashes : Nat) (a_this_starBits : Nat) (a_this_heldBits : Nat) (a_this_terms_parts : Nat) (v_terms_most : Int32) (v_terms_size : Int32) (v_prices : (Nat → Int32)) (g1 : Int32) (R0 : Int32) (hf : f_X1_priceOf v_terms_size v_prices g1 = some R0) : Met l yX1_priceOf wsX1_priceOf rm_X1_priceOf (va_Pc [.ref a_this, .int g1] (zR G [(a_this, .inr (1, [.ref a_this_terms, .ref a_this_prices, .ref a_this_squareBits, .ref a_this_clashes, .ref a_this_starBits, .ref a_this_heldBits])), (a_this_terms, .inr (6, [.int v_terms_most, .ref a_this_terms_parts, .int v_terms_size])), (a_this_prices, .inl (G.2.1, 8, .inl v_prices))])) (zSv (some (.int R0))) 0 0 (fun _ => False) := by
  refine Met.ofW (cc := cX1_priceOf) (maxL := 4) (ret := (some .int)) (by decide) rfl ?_
  intro p e s m args below meth c s₁ B hml hv
  obtain ⟨hargs, hP, hE⟩ := hv
  have hx := B.exec
  have hb := B.bytes
  have hr := B.returns
  have hts := atoms_spec (ws := wsX1_priceOf) B.pre
  have hown : s.vm.findClass RX1 = some m.cls := findClass_of_methodNamed B.named
  have hlocks := B.notSynchronized
  have hK := hE.1
  have hC : CallFix p m c cX1_priceOf 4 s args wsX1_priceOf RX1 := ⟨hx, hb, hml, hown, hts⟩
  have inX1 : ∀ w ∈ wsX10, w ∈ wsX1_priceOf := by decide +kernel
  have inX6 : ∀ w ∈ wsX60, w ∈ wsX1_priceOf := by decide +kernel
  have lk14 := hts (.fieldLink RX1 14 "SkyLeases$Offers" "terms" "LSkyLeases$Terms;") (by decide +kernel)
  have lk20 := hts (.fieldLink RX1 20 "SkyLeases$Offers" "prices" "[I") (by decide +kernel)
  have lk36 := hts (.fieldLink RX1 36 "SkyLeases$Terms" "size" "I") (by decide +kernel)
  have hl := lv_entry ([.ref a_this, .int g1]) (n := 4) (Nat.le_of_ble_eq_true rfl)
  have hent : entryFrame m args 4 = F0 m 0 ((lg_sl ([.ref a_this, .int g1]) ++ List.replicate (4 - (lg_sl ([.ref a_this, .int g1])).length) Slot.unset).toArray) [] := by rw [hargs]; exact lg_entry_eq m [.ref a_this, .int g1] 4
  refine W.eq hent ?_
  clear hent
  generalize (lg_sl ([.ref a_this, .int g1]) ++ List.replicate (4 - (lg_sl ([.ref a_this, .int g1])).length) Slot.unset).toArray = ls at hl ⊢
  have hl : lv_has ls 4 [(0, .ref a_this), (1, .int g1)] := hl
  generalize hQ : MQ below _ args s 0 0 _ = QQ
  change W p l e rm_X1_priceOf s m args below meth c s.heap [] 0 0 QQ _
  have j34 : ∀ (x1 : Int32), ∀ (k4 : Int32 → Int32 → Option (Int32)), (∀ (x2 : Int32), ∀ (x3 : Int32), ∀ (ls : Array Slot), lv_has ls 4 [(0, .ref a_this), (1, .int x1), (2, .int x2), (3, .int x3)] → k4 x2 x3 = some R0 → W p l e rm_X1_priceOf s m args below meth c s.heap [] 0 0 QQ (F0 m 4 ls [])) → ∀ (x3 : Int32), ∀ (t0 : Int32), ∀ (t1 : Int32), ∀ (ls : Array Slot), lv_has ls 4 [(0, .ref a_this), (1, .int x1), (3, .int x3)] → f_X1_priceOf_b34 k4 x3 t0 t1 = some R0 → W p l e rm_X1_priceOf s m args below meth c s.heap [] 0 0 QQ (F0 m 34 ls [.int t1, .int t0]) := by
    intro x1 k4 hk4 x3 t0 t1 ls hl hf
    unfold f_X1_priceOf_b34 at hf
    refine lv_iadd hx hb dX1_priceOf_34 ?_
    refine lv_istore_n (lv' := [(2, .int (t0 + t1)), (0, .ref a_this), (1, .int x1), (3, .int x3)]) hx hb dX1_priceOf_35 rfl hl (by decide) rfl (fun ls hl => ?_)
    refine lv_iinc (v := (x3 + (1 : Int32))) (lv' := [(3, .int (x3 + (1 : Int32))), (2, .int (t0 + t1)), (0, .ref a_this), (1, .int x1)]) hx hb dX1_priceOf_36 hl (k := 3) rfl rfl (by decide) rfl (fun ls hl => ?_)
    refine lv_goto (tgt := 4) hx hb dX1_priceOf_39 (by decide) ?_
    exact hk4 ((t0 + t1)) ((x3 + (1 : Int32))) ls (lv_sub hl [2, 3, 1, 0] rfl) hf
  have j4 : ∀ (x1 : Int32), ∀ (nn : Nat), ∀ (x2 : Int32), ∀ (x3 : Int32), ∀ (ls : Array Slot), lv_has ls 4 [(0, .ref a_this), (1, .int x1), (2, .int x2), (3, .int x3)] → f_X1_priceOf_b4 v_terms_size v_prices x1 nn x2 x3 = some R0 → W p l e rm_X1_priceOf s m args below meth c s.heap [] 0 0 QQ (F0 m 4 ls []) := by
    intro x1
    intro nn
    induction nn with
    | zero =>
      intro x2 x3 ls hl hf
      rw [f_X1_priceOf_b4] at hf
      cases hf
    | succ n4 ih =>
      intro x2 x3 ls hl hf
      rw [f_X1_priceOf_b4] at hf
      refine lv_iload_n hx hb dX1_priceOf_4 rfl (lv_at hl 3 rfl) ?_
      refine lv_aload_n hx hb dX1_priceOf_5 rfl (lv_at hl 0 rfl) ?_
      refine va_get (D := G.1) (ci := 1) (v := .ref a_this_terms) (C := RX1) (T := TX1) (N := 6) hx hb hts inX1 hown hK hP 0 rfl rfl 0 (by decide) lk14 (fun _ h9 => h9) rfl dX1_priceOf_6 ?_
      refine va_get (D := G.1) (ci := 6) (v := .int v_terms_size) (C := RX6) (T := TX6) (N := 3) hx hb hts inX6 hown hK hP 1 rfl rfl 2 (by decide) lk36 (fun _ h9 => h9) rfl dX1_priceOf_9 ?_
      refine lv_icmp_ge (tgt := 42) hx hb dX1_priceOf_12 (by decide) (fun hc5 => ?_) (fun hc5 => ?_)
      · have hf := if_t hf hc5
        refine lv_iload_n hx hb dX1_priceOf_42 rfl (lv_at hl 2 rfl) ?_
        have hr0 := so1 hf
        subst hr0
        rw [← hQ]
        exact W.iret (v := x2) hx hb hr (fun t ht hW => ⟨rfl, ht⟩) (fun _ h => by cases h) dX1_priceOf_43
      · have hf := if_f hf hc5
        refine lv_iload_n hx hb dX1_priceOf_15 rfl (lv_at hl 2 rfl) ?_
        refine lv_iload_n hx hb dX1_priceOf_16 rfl (lv_at hl 1 rfl) ?_
        refine lv_iload_n hx hb dX1_priceOf_17 rfl (lv_at hl 3 rfl) ?_
        obtain ⟨r6, hu, hf⟩ := bd1_some hf
        refine zRi (va_runS (As := [.int x1, .int x3]) (rest := [.int x2]) hC (c_X1_isIn l G (x1) (x3) r6 hu) (va_cwS 2 hts gX1_priceOf_X1_isIn rfl rfl rfl hd_X1_isIn.2 ⟨(Nat.le_of_ble_eq_true rfl), (Nat.le_of_ble_eq_true rfl)⟩) (zPS hE hP [] rfl) rfl rfl hl.1 rfl (lv_room (Nat.le_of_ble_eq_true rfl)) dX1_priceOf_18 ⟨Nat.zero_le _, Nat.zero_le _⟩) ?_
        refine lv_if_eq (tgt := 33) hx hb dX1_priceOf_21 (by decide) (fun hc7 => ?_) (fun hc7 => ?_)
        · have hf := if_t hf hc7
          refine lv_iconst (v := (0 : Int32)) hx hb dX1_priceOf_33 (by decide) ?_
          exact j34 (x1) (f_X1_priceOf_b4 v_terms_size v_prices x1 n4) ih (x3) (x2) ((0 : Int32)) ls (lv_sub hl [0, 1, 3] rfl) hf
        · have hf := if_f hf hc7
          refine lv_aload_n hx hb dX1_priceOf_24 rfl (lv_at hl 0 rfl) ?_
          refine va_get (D := G.1) (ci := 1) (v := .ref a_this_prices) (C := RX1) (T := TX1) (N := 6) hx hb hts inX1 hown hK hP 0 rfl rfl 1 (by decide) lk20 (fun _ h9 => h9) rfl dX1_priceOf_25 ?_
          refine lv_iload_n hx hb dX1_priceOf_28 rfl (lv_at hl 3 rfl) ?_
          obtain ⟨hg8, hf⟩ := gd_some hf
          refine va_iald hx hb hK hP 2 0 rfl rfl (inB_in hg8) dX1_priceOf_29 ?_
          refine lv_goto (tgt := 34) hx hb dX1_priceOf_30 (by decide) ?_
          exact j34 (x1) (f_X1_priceOf_b4 v_terms_size v_prices x1 n4) ih (x3) (x2) ((v_prices (x3).toNatClampNeg)) ls (lv_sub hl [0, 1, 3] rfl) hf
  unfold f_X1_priceOf at hf
  refine lv_iconst (v := (0 : Int32)) hx hb dX1_priceOf_0 (by decide) ?_
  refine lv_istore_n (lv' := [(2, .int (0 : Int32)), (0, .ref a_this), (1, .int g1)]) hx hb dX1_priceOf_1 rfl hl (by decide) rfl (fun ls hl => ?_)
  refine lv_iconst (v := (0 : Int32)) hx hb dX1_priceOf_2 (by decide) ?_
  refine lv_istore_n (lv' := [(3, .int (0 : Int32)), (2, .int (0 : Int32)), (0, .ref a_this), (1, .int g1)]) hx hb dX1_priceOf_3 rfl hl (by decide) rfl (fun ls hl => ?_)
  exact j4 (g1) zF ((0 : Int32)) ((0 : Int32)) ls (lv_sub hl [2, 3, 1, 0] rfl) hf
def f_X1_clashesWithin_b34  (k2 : Int32 → Option (Int32))  (x2 : Int32) : Option (Int32) := k2 ((x2 + (1 : Int32)))
def f_X1_clashesWithin_b2 (v_terms_size : Int32) (v_clashes : (Nat → Int32))  (x1 : Int32) : Nat → Int32 → Option (Int32)
  | 0, _ => none
  | n2 + 1, x2 => if v_terms_size ≤ x2 then (some ((0 : Int32))) else (bd1 (f_X1_isIn (x1) (x2)) fun r7 => if r7 = (0 : Int32) then (f_X1_clashesWithin_b34 (f_X1_clashesWithin_b2 v_terms_size v_clashes x1 n2) (x2)) else (gd (inB x2 8) (if ((v_clashes (x2).toNatClampNeg) &&& x1) = (0 : Int32) then (f_X1_clashesWithin_b34 (f_X1_clashesWithin_b2 v_terms_size v_clashes x1 n2) (x2)) else (some ((1 : Int32))))))
def f_X1_clashesWithin  (v_terms_size : Int32) (v_clashes : (Nat → Int32)) (g1 : Int32) : Option (Int32) := f_X1_clashesWithin_b2 v_terms_size v_clashes (g1) zF ((0 : Int32))
abbrev rm_X1_clashesWithin : Room := { frames := 1, cells := 0, slots := 0, locals := 21 }
set_option maxHeartbeats 4000000 in
set_option maxRecDepth 100000 in
theorem c_X1_clashesWithin (l : Launch) (G : zG) (a_this : Nat) (a_this_terms : Nat) (a_this_clashes : Nat) (a_this_prices : Nat) (a_this_squareBits : Nat) (a_this_starBits : Nat) (a_this_heldBits : Nat) (a_this_terms_parts : Nat) (v_terms_most : Int32) (v_terms_size : Int32) (v_clashes : (Nat → Int32)) (g1 : Int32) (R0 : Int32) (hf : f_X1_clashesWithin v_terms_size v_clashes g1 = some R0) : Met l yX1_clashesWithin wsX1_clashesWithin rm_X1_clashesWithin (va_Pc [.ref a_this, .int g1] (zR G [(a_this, .inr (1, [.ref a_this_terms, .ref a_this_prices, .ref a_this_squareBits, .ref a_this_clashes, .ref a_this_starBits, .ref a_this_heldBits])), (a_this_terms, .inr (6, [.int v_terms_most, .ref a_this_terms_parts, .int v_terms_size])), (a_this_clashes, .inl (G.2.1, 8, .inl v_clashes))])) (zSv (some (.int R0))) 0 0 (fun _ => False) := by
  refine Met.ofW (cc := cX1_clashesWithin) (maxL := 3) (ret := (some .boolean)) (by decide) rfl ?_
  intro p e s m args below meth c s₁ B hml hv
  obtain ⟨hargs, hP, hE⟩ := hv
  have hx := B.exec
  have hb := B.bytes
  have hr := B.returns
  have hts := atoms_spec (ws := wsX1_clashesWithin) B.pre
  have hown : s.vm.findClass RX1 = some m.cls := findClass_of_methodNamed B.named
  have hlocks := B.notSynchronized
  have hK := hE.1
  have hC : CallFix p m c cX1_clashesWithin 3 s args wsX1_clashesWithin RX1 := ⟨hx, hb, hml, hown, hts⟩
  have inX1 : ∀ w ∈ wsX10, w ∈ wsX1_clashesWithin := by decide +kernel
  have inX6 : ∀ w ∈ wsX60, w ∈ wsX1_clashesWithin := by decide +kernel
  have lk14 := hts (.fieldLink RX1 14 "SkyLeases$Offers" "terms" "LSkyLeases$Terms;") (by decide +kernel)
  have lk27 := hts (.fieldLink RX1 27 "SkyLeases$Offers" "clashes" "[I") (by decide +kernel)
  have lk36 := hts (.fieldLink RX1 36 "SkyLeases$Terms" "size" "I") (by decide +kernel)
  have hl := lv_entry ([.ref a_this, .int g1]) (n := 3) (Nat.le_of_ble_eq_true rfl)
  have hent : entryFrame m args 3 = F0 m 0 ((lg_sl ([.ref a_this, .int g1]) ++ List.replicate (3 - (lg_sl ([.ref a_this, .int g1])).length) Slot.unset).toArray) [] := by rw [hargs]; exact lg_entry_eq m [.ref a_this, .int g1] 3
  refine W.eq hent ?_
  clear hent
  generalize (lg_sl ([.ref a_this, .int g1]) ++ List.replicate (3 - (lg_sl ([.ref a_this, .int g1])).length) Slot.unset).toArray = ls at hl ⊢
  have hl : lv_has ls 3 [(0, .ref a_this), (1, .int g1)] := hl
  generalize hQ : MQ below _ args s 0 0 _ = QQ
  change W p l e rm_X1_clashesWithin s m args below meth c s.heap [] 0 0 QQ _
  have j34 : ∀ (x1 : Int32), ∀ (k2 : Int32 → Option (Int32)), (∀ (x2 : Int32), ∀ (ls : Array Slot), lv_has ls 3 [(0, .ref a_this), (1, .int x1), (2, .int x2)] → k2 x2 = some R0 → W p l e rm_X1_clashesWithin s m args below meth c s.heap [] 0 0 QQ (F0 m 2 ls [])) → ∀ (x2 : Int32), ∀ (ls : Array Slot), lv_has ls 3 [(0, .ref a_this), (1, .int x1), (2, .int x2)] → f_X1_clashesWithin_b34 k2 x2 = some R0 → W p l e rm_X1_clashesWithin s m args below meth c s.heap [] 0 0 QQ (F0 m 34 ls []) := by
    intro x1 k2 hk2 x2 ls hl hf
    unfold f_X1_clashesWithin_b34 at hf
    refine lv_iinc (v := (x2 + (1 : Int32))) (lv' := [(2, .int (x2 + (1 : Int32))), (0, .ref a_this), (1, .int x1)]) hx hb dX1_clashesWithin_34 hl (k := 2) rfl rfl (by decide) rfl (fun ls hl => ?_)
    refine lv_goto (tgt := 2) hx hb dX1_clashesWithin_37 (by decide) ?_
    exact hk2 ((x2 + (1 : Int32))) ls (lv_sub hl [1, 2, 0] rfl) hf
  have j2 : ∀ (x1 : Int32), ∀ (nn : Nat), ∀ (x2 : Int32), ∀ (ls : Array Slot), lv_has ls 3 [(0, .ref a_this), (1, .int x1), (2, .int x2)] → f_X1_clashesWithin_b2 v_terms_size v_clashes x1 nn x2 = some R0 → W p l e rm_X1_clashesWithin s m args below meth c s.heap [] 0 0 QQ (F0 m 2 ls []) := by
    intro x1
    intro nn
    induction nn with
    | zero =>
      intro x2 ls hl hf
      rw [f_X1_clashesWithin_b2] at hf
      cases hf
    | succ n2 ih =>
      intro x2 ls hl hf
      rw [f_X1_clashesWithin_b2] at hf
      refine lv_iload_n hx hb dX1_clashesWithin_2 rfl (lv_at hl 2 rfl) ?_
      refine lv_aload_n hx hb dX1_clashesWithin_3 rfl (lv_at hl 0 rfl) ?_
      refine va_get (D := G.1) (ci := 1) (v := .ref a_this_terms) (C := RX1) (T := TX1) (N := 6) hx hb hts inX1 hown hK hP 0 rfl rfl 0 (by decide) lk14 (fun _ h9 => h9) rfl dX1_clashesWithin_4 ?_
      refine va_get (D := G.1) (ci := 6) (v := .int v_terms_size) (C := RX6) (T := TX6) (N := 3) hx hb hts inX6 hown hK hP 1 rfl rfl 2 (by decide) lk36 (fun _ h9 => h9) rfl dX1_clashesWithin_7 ?_
      refine lv_icmp_ge (tgt := 40) hx hb dX1_clashesWithin_10 (by decide) (fun hc6 => ?_) (fun hc6 => ?_)
      · have hf := if_t hf hc6
        refine lv_iconst (v := (0 : Int32)) hx hb dX1_clashesWithin_40 (by decide) ?_
        have hr0 := so1 hf
        subst hr0
        rw [← hQ]
        exact W.zret (v := (0 : Int32)) hx hb hr rfl (fun t ht hW => ⟨rfl, ht⟩) (fun _ h => by cases h) dX1_clashesWithin_41
      · have hf := if_f hf hc6
        refine lv_iload_n hx hb dX1_clashesWithin_13 rfl (lv_at hl 1 rfl) ?_
        refine lv_iload_n hx hb dX1_clashesWithin_14 rfl (lv_at hl 2 rfl) ?_
        obtain ⟨r7, hu, hf⟩ := bd1_some hf
        refine zRi (va_runS (As := [.int x1, .int x2]) (rest := []) hC (c_X1_isIn l G (x1) (x2) r7 hu) (va_cwS 2 hts gX1_clashesWithin_X1_isIn rfl rfl rfl hd_X1_isIn.2 ⟨(Nat.le_of_ble_eq_true rfl), (Nat.le_of_ble_eq_true rfl)⟩) (zPS hE hP [] rfl) rfl rfl hl.1 rfl (lv_room (Nat.le_of_ble_eq_true rfl)) dX1_clashesWithin_15 ⟨Nat.zero_le _, Nat.zero_le _⟩) ?_
        refine lv_if_eq (tgt := 34) hx hb dX1_clashesWithin_18 (by decide) (fun hc8 => ?_) (fun hc8 => ?_)
        · have hf := if_t hf hc8
          exact j34 (x1) (f_X1_clashesWithin_b2 v_terms_size v_clashes x1 n2) ih (x2) ls (lv_sub hl [0, 1, 2] rfl) hf
        · have hf := if_f hf hc8
          refine lv_aload_n hx hb dX1_clashesWithin_21 rfl (lv_at hl 0 rfl) ?_
          refine va_get (D := G.1) (ci := 1) (v := .ref a_this_clashes) (C := RX1) (T := TX1) (N := 6) hx hb hts inX1 hown hK hP 0 rfl rfl 3 (by decide) lk27 (fun _ h9 => h9) rfl dX1_clashesWithin_22 ?_
          refine lv_iload_n hx hb dX1_clashesWithin_25 rfl (lv_at hl 2 rfl) ?_
          obtain ⟨hg9, hf⟩ := gd_some hf
          refine va_iald hx hb hK hP 2 0 rfl rfl (inB_in hg9) dX1_clashesWithin_26 ?_
          refine lv_iload_n hx hb dX1_clashesWithin_27 rfl (lv_at hl 1 rfl) ?_
          refine lv_iand hx hb dX1_clashesWithin_28 ?_
          refine lv_if_eq (tgt := 34) hx hb dX1_clashesWithin_29 (by decide) (fun hc10 => ?_) (fun hc10 => ?_)
          · have hf := if_t hf hc10
            exact j34 (x1) (f_X1_clashesWithin_b2 v_terms_size v_clashes x1 n2) ih (x2) ls (lv_sub hl [0, 1, 2] rfl) hf
          · have hf := if_f hf hc10
            refine lv_iconst (v := (1 : Int32)) hx hb dX1_clashesWithin_32 (by decide) ?_
            have hr0 := so1 hf
            subst hr0
            rw [← hQ]
            exact W.zret (v := (1 : Int32)) hx hb hr rfl (fun t ht hW => ⟨rfl, ht⟩) (fun _ h => by cases h) dX1_clashesWithin_33
  unfold f_X1_clashesWithin at hf
  refine lv_iconst (v := (0 : Int32)) hx hb dX1_clashesWithin_0 (by decide) ?_
  refine lv_istore_n (lv' := [(2, .int (0 : Int32)), (0, .ref a_this), (1, .int g1)]) hx hb dX1_clashesWithin_1 rfl hl (by decide) rfl (fun ls hl => ?_)
  exact j2 (g1) zF ((0 : Int32)) ls (lv_sub hl [1, 2, 0] rfl) hf
theorem hd_J7_fill_53178 : yJ7_fill_53178.cls = RJ7 ∧ yJ7_fill_53178.cls ≠ "java/lang/invoke/MethodHandle" ∧ yJ7_fill_53178.cls ≠ "java/lang/invoke/VarHandle" ∧ (parseMethodDescriptor yJ7_fill_53178.desc).map (fun d => d.parameters.length) = some 2 := by decide +kernel
def f_X1_isDarkOn_b64  (k10 : Int32 → (Nat → Int32) → Option (Int32 × (Nat → Int32)))  (x3 : Int32) (v_heldBits : (Nat → Int32)) : Option (Int32 × (Nat → Int32)) := k10 ((x3 + (1 : Int32))) (v_heldBits)
def f_X1_isDarkOn_b104  (k72 : Int32 → Option (Int32 × (Nat → Int32)))  (x3 : Int32) : Option (Int32 × (Nat → Int32)) := k72 ((x3 + (1 : Int32)))
def f_X1_isDarkOn_b72 (v_starBits : (Nat → Int32))  (x2 : Int32) (v_heldBits : (Nat → Int32)) : Nat → Int32 → Option (Int32 × (Nat → Int32))
  | 0, _ => none
  | n72 + 1, x3 => if (4 : Int32) ≤ x3 then (some ((0 : Int32), v_heldBits)) else (gd (inB x3 4) (if (v_heldBits (x3).toNatClampNeg) = (0 : Int32) then (f_X1_isDarkOn_b104 (f_X1_isDarkOn_b72 v_starBits x2 v_heldBits n72) (x3)) else (gd (inB x3 4) (gd (inB x2 100) (if ((v_heldBits (x3).toNatClampNeg) &&& (v_starBits (x2).toNatClampNeg)) = (0 : Int32) then (some ((1 : Int32), v_heldBits)) else (f_X1_isDarkOn_b104 (f_X1_isDarkOn_b72 v_starBits x2 v_heldBits n72) (x3)))))))
def f_X1_isDarkOn_b10 (v_terms_size : Int32) (v_terms_parts : (Nat → Int32)) (v_squareBits : (Nat → Int32)) (v_starBits : (Nat → Int32))  (x1 : Int32) (x2 : Int32) : Nat → Int32 → (Nat → Int32) → Option (Int32 × (Nat → Int32))
  | 0, _, _ => none
  | n10 + 1, x3, v_heldBits => if v_terms_size ≤ x3 then (f_X1_isDarkOn_b72 v_starBits (x2) (v_heldBits) zF ((0 : Int32))) else (bd1 (f_X1_isIn (x1) (x3)) fun r25 => if r25 = (0 : Int32) then (f_X1_isDarkOn_b64 (f_X1_isDarkOn_b10 v_terms_size v_terms_parts v_squareBits v_starBits x1 x2 n10) (x3) (v_heldBits)) else (bd1 (f_X6_holds (v_terms_size) (v_terms_parts) (x3) (x2)) fun r27 => if r27 = (0 : Int32) then (f_X1_isDarkOn_b64 (f_X1_isDarkOn_b10 v_terms_size v_terms_parts v_squareBits v_starBits x1 x2 n10) (x3) (v_heldBits)) else (bd1 (f_X6_part (v_terms_size) (v_terms_parts) (x3) ((0 : Int32))) fun r29 => gd (inB r29 4) (gd (inB x3 8) (gd (inB r29 4) (nm (upd v_heldBits (r29).toNatClampNeg ((v_heldBits (r29).toNatClampNeg) ||| (v_squareBits (x3).toNatClampNeg))) fun y33 => f_X1_isDarkOn_b64 (f_X1_isDarkOn_b10 v_terms_size v_terms_parts v_squareBits v_starBits x1 x2 n10) (x3) (y33)))))))
def f_X1_isDarkOn  (v_heldBits : (Nat → Int32)) (v_terms_size : Int32) (v_terms_parts : (Nat → Int32)) (v_squareBits : (Nat → Int32)) (v_starBits : (Nat → Int32)) (g1 : Int32) (g2 : Int32) : Option (Int32 × (Nat → Int32)) := bd1 (f_J7_fill_53178 (v_heldBits) ((0 : Int32))) fun w34 => f_X1_isDarkOn_b10 v_terms_size v_terms_parts v_squareBits v_starBits (g1) (g2) zF ((0 : Int32)) (w34)
abbrev rm_X1_isDarkOn : Room := { frames := 2, cells := 0, slots := 0, locals := 44 }
set_option maxHeartbeats 4000000 in
set_option maxRecDepth 100000 in
theorem c_X1_isDarkOn (l : Launch) (G : zG) (sz : Nat) (a_this : Nat) (a_this_heldBits : Nat) (a_this_terms : Nat) (a_this_terms_parts : Nat) (a_this_squareBits : Nat) (a_this_starBits : Nat) (a_this_prices : Nat) (a_this_clashes : Nat) (v_heldBits : (Nat → Int32)) (v_terms_most : Int32) (v_terms_size : Int32) (v_terms_parts : (Nat → Int32)) (v_squareBits : (Nat → Int32)) (v_starBits : (Nat → Int32)) (g1 : Int32) (g2 : Int32) (R0 : Int32) (R1 : (Nat → Int32)) (hf : f_X1_isDarkOn v_heldBits v_terms_size v_terms_parts v_squareBits v_starBits g1 g2 = some (R0, R1)) : Met l yX1_isDarkOn wsX1_isDarkOn rm_X1_isDarkOn (va_Pc [.ref a_this, .int g1, .int g2] (zB G [(a_this, .inr (1, [.ref a_this_terms, .ref a_this_prices, .ref a_this_squareBits, .ref a_this_clashes, .ref a_this_starBits, .ref a_this_heldBits])), (a_this_heldBits, .inl (G.2.1, 4, .inl v_heldBits)), (a_this_terms, .inr (6, [.int v_terms_most, .ref a_this_terms_parts, .int v_terms_size])), (a_this_terms_parts, .inl (G.2.1, 50, .inl v_terms_parts)), (a_this_squareBits, .inl (G.2.1, 8, .inl v_squareBits)), (a_this_starBits, .inl (G.2.1, 100, .inl v_starBits))] sz)) (zQ G (some (.int R0)) [(a_this, .inr (1, [.ref a_this_terms, .ref a_this_prices, .ref a_this_squareBits, .ref a_this_clashes, .ref a_this_starBits, .ref a_this_heldBits])), (a_this_heldBits, .inl (G.2.1, 4, .inl R1)), (a_this_terms, .inr (6, [.int v_terms_most, .ref a_this_terms_parts, .int v_terms_size])), (a_this_terms_parts, .inl (G.2.1, 50, .inl v_terms_parts)), (a_this_squareBits, .inl (G.2.1, 8, .inl v_squareBits)), (a_this_starBits, .inl (G.2.1, 100, .inl v_starBits))] (va_A [(a_this, .inr (1, [.ref a_this_terms, .ref a_this_prices, .ref a_this_squareBits, .ref a_this_clashes, .ref a_this_starBits, .ref a_this_heldBits])), (a_this_heldBits, .inl (G.2.1, 4, .inl v_heldBits)), (a_this_terms, .inr (6, [.int v_terms_most, .ref a_this_terms_parts, .int v_terms_size])), (a_this_terms_parts, .inl (G.2.1, 50, .inl v_terms_parts)), (a_this_squareBits, .inl (G.2.1, 8, .inl v_squareBits)), (a_this_starBits, .inl (G.2.1, 100, .inl v_starBits))] sz)) 0 0 (va_A [(a_this, .inr (1, [.ref a_this_terms, .ref a_this_prices, .ref a_this_squareBits, .ref a_this_clashes, .ref a_this_starBits, .ref a_this_heldBits])), (a_this_heldBits, .inl (G.2.1, 4, .inl v_heldBits)), (a_this_terms, .inr (6, [.int v_terms_most, .ref a_this_terms_parts, .int v_terms_size])), (a_this_terms_parts, .inl (G.2.1, 50, .inl v_terms_parts)), (a_this_squareBits, .inl (G.2.1, 8, .inl v_squareBits)), (a_this_starBits, .inl (G.2.1, 100, .inl v_starBits))] sz) := by
  refine Met.ofW (cc := cX1_isDarkOn) (maxL := 4) (ret := (some .boolean)) (by decide) rfl ?_
  intro p e s m args below meth c s₁ B hml hv
  obtain ⟨hargs, hsz, hP, hD0, hE⟩ := hv
  have hx := B.exec
  have hb := B.bytes
  have hr := B.returns
  have hts := atoms_spec (ws := wsX1_isDarkOn) B.pre
  have hown : s.vm.findClass RX1 = some m.cls := findClass_of_methodNamed B.named
  have hlocks := B.notSynchronized
  have hK := hE.1
  have hC : CallFix p m c cX1_isDarkOn 4 s args wsX1_isDarkOn RX1 := ⟨hx, hb, hml, hown, hts⟩
  have inX1 : ∀ w ∈ wsX10, w ∈ wsX1_isDarkOn := by decide +kernel
  have inX6 : ∀ w ∈ wsX60, w ∈ wsX1_isDarkOn := by decide +kernel
  have lk14 := hts (.fieldLink RX1 14 "SkyLeases$Offers" "terms" "LSkyLeases$Terms;") (by decide +kernel)
  have lk24 := hts (.fieldLink RX1 24 "SkyLeases$Offers" "squareBits" "[I") (by decide +kernel)
  have lk30 := hts (.fieldLink RX1 30 "SkyLeases$Offers" "starBits" "[I") (by decide +kernel)
  have lk33 := hts (.fieldLink RX1 33 "SkyLeases$Offers" "heldBits" "[I") (by decide +kernel)
  have lk36 := hts (.fieldLink RX1 36 "SkyLeases$Terms" "size" "I") (by decide +kernel)
  subst hsz
  have hD := hD0.self (sz := s.heap.size)
  generalize hAe : va_A [(a_this, .inr (1, [.ref a_this_terms, .ref a_this_prices, .ref a_this_squareBits, .ref a_this_clashes, .ref a_this_starBits, .ref a_this_heldBits])), (a_this_heldBits, .inl (G.2.1, 4, .inl v_heldBits)), (a_this_terms, .inr (6, [.int v_terms_most, .ref a_this_terms_parts, .int v_terms_size])), (a_this_terms_parts, .inl (G.2.1, 50, .inl v_terms_parts)), (a_this_squareBits, .inl (G.2.1, 8, .inl v_squareBits)), (a_this_starBits, .inl (G.2.1, 100, .inl v_starBits))] s.heap.size = A at hD ⊢
  have hA : ∀ q : Nat, s.heap.size ≤ q → A q := fun q h => by rw [← hAe]; exact Or.inr h
  have hS : va_S A s.heap s.heap [] := va_S.rf
  have hP : va_P G.1 vwCl [(a_this, .inr (1, [.ref a_this_terms, .ref a_this_prices, .ref a_this_squareBits, .ref a_this_clashes, .ref a_this_starBits, .ref a_this_heldBits])), (a_this_heldBits, .inl (G.2.1, 4, .inl v_heldBits)), (a_this_terms, .inr (6, [.int v_terms_most, .ref a_this_terms_parts, .int v_terms_size])), (a_this_terms_parts, .inl (G.2.1, 50, .inl v_terms_parts)), (a_this_squareBits, .inl (G.2.1, 8, .inl v_squareBits)), (a_this_starBits, .inl (G.2.1, 100, .inl v_starBits))] s.heap := hP
  have hl := lv_entry ([.ref a_this, .int g1, .int g2]) (n := 4) (Nat.le_of_ble_eq_true rfl)
  have hent : entryFrame m args 4 = F0 m 0 ((lg_sl ([.ref a_this, .int g1, .int g2]) ++ List.replicate (4 - (lg_sl ([.ref a_this, .int g1, .int g2])).length) Slot.unset).toArray) [] := by rw [hargs]; exact lg_entry_eq m [.ref a_this, .int g1, .int g2] 4
  refine W.eq hent ?_
  clear hent
  generalize (lg_sl ([.ref a_this, .int g1, .int g2]) ++ List.replicate (4 - (lg_sl ([.ref a_this, .int g1, .int g2])).length) Slot.unset).toArray = ls at hl ⊢
  have hl : lv_has ls 4 [(0, .ref a_this), (1, .int g1), (2, .int g2)] := hl
  generalize hQ : MQ below _ args s 0 0 _ = QQ
  change W p l e rm_X1_isDarkOn s m args below meth c s.heap [] 0 0 QQ _
  have j64 : ∀ (x1 : Int32), ∀ (x2 : Int32), ∀ (k10 : Int32 → (Nat → Int32) → Option (Int32 × (Nat → Int32))), (∀ (x3 : Int32), ∀ (v_heldBits : (Nat → Int32)), ∀ (ls : Array Slot), lv_has ls 4 [(0, .ref a_this), (1, .int x1), (2, .int x2), (3, .int x3)] → ∀ (H : Heap) (locs : List Loc), va_P G.1 vwCl [(a_this, .inr (1, [.ref a_this_terms, .ref a_this_prices, .ref a_this_squareBits, .ref a_this_clashes, .ref a_this_starBits, .ref a_this_heldBits])), (a_this_heldBits, .inl (G.2.1, 4, .inl v_heldBits)), (a_this_terms, .inr (6, [.int v_terms_most, .ref a_this_terms_parts, .int v_terms_size])), (a_this_terms_parts, .inl (G.2.1, 50, .inl v_terms_parts)), (a_this_squareBits, .inl (G.2.1, 8, .inl v_squareBits)), (a_this_starBits, .inl (G.2.1, 100, .inl v_starBits))] H → va_D A [(a_this, .inr (1, [.ref a_this_terms, .ref a_this_prices, .ref a_this_squareBits, .ref a_this_clashes, .ref a_this_starBits, .ref a_this_heldBits])), (a_this_heldBits, .inl (G.2.1, 4, .inl v_heldBits)), (a_this_terms, .inr (6, [.int v_terms_most, .ref a_this_terms_parts, .int v_terms_size])), (a_this_terms_parts, .inl (G.2.1, 50, .inl v_terms_parts)), (a_this_squareBits, .inl (G.2.1, 8, .inl v_squareBits)), (a_this_starBits, .inl (G.2.1, 100, .inl v_starBits))] → va_S A s.heap H locs → k10 x3 v_heldBits = some (R0, R1) → W p l e rm_X1_isDarkOn s m args below meth c H locs 0 0 QQ (F0 m 10 ls [])) → ∀ (x3 : Int32), ∀ (v_heldBits : (Nat → Int32)), ∀ (ls : Array Slot), lv_has ls 4 [(0, .ref a_this), (1, .int x1), (2, .int x2), (3, .int x3)] → ∀ (H : Heap) (locs : List Loc), va_P G.1 vwCl [(a_this, .inr (1, [.ref a_this_terms, .ref a_this_prices, .ref a_this_squareBits, .ref a_this_clashes, .ref a_this_starBits, .ref a_this_heldBits])), (a_this_heldBits, .inl (G.2.1, 4, .inl v_heldBits)), (a_this_terms, .inr (6, [.int v_terms_most, .ref a_this_terms_parts, .int v_terms_size])), (a_this_terms_parts, .inl (G.2.1, 50, .inl v_terms_parts)), (a_this_squareBits, .inl (G.2.1, 8, .inl v_squareBits)), (a_this_starBits, .inl (G.2.1, 100, .inl v_starBits))] H → va_D A [(a_this, .inr (1, [.ref a_this_terms, .ref a_this_prices, .ref a_this_squareBits, .ref a_this_clashes, .ref a_this_starBits, .ref a_this_heldBits])), (a_this_heldBits, .inl (G.2.1, 4, .inl v_heldBits)), (a_this_terms, .inr (6, [.int v_terms_most, .ref a_this_terms_parts, .int v_terms_size])), (a_this_terms_parts, .inl (G.2.1, 50, .inl v_terms_parts)), (a_this_squareBits, .inl (G.2.1, 8, .inl v_squareBits)), (a_this_starBits, .inl (G.2.1, 100, .inl v_starBits))] → va_S A s.heap H locs → f_X1_isDarkOn_b64 k10 x3 v_heldBits = some (R0, R1) → W p l e rm_X1_isDarkOn s m args below meth c H locs 0 0 QQ (F0 m 64 ls []) := by
    intro x1 x2 k10 hk10 x3 v_heldBits ls hl H locs hP hD hS hf
    unfold f_X1_isDarkOn_b64 at hf
    refine lv_iinc (v := (x3 + (1 : Int32))) (lv' := [(3, .int (x3 + (1 : Int32))), (0, .ref a_this), (1, .int x1), (2, .int x2)]) hx hb dX1_isDarkOn_64 hl (k := 3) rfl rfl (by decide) rfl (fun ls hl => ?_)
    refine lv_goto (tgt := 10) hx hb dX1_isDarkOn_67 (by decide) ?_
    exact hk10 ((x3 + (1 : Int32))) (v_heldBits) ls (lv_sub hl [1, 2, 3, 0] rfl) _ _ hP hD hS hf
  have j104 : ∀ (x2 : Int32), ∀ (v_heldBits : (Nat → Int32)), ∀ (k72 : Int32 → Option (Int32 × (Nat → Int32))), (∀ (x3 : Int32), ∀ (ls : Array Slot), lv_has ls 4 [(0, .ref a_this), (2, .int x2), (3, .int x3)] → ∀ (H : Heap) (locs : List Loc), va_P G.1 vwCl [(a_this, .inr (1, [.ref a_this_terms, .ref a_this_prices, .ref a_this_squareBits, .ref a_this_clashes, .ref a_this_starBits, .ref a_this_heldBits])), (a_this_heldBits, .inl (G.2.1, 4, .inl v_heldBits)), (a_this_terms, .inr (6, [.int v_terms_most, .ref a_this_terms_parts, .int v_terms_size])), (a_this_terms_parts, .inl (G.2.1, 50, .inl v_terms_parts)), (a_this_squareBits, .inl (G.2.1, 8, .inl v_squareBits)), (a_this_starBits, .inl (G.2.1, 100, .inl v_starBits))] H → va_D A [(a_this, .inr (1, [.ref a_this_terms, .ref a_this_prices, .ref a_this_squareBits, .ref a_this_clashes, .ref a_this_starBits, .ref a_this_heldBits])), (a_this_heldBits, .inl (G.2.1, 4, .inl v_heldBits)), (a_this_terms, .inr (6, [.int v_terms_most, .ref a_this_terms_parts, .int v_terms_size])), (a_this_terms_parts, .inl (G.2.1, 50, .inl v_terms_parts)), (a_this_squareBits, .inl (G.2.1, 8, .inl v_squareBits)), (a_this_starBits, .inl (G.2.1, 100, .inl v_starBits))] → va_S A s.heap H locs → k72 x3 = some (R0, R1) → W p l e rm_X1_isDarkOn s m args below meth c H locs 0 0 QQ (F0 m 72 ls [])) → ∀ (x3 : Int32), ∀ (ls : Array Slot), lv_has ls 4 [(0, .ref a_this), (2, .int x2), (3, .int x3)] → ∀ (H : Heap) (locs : List Loc), va_P G.1 vwCl [(a_this, .inr (1, [.ref a_this_terms, .ref a_this_prices, .ref a_this_squareBits, .ref a_this_clashes, .ref a_this_starBits, .ref a_this_heldBits])), (a_this_heldBits, .inl (G.2.1, 4, .inl v_heldBits)), (a_this_terms, .inr (6, [.int v_terms_most, .ref a_this_terms_parts, .int v_terms_size])), (a_this_terms_parts, .inl (G.2.1, 50, .inl v_terms_parts)), (a_this_squareBits, .inl (G.2.1, 8, .inl v_squareBits)), (a_this_starBits, .inl (G.2.1, 100, .inl v_starBits))] H → va_D A [(a_this, .inr (1, [.ref a_this_terms, .ref a_this_prices, .ref a_this_squareBits, .ref a_this_clashes, .ref a_this_starBits, .ref a_this_heldBits])), (a_this_heldBits, .inl (G.2.1, 4, .inl v_heldBits)), (a_this_terms, .inr (6, [.int v_terms_most, .ref a_this_terms_parts, .int v_terms_size])), (a_this_terms_parts, .inl (G.2.1, 50, .inl v_terms_parts)), (a_this_squareBits, .inl (G.2.1, 8, .inl v_squareBits)), (a_this_starBits, .inl (G.2.1, 100, .inl v_starBits))] → va_S A s.heap H locs → f_X1_isDarkOn_b104 k72 x3 = some (R0, R1) → W p l e rm_X1_isDarkOn s m args below meth c H locs 0 0 QQ (F0 m 104 ls []) := by
    intro x2 v_heldBits k72 hk72 x3 ls hl H locs hP hD hS hf
    unfold f_X1_isDarkOn_b104 at hf
    refine lv_iinc (v := (x3 + (1 : Int32))) (lv' := [(3, .int (x3 + (1 : Int32))), (0, .ref a_this), (2, .int x2)]) hx hb dX1_isDarkOn_104 hl (k := 2) rfl rfl (by decide) rfl (fun ls hl => ?_)
    refine lv_goto (tgt := 72) hx hb dX1_isDarkOn_107 (by decide) ?_
    exact hk72 ((x3 + (1 : Int32))) ls (lv_sub hl [1, 2, 0] rfl) _ _ hP hD hS hf
  have j72 : ∀ (x2 : Int32), ∀ (v_heldBits : (Nat → Int32)), ∀ (nn : Nat), ∀ (x3 : Int32), ∀ (ls : Array Slot), lv_has ls 4 [(0, .ref a_this), (2, .int x2), (3, .int x3)] → ∀ (H : Heap) (locs : List Loc), va_P G.1 vwCl [(a_this, .inr (1, [.ref a_this_terms, .ref a_this_prices, .ref a_this_squareBits, .ref a_this_clashes, .ref a_this_starBits, .ref a_this_heldBits])), (a_this_heldBits, .inl (G.2.1, 4, .inl v_heldBits)), (a_this_terms, .inr (6, [.int v_terms_most, .ref a_this_terms_parts, .int v_terms_size])), (a_this_terms_parts, .inl (G.2.1, 50, .inl v_terms_parts)), (a_this_squareBits, .inl (G.2.1, 8, .inl v_squareBits)), (a_this_starBits, .inl (G.2.1, 100, .inl v_starBits))] H → va_D A [(a_this, .inr (1, [.ref a_this_terms, .ref a_this_prices, .ref a_this_squareBits, .ref a_this_clashes, .ref a_this_starBits, .ref a_this_heldBits])), (a_this_heldBits, .inl (G.2.1, 4, .inl v_heldBits)), (a_this_terms, .inr (6, [.int v_terms_most, .ref a_this_terms_parts, .int v_terms_size])), (a_this_terms_parts, .inl (G.2.1, 50, .inl v_terms_parts)), (a_this_squareBits, .inl (G.2.1, 8, .inl v_squareBits)), (a_this_starBits, .inl (G.2.1, 100, .inl v_starBits))] → va_S A s.heap H locs → f_X1_isDarkOn_b72 v_starBits x2 v_heldBits nn x3 = some (R0, R1) → W p l e rm_X1_isDarkOn s m args below meth c H locs 0 0 QQ (F0 m 72 ls []) := by
    intro x2 v_heldBits
    intro nn
    induction nn with
    | zero =>
      intro x3 ls hl H locs hP hD hS hf
      rw [f_X1_isDarkOn_b72] at hf
      cases hf
    | succ n72 ih =>
      intro x3 ls hl H locs hP hD hS hf
      rw [f_X1_isDarkOn_b72] at hf
      refine lv_iload_n hx hb dX1_isDarkOn_72 rfl (lv_at hl 2 rfl) ?_
      refine lv_iconst (v := (4 : Int32)) hx hb dX1_isDarkOn_73 (by decide) ?_
      refine lv_icmp_ge (tgt := 110) hx hb dX1_isDarkOn_74 (by decide) (fun hc18 => ?_) (fun hc18 => ?_)
      · have hf := if_t hf hc18
        refine lv_iconst (v := (0 : Int32)) hx hb dX1_isDarkOn_110 (by decide) ?_
        obtain ⟨hr0, hr1⟩ := so2 hf
        subst hr0
        subst hr1
        rw [← hQ]
        exact W.zret (v := (0 : Int32)) hx hb hr rfl (fun t ht hW => ⟨⟨rfl, by rw [ht]; exact hP⟩, hS.F ht⟩) hS.2.2 dX1_isDarkOn_111
      · have hf := if_f hf hc18
        refine lv_aload_n hx hb dX1_isDarkOn_77 rfl (lv_at hl 0 rfl) ?_
        refine va_get (D := G.1) (ci := 1) (v := .ref a_this_heldBits) (C := RX1) (T := TX1) (N := 6) hx hb hts inX1 hown hK hP 0 rfl rfl 5 (by decide) lk33 (fun _ h9 => h9) rfl dX1_isDarkOn_78 ?_
        refine lv_iload_n hx hb dX1_isDarkOn_81 rfl (lv_at hl 2 rfl) ?_
        obtain ⟨hg19, hf⟩ := gd_some hf
        refine va_iald hx hb hK hP 1 0 rfl rfl (inB_in hg19) dX1_isDarkOn_82 ?_
        refine lv_if_eq (tgt := 104) hx hb dX1_isDarkOn_83 (by decide) (fun hc20 => ?_) (fun hc20 => ?_)
        · have hf := if_t hf hc20
          exact j104 (x2) (v_heldBits) (f_X1_isDarkOn_b72 v_starBits x2 v_heldBits n72) ih (x3) ls (lv_sub hl [0, 1, 2] rfl) _ _ hP hD hS hf
        · have hf := if_f hf hc20
          refine lv_aload_n hx hb dX1_isDarkOn_86 rfl (lv_at hl 0 rfl) ?_
          refine va_get (D := G.1) (ci := 1) (v := .ref a_this_heldBits) (C := RX1) (T := TX1) (N := 6) hx hb hts inX1 hown hK hP 0 rfl rfl 5 (by decide) lk33 (fun _ h9 => h9) rfl dX1_isDarkOn_87 ?_
          refine lv_iload_n hx hb dX1_isDarkOn_90 rfl (lv_at hl 2 rfl) ?_
          obtain ⟨hg21, hf⟩ := gd_some hf
          refine va_iald hx hb hK hP 1 0 rfl rfl (inB_in hg21) dX1_isDarkOn_91 ?_
          refine lv_aload_n hx hb dX1_isDarkOn_92 rfl (lv_at hl 0 rfl) ?_
          refine va_get (D := G.1) (ci := 1) (v := .ref a_this_starBits) (C := RX1) (T := TX1) (N := 6) hx hb hts inX1 hown hK hP 0 rfl rfl 4 (by decide) lk30 (fun _ h9 => h9) rfl dX1_isDarkOn_93 ?_
          refine lv_iload_n hx hb dX1_isDarkOn_96 rfl (lv_at hl 1 rfl) ?_
          obtain ⟨hg22, hf⟩ := gd_some hf
          refine va_iald hx hb hK hP 5 0 rfl rfl (inB_in hg22) dX1_isDarkOn_97 ?_
          refine lv_iand hx hb dX1_isDarkOn_98 ?_
          refine lv_if_ne (tgt := 104) hx hb dX1_isDarkOn_99 (by decide) (fun hc23 => ?_) (fun hc23 => ?_)
          · have hf := if_f hf hc23
            exact j104 (x2) (v_heldBits) (f_X1_isDarkOn_b72 v_starBits x2 v_heldBits n72) ih (x3) ls (lv_sub hl [0, 1, 2] rfl) _ _ hP hD hS hf
          · have hf := if_t hf hc23
            refine lv_iconst (v := (1 : Int32)) hx hb dX1_isDarkOn_102 (by decide) ?_
            obtain ⟨hr0, hr1⟩ := so2 hf
            subst hr0
            subst hr1
            rw [← hQ]
            exact W.zret (v := (1 : Int32)) hx hb hr rfl (fun t ht hW => ⟨⟨rfl, by rw [ht]; exact hP⟩, hS.F ht⟩) hS.2.2 dX1_isDarkOn_103
  have j10 : ∀ (x1 : Int32), ∀ (x2 : Int32), ∀ (nn : Nat), ∀ (x3 : Int32), ∀ (v_heldBits : (Nat → Int32)), ∀ (ls : Array Slot), lv_has ls 4 [(0, .ref a_this), (1, .int x1), (2, .int x2), (3, .int x3)] → ∀ (H : Heap) (locs : List Loc), va_P G.1 vwCl [(a_this, .inr (1, [.ref a_this_terms, .ref a_this_prices, .ref a_this_squareBits, .ref a_this_clashes, .ref a_this_starBits, .ref a_this_heldBits])), (a_this_heldBits, .inl (G.2.1, 4, .inl v_heldBits)), (a_this_terms, .inr (6, [.int v_terms_most, .ref a_this_terms_parts, .int v_terms_size])), (a_this_terms_parts, .inl (G.2.1, 50, .inl v_terms_parts)), (a_this_squareBits, .inl (G.2.1, 8, .inl v_squareBits)), (a_this_starBits, .inl (G.2.1, 100, .inl v_starBits))] H → va_D A [(a_this, .inr (1, [.ref a_this_terms, .ref a_this_prices, .ref a_this_squareBits, .ref a_this_clashes, .ref a_this_starBits, .ref a_this_heldBits])), (a_this_heldBits, .inl (G.2.1, 4, .inl v_heldBits)), (a_this_terms, .inr (6, [.int v_terms_most, .ref a_this_terms_parts, .int v_terms_size])), (a_this_terms_parts, .inl (G.2.1, 50, .inl v_terms_parts)), (a_this_squareBits, .inl (G.2.1, 8, .inl v_squareBits)), (a_this_starBits, .inl (G.2.1, 100, .inl v_starBits))] → va_S A s.heap H locs → f_X1_isDarkOn_b10 v_terms_size v_terms_parts v_squareBits v_starBits x1 x2 nn x3 v_heldBits = some (R0, R1) → W p l e rm_X1_isDarkOn s m args below meth c H locs 0 0 QQ (F0 m 10 ls []) := by
    intro x1 x2
    intro nn
    induction nn with
    | zero =>
      intro x3 v_heldBits ls hl H locs hP hD hS hf
      rw [f_X1_isDarkOn_b10] at hf
      cases hf
    | succ n10 ih =>
      intro x3 v_heldBits ls hl H locs hP hD hS hf
      rw [f_X1_isDarkOn_b10] at hf
      refine lv_iload_n hx hb dX1_isDarkOn_10 rfl (lv_at hl 3 rfl) ?_
      refine lv_aload_n hx hb dX1_isDarkOn_11 rfl (lv_at hl 0 rfl) ?_
      refine va_get (D := G.1) (ci := 1) (v := .ref a_this_terms) (C := RX1) (T := TX1) (N := 6) hx hb hts inX1 hown hK hP 0 rfl rfl 0 (by decide) lk14 (fun _ h9 => h9) rfl dX1_isDarkOn_12 ?_
      refine va_get (D := G.1) (ci := 6) (v := .int v_terms_size) (C := RX6) (T := TX6) (N := 3) hx hb hts inX6 hown hK hP 2 rfl rfl 2 (by decide) lk36 (fun _ h9 => h9) rfl dX1_isDarkOn_15 ?_
      refine lv_icmp_ge (tgt := 70) hx hb dX1_isDarkOn_18 (by decide) (fun hc24 => ?_) (fun hc24 => ?_)
      · have hf := if_t hf hc24
        refine lv_iconst (v := (0 : Int32)) hx hb dX1_isDarkOn_70 (by decide) ?_
        refine lv_istore_n (lv' := [(3, .int (0 : Int32)), (0, .ref a_this), (1, .int x1), (2, .int x2)]) hx hb dX1_isDarkOn_71 rfl hl (by decide) rfl (fun ls hl => ?_)
        exact j72 (x2) (v_heldBits) zF ((0 : Int32)) ls (lv_sub hl [1, 3, 0] rfl) _ _ hP hD hS hf
      · have hf := if_f hf hc24
        refine lv_iload_n hx hb dX1_isDarkOn_21 rfl (lv_at hl 1 rfl) ?_
        refine lv_iload_n hx hb dX1_isDarkOn_22 rfl (lv_at hl 3 rfl) ?_
        obtain ⟨r25, hu, hf⟩ := bd1_some hf
        refine zRi (va_runS (As := [.int x1, .int x3]) (rest := []) hC (c_X1_isIn l G (x1) (x3) r25 hu) (va_cwS 2 hts gX1_isDarkOn_X1_isIn rfl rfl rfl hd_X1_isIn.2 ⟨(Nat.le_of_ble_eq_true rfl), (Nat.le_of_ble_eq_true rfl)⟩) (zPS hE hP [] rfl) rfl rfl hl.1 rfl (lv_room (Nat.le_of_ble_eq_true rfl)) dX1_isDarkOn_23 ⟨Nat.zero_le _, Nat.zero_le _⟩) ?_
        refine lv_if_eq (tgt := 64) hx hb dX1_isDarkOn_26 (by decide) (fun hc26 => ?_) (fun hc26 => ?_)
        · have hf := if_t hf hc26
          exact j64 (x1) (x2) (f_X1_isDarkOn_b10 v_terms_size v_terms_parts v_squareBits v_starBits x1 x2 n10) ih (x3) (v_heldBits) ls (lv_sub hl [0, 1, 2, 3] rfl) _ _ hP hD hS hf
        · have hf := if_f hf hc26
          refine lv_aload_n hx hb dX1_isDarkOn_29 rfl (lv_at hl 0 rfl) ?_
          refine va_get (D := G.1) (ci := 1) (v := .ref a_this_terms) (C := RX1) (T := TX1) (N := 6) hx hb hts inX1 hown hK hP 0 rfl rfl 0 (by decide) lk14 (fun _ h9 => h9) rfl dX1_isDarkOn_30 ?_
          refine lv_iload_n hx hb dX1_isDarkOn_33 rfl (lv_at hl 3 rfl) ?_
          refine lv_iload_n hx hb dX1_isDarkOn_34 rfl (lv_at hl 2 rfl) ?_
          obtain ⟨r27, hu, hf⟩ := bd1_some hf
          refine zRi (va_runV (As := [.int x3, .int x2]) (rest := []) hC (c_X6_holds l G a_this_terms a_this_terms_parts (v_terms_most) (v_terms_size) (v_terms_parts) (x3) (x2) r27 hu) (cwV 2 hts gX1_isDarkOn_X6_holds rfl rfl rfl hd_X6_holds ⟨(Nat.le_of_ble_eq_true rfl), (Nat.le_of_ble_eq_true rfl)⟩) (zPV hE hP [2, 3] rfl 2 rfl rfl) rfl rfl hl.1 rfl (lv_room (Nat.le_of_ble_eq_true rfl)) dX1_isDarkOn_35 ⟨Nat.zero_le _, Nat.zero_le _⟩) ?_
          refine lv_if_eq (tgt := 64) hx hb dX1_isDarkOn_38 (by decide) (fun hc28 => ?_) (fun hc28 => ?_)
          · have hf := if_t hf hc28
            exact j64 (x1) (x2) (f_X1_isDarkOn_b10 v_terms_size v_terms_parts v_squareBits v_starBits x1 x2 n10) ih (x3) (v_heldBits) ls (lv_sub hl [0, 1, 2, 3] rfl) _ _ hP hD hS hf
          · have hf := if_f hf hc28
            refine lv_aload_n hx hb dX1_isDarkOn_41 rfl (lv_at hl 0 rfl) ?_
            refine va_get (D := G.1) (ci := 1) (v := .ref a_this_heldBits) (C := RX1) (T := TX1) (N := 6) hx hb hts inX1 hown hK hP 0 rfl rfl 5 (by decide) lk33 (fun _ h9 => h9) rfl dX1_isDarkOn_42 ?_
            refine lv_aload_n hx hb dX1_isDarkOn_45 rfl (lv_at hl 0 rfl) ?_
            refine va_get (D := G.1) (ci := 1) (v := .ref a_this_terms) (C := RX1) (T := TX1) (N := 6) hx hb hts inX1 hown hK hP 0 rfl rfl 0 (by decide) lk14 (fun _ h9 => h9) rfl dX1_isDarkOn_46 ?_
            refine lv_iload_n hx hb dX1_isDarkOn_49 rfl (lv_at hl 3 rfl) ?_
            refine lv_iconst (v := (0 : Int32)) hx hb dX1_isDarkOn_50 (by decide) ?_
            obtain ⟨r29, hu, hf⟩ := bd1_some hf
            refine zRi (va_runV (As := [.int x3, .int (0 : Int32)]) (rest := [.ref a_this_heldBits]) hC (c_X6_part l G a_this_terms a_this_terms_parts (v_terms_most) (v_terms_size) (v_terms_parts) (x3) ((0 : Int32)) r29 hu) (cwV 2 hts gX1_isDarkOn_X6_part rfl rfl rfl hd_X6_part ⟨(Nat.le_of_ble_eq_true rfl), (Nat.le_of_ble_eq_true rfl)⟩) (zPV hE hP [2, 3] rfl 2 rfl rfl) rfl rfl hl.1 rfl (lv_room (Nat.le_of_ble_eq_true rfl)) dX1_isDarkOn_51 ⟨Nat.zero_le _, Nat.zero_le _⟩) ?_
            refine lv_dup2_11 hx hb dX1_isDarkOn_54 rfl rfl ?_
            obtain ⟨hg30, hf⟩ := gd_some hf
            refine va_iald hx hb hK hP 1 0 rfl rfl (inB_in hg30) dX1_isDarkOn_55 ?_
            refine lv_aload_n hx hb dX1_isDarkOn_56 rfl (lv_at hl 0 rfl) ?_
            refine va_get (D := G.1) (ci := 1) (v := .ref a_this_squareBits) (C := RX1) (T := TX1) (N := 6) hx hb hts inX1 hown hK hP 0 rfl rfl 2 (by decide) lk24 (fun _ h9 => h9) rfl dX1_isDarkOn_57 ?_
            refine lv_iload_n hx hb dX1_isDarkOn_60 rfl (lv_at hl 3 rfl) ?_
            obtain ⟨hg31, hf⟩ := gd_some hf
            refine va_iald hx hb hK hP 4 0 rfl rfl (inB_in hg31) dX1_isDarkOn_61 ?_
            refine lv_ior hx hb dX1_isDarkOn_62 ?_
            obtain ⟨hg32, hf⟩ := gd_some hf
            refine z_iast hx hb hK hP hD hS 1 0 rfl rfl (inB_in hg32) dX1_isDarkOn_63 (fun gg => [(a_this, .inr (1, [.ref a_this_terms, .ref a_this_prices, .ref a_this_squareBits, .ref a_this_clashes, .ref a_this_starBits, .ref a_this_heldBits])), (a_this_heldBits, .inl (G.2.1, 4, .inl gg)), (a_this_terms, .inr (6, [.int v_terms_most, .ref a_this_terms_parts, .int v_terms_size])), (a_this_terms_parts, .inl (G.2.1, 50, .inl v_terms_parts)), (a_this_squareBits, .inl (G.2.1, 8, .inl v_squareBits)), (a_this_starBits, .inl (G.2.1, 100, .inl v_starBits))]) (fun gg => rfl) (fun y33 H locs ey33 hP hD hS => ?_)
            have hf := nm_to hf ey33
            have hP : va_P G.1 vwCl [(a_this, .inr (1, [.ref a_this_terms, .ref a_this_prices, .ref a_this_squareBits, .ref a_this_clashes, .ref a_this_starBits, .ref a_this_heldBits])), (a_this_heldBits, .inl (G.2.1, 4, .inl y33)), (a_this_terms, .inr (6, [.int v_terms_most, .ref a_this_terms_parts, .int v_terms_size])), (a_this_terms_parts, .inl (G.2.1, 50, .inl v_terms_parts)), (a_this_squareBits, .inl (G.2.1, 8, .inl v_squareBits)), (a_this_starBits, .inl (G.2.1, 100, .inl v_starBits))] H := hP
            have hD : va_D A [(a_this, .inr (1, [.ref a_this_terms, .ref a_this_prices, .ref a_this_squareBits, .ref a_this_clashes, .ref a_this_starBits, .ref a_this_heldBits])), (a_this_heldBits, .inl (G.2.1, 4, .inl y33)), (a_this_terms, .inr (6, [.int v_terms_most, .ref a_this_terms_parts, .int v_terms_size])), (a_this_terms_parts, .inl (G.2.1, 50, .inl v_terms_parts)), (a_this_squareBits, .inl (G.2.1, 8, .inl v_squareBits)), (a_this_starBits, .inl (G.2.1, 100, .inl v_starBits))] := hD
            exact j64 (x1) (x2) (f_X1_isDarkOn_b10 v_terms_size v_terms_parts v_squareBits v_starBits x1 x2 n10) ih (x3) (y33) ls (lv_sub hl [0, 1, 2, 3] rfl) _ _ hP hD hS hf
  have hSH := hS
  unfold f_X1_isDarkOn at hf
  refine lv_aload_n hx hb dX1_isDarkOn_0 rfl (lv_at hl 0 rfl) ?_
  refine va_get (D := G.1) (ci := 1) (v := .ref a_this_heldBits) (C := RX1) (T := TX1) (N := 6) hx hb hts inX1 hown hK hP 0 rfl rfl 5 (by decide) lk33 (fun _ h9 => h9) rfl dX1_isDarkOn_1 ?_
  refine lv_iconst (v := (0 : Int32)) hx hb dX1_isDarkOn_4 (by decide) ?_
  obtain ⟨w34, hu, hf⟩ := bd1_some hf
  refine zWn (wr := [(a_this, .inr (1, [.ref a_this_terms, .ref a_this_prices, .ref a_this_squareBits, .ref a_this_clashes, .ref a_this_starBits, .ref a_this_heldBits])), (a_this_terms, .inr (6, [.int v_terms_most, .ref a_this_terms_parts, .int v_terms_size])), (a_this_terms_parts, .inl (G.2.1, 50, .inl v_terms_parts)), (a_this_squareBits, .inl (G.2.1, 8, .inl v_squareBits)), (a_this_starBits, .inl (G.2.1, 100, .inl v_starBits))]) (ws2 := [(a_this, .inr (1, [.ref a_this_terms, .ref a_this_prices, .ref a_this_squareBits, .ref a_this_clashes, .ref a_this_starBits, .ref a_this_heldBits])), (a_this_heldBits, .inl (G.2.1, 4, .inl w34)), (a_this_terms, .inr (6, [.int v_terms_most, .ref a_this_terms_parts, .int v_terms_size])), (a_this_terms_parts, .inl (G.2.1, 50, .inl v_terms_parts)), (a_this_squareBits, .inl (G.2.1, 8, .inl v_squareBits)), (a_this_starBits, .inl (G.2.1, 100, .inl v_starBits))]) (va_runS (As := [.ref a_this_heldBits, .int (0 : Int32)]) (rest := []) hC (c_J7_fill_53178 l G _ a_this_heldBits (v_heldBits) ((0 : Int32)) w34 hu) (va_cwS 2 hts gX1_isDarkOn_J7_fill_53178 rfl rfl rfl hd_J7_fill_53178.2 ⟨(Nat.le_of_ble_eq_true rfl), (Nat.le_of_ble_eq_true rfl)⟩) (zPSw hE hP hD [1] rfl rfl) rfl rfl hl.1 rfl (lv_room (Nat.le_of_ble_eq_true rfl)) dX1_isDarkOn_5 ⟨Nat.zero_le _, Nat.zero_le _⟩) hP hD hS hA [1] [0, 2, 3, 4, 5] [0, 5, 1, 2, 3, 4] rfl rfl rfl rfl (by decide) rfl rfl rfl (fun H locs hP hD hS => ?_)
  refine lv_iconst (v := (0 : Int32)) hx hb dX1_isDarkOn_8 (by decide) ?_
  refine lv_istore_n (lv' := [(3, .int (0 : Int32)), (0, .ref a_this), (1, .int g1), (2, .int g2)]) hx hb dX1_isDarkOn_9 rfl hl (by decide) rfl (fun ls hl => ?_)
  exact j10 (g1) (g2) zF ((0 : Int32)) (w34) ls (lv_sub hl [1, 2, 3, 0] rfl) _ _ hP hD hS hf
theorem hd_X1_isDarkOn : yX1_isDarkOn.cls = RX1 ∧ yX1_isDarkOn.cls ≠ "java/lang/invoke/MethodHandle" ∧ yX1_isDarkOn.cls ≠ "java/lang/invoke/VarHandle" ∧ (parseMethodDescriptor yX1_isDarkOn.desc).map (fun d => d.parameters.length) = some 2 := by decide +kernel
def f_X1_isDarkWithin_b3 (v_terms_size : Int32) (v_terms_parts : (Nat → Int32)) (v_squareBits : (Nat → Int32)) (v_starBits : (Nat → Int32))  (x1 : Int32) (x3 : Int32) : Nat → Int32 → (Nat → Int32) → Option (Int32 × (Nat → Int32))
  | 0, _, _ => none
  | n3 + 1, x4, v_heldBits => if x3 < x4 then (some ((0 : Int32), v_heldBits)) else (bd2 (f_X1_isDarkOn (v_heldBits) (v_terms_size) (v_terms_parts) (v_squareBits) (v_starBits) (x1) (x4)) fun r6 w7 => if r6 = (0 : Int32) then (f_X1_isDarkWithin_b3 v_terms_size v_terms_parts v_squareBits v_starBits x1 x3 n3 ((x4 + (1 : Int32))) (w7)) else (some ((1 : Int32), w7)))
def f_X1_isDarkWithin  (v_heldBits : (Nat → Int32)) (v_terms_size : Int32) (v_terms_parts : (Nat → Int32)) (v_squareBits : (Nat → Int32)) (v_starBits : (Nat → Int32)) (g1 : Int32) (g2 : Int32) (g3 : Int32) : Option (Int32 × (Nat → Int32)) := f_X1_isDarkWithin_b3 v_terms_size v_terms_parts v_squareBits v_starBits (g1) (g3) zF (g2) (v_heldBits)
abbrev rm_X1_isDarkWithin : Room := { frames := 3, cells := 0, slots := 0, locals := 67 }
set_option maxHeartbeats 4000000 in
set_option maxRecDepth 100000 in
theorem c_X1_isDarkWithin (l : Launch) (G : zG) (sz : Nat) (a_this : Nat) (a_this_heldBits : Nat) (a_this_terms : Nat) (a_this_terms_parts : Nat) (a_this_squareBits : Nat) (a_this_starBits : Nat) (a_this_prices : Nat) (a_this_clashes : Nat) (v_heldBits : (Nat → Int32)) (v_terms_most : Int32) (v_terms_size : Int32) (v_terms_parts : (Nat → Int32)) (v_squareBits : (Nat → Int32)) (v_starBits : (Nat → Int32)) (g1 : Int32) (g2 : Int32) (g3 : Int32) (R0 : Int32) (R1 : (Nat → Int32)) (hf : f_X1_isDarkWithin v_heldBits v_terms_size v_terms_parts v_squareBits v_starBits g1 g2 g3 = some (R0, R1)) : Met l yX1_isDarkWithin wsX1_isDarkWithin rm_X1_isDarkWithin (va_Pc [.ref a_this, .int g1, .int g2, .int g3] (zB G [(a_this, .inr (1, [.ref a_this_terms, .ref a_this_prices, .ref a_this_squareBits, .ref a_this_clashes, .ref a_this_starBits, .ref a_this_heldBits])), (a_this_heldBits, .inl (G.2.1, 4, .inl v_heldBits)), (a_this_terms, .inr (6, [.int v_terms_most, .ref a_this_terms_parts, .int v_terms_size])), (a_this_terms_parts, .inl (G.2.1, 50, .inl v_terms_parts)), (a_this_squareBits, .inl (G.2.1, 8, .inl v_squareBits)), (a_this_starBits, .inl (G.2.1, 100, .inl v_starBits))] sz)) (zQ G (some (.int R0)) [(a_this, .inr (1, [.ref a_this_terms, .ref a_this_prices, .ref a_this_squareBits, .ref a_this_clashes, .ref a_this_starBits, .ref a_this_heldBits])), (a_this_heldBits, .inl (G.2.1, 4, .inl R1)), (a_this_terms, .inr (6, [.int v_terms_most, .ref a_this_terms_parts, .int v_terms_size])), (a_this_terms_parts, .inl (G.2.1, 50, .inl v_terms_parts)), (a_this_squareBits, .inl (G.2.1, 8, .inl v_squareBits)), (a_this_starBits, .inl (G.2.1, 100, .inl v_starBits))] (va_A [(a_this, .inr (1, [.ref a_this_terms, .ref a_this_prices, .ref a_this_squareBits, .ref a_this_clashes, .ref a_this_starBits, .ref a_this_heldBits])), (a_this_heldBits, .inl (G.2.1, 4, .inl v_heldBits)), (a_this_terms, .inr (6, [.int v_terms_most, .ref a_this_terms_parts, .int v_terms_size])), (a_this_terms_parts, .inl (G.2.1, 50, .inl v_terms_parts)), (a_this_squareBits, .inl (G.2.1, 8, .inl v_squareBits)), (a_this_starBits, .inl (G.2.1, 100, .inl v_starBits))] sz)) 0 0 (va_A [(a_this, .inr (1, [.ref a_this_terms, .ref a_this_prices, .ref a_this_squareBits, .ref a_this_clashes, .ref a_this_starBits, .ref a_this_heldBits])), (a_this_heldBits, .inl (G.2.1, 4, .inl v_heldBits)), (a_this_terms, .inr (6, [.int v_terms_most, .ref a_this_terms_parts, .int v_terms_size])), (a_this_terms_parts, .inl (G.2.1, 50, .inl v_terms_parts)), (a_this_squareBits, .inl (G.2.1, 8, .inl v_squareBits)), (a_this_starBits, .inl (G.2.1, 100, .inl v_starBits))] sz) := by
  refine Met.ofW (cc := cX1_isDarkWithin) (maxL := 5) (ret := (some .boolean)) (by decide) rfl ?_
  intro p e s m args below meth c s₁ B hml hv
  obtain ⟨hargs, hsz, hP, hD0, hE⟩ := hv
  have hx := B.exec
  have hb := B.bytes
  have hr := B.returns
  have hts := atoms_spec (ws := wsX1_isDarkWithin) B.pre
  have hown : s.vm.findClass RX1 = some m.cls := findClass_of_methodNamed B.named
  have hlocks := B.notSynchronized
  have hK := hE.1
  have hC : CallFix p m c cX1_isDarkWithin 5 s args wsX1_isDarkWithin RX1 := ⟨hx, hb, hml, hown, hts⟩
  subst hsz
  have hD := hD0.self (sz := s.heap.size)
  generalize hAe : va_A [(a_this, .inr (1, [.ref a_this_terms, .ref a_this_prices, .ref a_this_squareBits, .ref a_this_clashes, .ref a_this_starBits, .ref a_this_heldBits])), (a_this_heldBits, .inl (G.2.1, 4, .inl v_heldBits)), (a_this_terms, .inr (6, [.int v_terms_most, .ref a_this_terms_parts, .int v_terms_size])), (a_this_terms_parts, .inl (G.2.1, 50, .inl v_terms_parts)), (a_this_squareBits, .inl (G.2.1, 8, .inl v_squareBits)), (a_this_starBits, .inl (G.2.1, 100, .inl v_starBits))] s.heap.size = A at hD ⊢
  have hA : ∀ q : Nat, s.heap.size ≤ q → A q := fun q h => by rw [← hAe]; exact Or.inr h
  have hS : va_S A s.heap s.heap [] := va_S.rf
  have hP : va_P G.1 vwCl [(a_this, .inr (1, [.ref a_this_terms, .ref a_this_prices, .ref a_this_squareBits, .ref a_this_clashes, .ref a_this_starBits, .ref a_this_heldBits])), (a_this_heldBits, .inl (G.2.1, 4, .inl v_heldBits)), (a_this_terms, .inr (6, [.int v_terms_most, .ref a_this_terms_parts, .int v_terms_size])), (a_this_terms_parts, .inl (G.2.1, 50, .inl v_terms_parts)), (a_this_squareBits, .inl (G.2.1, 8, .inl v_squareBits)), (a_this_starBits, .inl (G.2.1, 100, .inl v_starBits))] s.heap := hP
  have hl := lv_entry ([.ref a_this, .int g1, .int g2, .int g3]) (n := 5) (Nat.le_of_ble_eq_true rfl)
  have hent : entryFrame m args 5 = F0 m 0 ((lg_sl ([.ref a_this, .int g1, .int g2, .int g3]) ++ List.replicate (5 - (lg_sl ([.ref a_this, .int g1, .int g2, .int g3])).length) Slot.unset).toArray) [] := by rw [hargs]; exact lg_entry_eq m [.ref a_this, .int g1, .int g2, .int g3] 5
  refine W.eq hent ?_
  clear hent
  generalize (lg_sl ([.ref a_this, .int g1, .int g2, .int g3]) ++ List.replicate (5 - (lg_sl ([.ref a_this, .int g1, .int g2, .int g3])).length) Slot.unset).toArray = ls at hl ⊢
  have hl : lv_has ls 5 [(0, .ref a_this), (1, .int g1), (2, .int g2), (3, .int g3)] := hl
  generalize hQ : MQ below _ args s 0 0 _ = QQ
  change W p l e rm_X1_isDarkWithin s m args below meth c s.heap [] 0 0 QQ _
  have j3 : ∀ (x1 : Int32), ∀ (x3 : Int32), ∀ (nn : Nat), ∀ (x4 : Int32), ∀ (v_heldBits : (Nat → Int32)), ∀ (ls : Array Slot), lv_has ls 5 [(0, .ref a_this), (1, .int x1), (3, .int x3), (4, .int x4)] → ∀ (H : Heap) (locs : List Loc), va_P G.1 vwCl [(a_this, .inr (1, [.ref a_this_terms, .ref a_this_prices, .ref a_this_squareBits, .ref a_this_clashes, .ref a_this_starBits, .ref a_this_heldBits])), (a_this_heldBits, .inl (G.2.1, 4, .inl v_heldBits)), (a_this_terms, .inr (6, [.int v_terms_most, .ref a_this_terms_parts, .int v_terms_size])), (a_this_terms_parts, .inl (G.2.1, 50, .inl v_terms_parts)), (a_this_squareBits, .inl (G.2.1, 8, .inl v_squareBits)), (a_this_starBits, .inl (G.2.1, 100, .inl v_starBits))] H → va_D A [(a_this, .inr (1, [.ref a_this_terms, .ref a_this_prices, .ref a_this_squareBits, .ref a_this_clashes, .ref a_this_starBits, .ref a_this_heldBits])), (a_this_heldBits, .inl (G.2.1, 4, .inl v_heldBits)), (a_this_terms, .inr (6, [.int v_terms_most, .ref a_this_terms_parts, .int v_terms_size])), (a_this_terms_parts, .inl (G.2.1, 50, .inl v_terms_parts)), (a_this_squareBits, .inl (G.2.1, 8, .inl v_squareBits)), (a_this_starBits, .inl (G.2.1, 100, .inl v_starBits))] → va_S A s.heap H locs → f_X1_isDarkWithin_b3 v_terms_size v_terms_parts v_squareBits v_starBits x1 x3 nn x4 v_heldBits = some (R0, R1) → W p l e rm_X1_isDarkWithin s m args below meth c H locs 0 0 QQ (F0 m 3 ls []) := by
    intro x1 x3
    intro nn
    induction nn with
    | zero =>
      intro x4 v_heldBits ls hl H locs hP hD hS hf
      rw [f_X1_isDarkWithin_b3] at hf
      cases hf
    | succ n3 ih =>
      intro x4 v_heldBits ls hl H locs hP hD hS hf
      rw [f_X1_isDarkWithin_b3] at hf
      refine lv_iload hx hb dX1_isDarkWithin_3 (lv_at hl 3 rfl) ?_
      refine lv_iload_n hx hb dX1_isDarkWithin_5 rfl (lv_at hl 2 rfl) ?_
      refine lv_icmp_gt (tgt := 27) hx hb dX1_isDarkWithin_6 (by decide) (fun hc5 => ?_) (fun hc5 => ?_)
      · have hf := if_t hf hc5
        refine lv_iconst (v := (0 : Int32)) hx hb dX1_isDarkWithin_27 (by decide) ?_
        obtain ⟨hr0, hr1⟩ := so2 hf
        subst hr0
        subst hr1
        rw [← hQ]
        exact W.zret (v := (0 : Int32)) hx hb hr rfl (fun t ht hW => ⟨⟨rfl, by rw [ht]; exact hP⟩, hS.F ht⟩) hS.2.2 dX1_isDarkWithin_28
      · have hf := if_f hf hc5
        refine lv_aload_n hx hb dX1_isDarkWithin_9 rfl (lv_at hl 0 rfl) ?_
        refine lv_iload_n hx hb dX1_isDarkWithin_10 rfl (lv_at hl 1 rfl) ?_
        refine lv_iload hx hb dX1_isDarkWithin_11 (lv_at hl 3 rfl) ?_
        obtain ⟨r6, w7, hu, hf⟩ := bd2_some hf
        refine zWi (wr := []) (ws2 := [(a_this, .inr (1, [.ref a_this_terms, .ref a_this_prices, .ref a_this_squareBits, .ref a_this_clashes, .ref a_this_starBits, .ref a_this_heldBits])), (a_this_heldBits, .inl (G.2.1, 4, .inl w7)), (a_this_terms, .inr (6, [.int v_terms_most, .ref a_this_terms_parts, .int v_terms_size])), (a_this_terms_parts, .inl (G.2.1, 50, .inl v_terms_parts)), (a_this_squareBits, .inl (G.2.1, 8, .inl v_squareBits)), (a_this_starBits, .inl (G.2.1, 100, .inl v_starBits))]) (va_runV (As := [.int x1, .int x4]) (rest := []) hC (c_X1_isDarkOn l G _ a_this a_this_heldBits a_this_terms a_this_terms_parts a_this_squareBits a_this_starBits a_this_prices a_this_clashes (v_heldBits) (v_terms_most) (v_terms_size) (v_terms_parts) (v_squareBits) (v_starBits) (x1) (x4) r6 w7 hu) (cwV 2 hts gX1_isDarkWithin_X1_isDarkOn rfl rfl rfl hd_X1_isDarkOn ⟨(Nat.le_of_ble_eq_true rfl), (Nat.le_of_ble_eq_true rfl)⟩) (zPVw hE hP hD [0, 1, 2, 3, 4, 5] rfl rfl 0 rfl rfl) rfl rfl hl.1 rfl (lv_room (Nat.le_of_ble_eq_true rfl)) dX1_isDarkWithin_13 ⟨Nat.zero_le _, Nat.zero_le _⟩) hP hD hS hA [0, 1, 2, 3, 4, 5] [] [0, 1, 2, 3, 4, 5] rfl rfl rfl rfl (by decide) rfl rfl rfl (fun H locs hP hD hS => ?_)
        refine lv_if_eq (tgt := 21) hx hb dX1_isDarkWithin_16 (by decide) (fun hc8 => ?_) (fun hc8 => ?_)
        · have hf := if_t hf hc8
          refine lv_iinc (v := (x4 + (1 : Int32))) (lv' := [(4, .int (x4 + (1 : Int32))), (0, .ref a_this), (1, .int x1), (3, .int x3)]) hx hb dX1_isDarkWithin_21 hl (k := 3) rfl rfl (by decide) rfl (fun ls hl => ?_)
          refine lv_goto (tgt := 3) hx hb dX1_isDarkWithin_24 (by decide) ?_
          exact ih ((x4 + (1 : Int32))) (w7) ls (lv_sub hl [1, 2, 3, 0] rfl) _ _ hP hD hS hf
        · have hf := if_f hf hc8
          refine lv_iconst (v := (1 : Int32)) hx hb dX1_isDarkWithin_19 (by decide) ?_
          obtain ⟨hr0, hr1⟩ := so2 hf
          subst hr0
          subst hr1
          rw [← hQ]
          exact W.zret (v := (1 : Int32)) hx hb hr rfl (fun t ht hW => ⟨⟨rfl, by rw [ht]; exact hP⟩, hS.F ht⟩) hS.2.2 dX1_isDarkWithin_20
  have hSH := hS
  unfold f_X1_isDarkWithin at hf
  refine lv_iload_n hx hb dX1_isDarkWithin_0 rfl (lv_at hl 2 rfl) ?_
  refine lv_istore (lv' := [(4, .int g2), (0, .ref a_this), (1, .int g1), (2, .int g2), (3, .int g3)]) hx hb dX1_isDarkWithin_1 hl (by decide) rfl (fun ls hl => ?_)
  exact j3 (g1) (g3) zF (g2) (v_heldBits) ls (lv_sub hl [1, 2, 4, 0] rfl) _ _ hP hD hS hf
theorem hd_X1_clashesWithin : yX1_clashesWithin.cls = RX1 ∧ yX1_clashesWithin.cls ≠ "java/lang/invoke/MethodHandle" ∧ yX1_clashesWithin.cls ≠ "java/lang/invoke/VarHandle" ∧ (parseMethodDescriptor yX1_clashesWithin.desc).map (fun d => d.parameters.length) = some 1 := by decide +kernel
theorem hd_X1_isDarkWithin : yX1_isDarkWithin.cls = RX1 ∧ yX1_isDarkWithin.cls ≠ "java/lang/invoke/MethodHandle" ∧ yX1_isDarkWithin.cls ≠ "java/lang/invoke/VarHandle" ∧ (parseMethodDescriptor yX1_isDarkWithin.desc).map (fun d => d.parameters.length) = some 3 := by decide +kernel
theorem hd_X1_priceOf : yX1_priceOf.cls = RX1 ∧ yX1_priceOf.cls ≠ "java/lang/invoke/MethodHandle" ∧ yX1_priceOf.cls ≠ "java/lang/invoke/VarHandle" ∧ (parseMethodDescriptor yX1_priceOf.desc).map (fun d => d.parameters.length) = some 1 := by decide +kernel
theorem hd_X5_squaresWithStars : yX5_squaresWithStars.cls = RX5 ∧ yX5_squaresWithStars.cls ≠ "java/lang/invoke/MethodHandle" ∧ yX5_squaresWithStars.cls ≠ "java/lang/invoke/VarHandle" ∧ (parseMethodDescriptor yX5_squaresWithStars.desc).map (fun d => d.parameters.length) = some 1 := by decide +kernel
def f_X1_bestSet_b94  (k37 : Int32 → Int32 → Int32 → (Nat → Int32) → Option (Int32 × (Nat → Int32) × (Nat → Int32)))  (x4 : Int32) (x5 : Int32) (x6 : Int32) (v_heldBits : (Nat → Int32)) : Option (Int32 × (Nat → Int32) × (Nat → Int32)) := k37 (x4) (x5) ((x6 + (1 : Int32))) (v_heldBits)
def f_X1_bestSet_b37 (v_terms_size : Int32) (v_prices : (Nat → Int32)) (v_clashes : (Nat → Int32)) (v_terms_parts : (Nat → Int32)) (v_squareBits : (Nat → Int32))  (x2 : Int32) (x3 : Int32) (v_starBits : (Nat → Int32)) : Nat → Int32 → Int32 → Int32 → (Nat → Int32) → Option (Int32 × (Nat → Int32) × (Nat → Int32))
  | 0, _, _, _, _ => none
  | n37 + 1, x4, x5, x6, v_heldBits => if ((1 : Int32) <<< (v_terms_size &&& (31 : Int32))) ≤ x6 then (some (x4, v_starBits, v_heldBits)) else (bd1 (f_X1_priceOf (v_terms_size) (v_prices) (x6)) fun r14 => if r14 ≤ x5 then (f_X1_bestSet_b94 (f_X1_bestSet_b37 v_terms_size v_prices v_clashes v_terms_parts v_squareBits x2 x3 v_starBits n37) (x4) (x5) (x6) (v_heldBits)) else (bd1 (f_X1_clashesWithin (v_terms_size) (v_clashes) (x6)) fun r16 => if r16 = (0 : Int32) then (bd2 (f_X1_isDarkWithin (v_heldBits) (v_terms_size) (v_terms_parts) (v_squareBits) (v_starBits) (x6) (x2) (x3)) fun r18 w19 => if r18 = (0 : Int32) then (f_X1_bestSet_b94 (f_X1_bestSet_b37 v_terms_size v_prices v_clashes v_terms_parts v_squareBits x2 x3 v_starBits n37) (x6) (r14) (x6) (w19)) else (f_X1_bestSet_b94 (f_X1_bestSet_b37 v_terms_size v_prices v_clashes v_terms_parts v_squareBits x2 x3 v_starBits n37) (x4) (x5) (x6) (w19))) else (f_X1_bestSet_b94 (f_X1_bestSet_b37 v_terms_size v_prices v_clashes v_terms_parts v_squareBits x2 x3 v_starBits n37) (x4) (x5) (x6) (v_heldBits))))
def f_X1_bestSet_b3 (v_p1_squares : Int32) (v_p1_stars : Int32) (v_p1_paces : (Nat → Int32)) (v_p1_starts : (Nat → Int32)) (v_terms_size : Int32) (v_prices : (Nat → Int32)) (v_clashes : (Nat → Int32)) (v_terms_parts : (Nat → Int32)) (v_squareBits : (Nat → Int32))  (x2 : Int32) (x3 : Int32) (v_heldBits : (Nat → Int32)) : Nat → Int32 → (Nat → Int32) → Option (Int32 × (Nat → Int32) × (Nat → Int32))
  | 0, _, _ => none
  | n3 + 1, x4, v_starBits => if x3 < x4 then (f_X1_bestSet_b37 v_terms_size v_prices v_clashes v_terms_parts v_squareBits (x2) (x3) (v_starBits) zF ((0 : Int32)) ((0 : Int32)) ((1 : Int32)) (v_heldBits)) else (bd1 (f_X5_squaresWithStars (v_p1_squares) (v_p1_stars) (v_p1_paces) (v_p1_starts) (x4)) fun r22 => gd (inB x4 100) (nm (upd v_starBits (x4).toNatClampNeg r22) fun y24 => f_X1_bestSet_b3 v_p1_squares v_p1_stars v_p1_paces v_p1_starts v_terms_size v_prices v_clashes v_terms_parts v_squareBits x2 x3 v_heldBits n3 ((x4 + (1 : Int32))) (y24)))
def f_X1_bestSet  (v_p1_squares : Int32) (v_p1_stars : Int32) (v_p1_paces : (Nat → Int32)) (v_p1_starts : (Nat → Int32)) (v_starBits : (Nat → Int32)) (v_terms_size : Int32) (v_prices : (Nat → Int32)) (v_clashes : (Nat → Int32)) (v_heldBits : (Nat → Int32)) (v_terms_parts : (Nat → Int32)) (v_squareBits : (Nat → Int32)) (g2 : Int32) (g3 : Int32) : Option (Int32 × (Nat → Int32) × (Nat → Int32)) := f_X1_bestSet_b3 v_p1_squares v_p1_stars v_p1_paces v_p1_starts v_terms_size v_prices v_clashes v_terms_parts v_squareBits (g2) (g3) (v_heldBits) zF (g2) (v_starBits)
abbrev rm_X1_bestSet : Room := { frames := 4, cells := 0, slots := 0, locals := 91 }
set_option maxHeartbeats 4000000 in
set_option maxRecDepth 100000 in
theorem c_X1_bestSet (l : Launch) (G : zG) (sz : Nat) (a_this : Nat) (a_p1 : Nat) (a_p1_paces : Nat) (a_p1_starts : Nat) (a_this_starBits : Nat) (a_this_terms : Nat) (a_this_prices : Nat) (a_this_clashes : Nat) (a_this_heldBits : Nat) (a_this_terms_parts : Nat) (a_this_squareBits : Nat) (a_p1_brights : Nat) (a_p1_purses : Nat) (a_p1_leases : Nat) (v_p1_squares : Int32) (v_p1_stars : Int32) (v_p1_tenants : Int32) (v_p1_paces : (Nat → Int32)) (v_p1_starts : (Nat → Int32)) (v_starBits : (Nat → Int32)) (v_terms_most : Int32) (v_terms_size : Int32) (v_prices : (Nat → Int32)) (v_clashes : (Nat → Int32)) (v_heldBits : (Nat → Int32)) (v_terms_parts : (Nat → Int32)) (v_squareBits : (Nat → Int32)) (g2 : Int32) (g3 : Int32) (R0 : Int32) (R1 : (Nat → Int32)) (R2 : (Nat → Int32)) (hf : f_X1_bestSet v_p1_squares v_p1_stars v_p1_paces v_p1_starts v_starBits v_terms_size v_prices v_clashes v_heldBits v_terms_parts v_squareBits g2 g3 = some (R0, R1, R2)) : Met l yX1_bestSet wsX1_bestSet rm_X1_bestSet (va_Pc [.ref a_this, .ref a_p1, .int g2, .int g3] (zB G [(a_this, .inr (1, [.ref a_this_terms, .ref a_this_prices, .ref a_this_squareBits, .ref a_this_clashes, .ref a_this_starBits, .ref a_this_heldBits])), (a_p1, .inr (5, [.int v_p1_squares, .int v_p1_stars, .ref a_p1_starts, .ref a_p1_paces, .ref a_p1_brights, .int v_p1_tenants, .ref a_p1_purses, .ref a_p1_leases])), (a_p1_paces, .inl (G.2.1, 8, .inl v_p1_paces)), (a_p1_starts, .inl (G.2.1, 8, .inl v_p1_starts)), (a_this_starBits, .inl (G.2.1, 100, .inl v_starBits)), (a_this_terms, .inr (6, [.int v_terms_most, .ref a_this_terms_parts, .int v_terms_size])), (a_this_prices, .inl (G.2.1, 8, .inl v_prices)), (a_this_clashes, .inl (G.2.1, 8, .inl v_clashes)), (a_this_heldBits, .inl (G.2.1, 4, .inl v_heldBits)), (a_this_terms_parts, .inl (G.2.1, 50, .inl v_terms_parts)), (a_this_squareBits, .inl (G.2.1, 8, .inl v_squareBits))] sz)) (zQ G (some (.int R0)) [(a_this, .inr (1, [.ref a_this_terms, .ref a_this_prices, .ref a_this_squareBits, .ref a_this_clashes, .ref a_this_starBits, .ref a_this_heldBits])), (a_p1, .inr (5, [.int v_p1_squares, .int v_p1_stars, .ref a_p1_starts, .ref a_p1_paces, .ref a_p1_brights, .int v_p1_tenants, .ref a_p1_purses, .ref a_p1_leases])), (a_p1_paces, .inl (G.2.1, 8, .inl v_p1_paces)), (a_p1_starts, .inl (G.2.1, 8, .inl v_p1_starts)), (a_this_starBits, .inl (G.2.1, 100, .inl R1)), (a_this_terms, .inr (6, [.int v_terms_most, .ref a_this_terms_parts, .int v_terms_size])), (a_this_prices, .inl (G.2.1, 8, .inl v_prices)), (a_this_clashes, .inl (G.2.1, 8, .inl v_clashes)), (a_this_heldBits, .inl (G.2.1, 4, .inl R2)), (a_this_terms_parts, .inl (G.2.1, 50, .inl v_terms_parts)), (a_this_squareBits, .inl (G.2.1, 8, .inl v_squareBits))] (va_A [(a_this, .inr (1, [.ref a_this_terms, .ref a_this_prices, .ref a_this_squareBits, .ref a_this_clashes, .ref a_this_starBits, .ref a_this_heldBits])), (a_p1, .inr (5, [.int v_p1_squares, .int v_p1_stars, .ref a_p1_starts, .ref a_p1_paces, .ref a_p1_brights, .int v_p1_tenants, .ref a_p1_purses, .ref a_p1_leases])), (a_p1_paces, .inl (G.2.1, 8, .inl v_p1_paces)), (a_p1_starts, .inl (G.2.1, 8, .inl v_p1_starts)), (a_this_starBits, .inl (G.2.1, 100, .inl v_starBits)), (a_this_terms, .inr (6, [.int v_terms_most, .ref a_this_terms_parts, .int v_terms_size])), (a_this_prices, .inl (G.2.1, 8, .inl v_prices)), (a_this_clashes, .inl (G.2.1, 8, .inl v_clashes)), (a_this_heldBits, .inl (G.2.1, 4, .inl v_heldBits)), (a_this_terms_parts, .inl (G.2.1, 50, .inl v_terms_parts)), (a_this_squareBits, .inl (G.2.1, 8, .inl v_squareBits))] sz)) 0 0 (va_A [(a_this, .inr (1, [.ref a_this_terms, .ref a_this_prices, .ref a_this_squareBits, .ref a_this_clashes, .ref a_this_starBits, .ref a_this_heldBits])), (a_p1, .inr (5, [.int v_p1_squares, .int v_p1_stars, .ref a_p1_starts, .ref a_p1_paces, .ref a_p1_brights, .int v_p1_tenants, .ref a_p1_purses, .ref a_p1_leases])), (a_p1_paces, .inl (G.2.1, 8, .inl v_p1_paces)), (a_p1_starts, .inl (G.2.1, 8, .inl v_p1_starts)), (a_this_starBits, .inl (G.2.1, 100, .inl v_starBits)), (a_this_terms, .inr (6, [.int v_terms_most, .ref a_this_terms_parts, .int v_terms_size])), (a_this_prices, .inl (G.2.1, 8, .inl v_prices)), (a_this_clashes, .inl (G.2.1, 8, .inl v_clashes)), (a_this_heldBits, .inl (G.2.1, 4, .inl v_heldBits)), (a_this_terms_parts, .inl (G.2.1, 50, .inl v_terms_parts)), (a_this_squareBits, .inl (G.2.1, 8, .inl v_squareBits))] sz) := by
  refine Met.ofW (cc := cX1_bestSet) (maxL := 8) (ret := (some .int)) (by decide) rfl ?_
  intro p e s m args below meth c s₁ B hml hv
  obtain ⟨hargs, hsz, hP, hD0, hE⟩ := hv
  have hx := B.exec
  have hb := B.bytes
  have hr := B.returns
  have hts := atoms_spec (ws := wsX1_bestSet) B.pre
  have hown : s.vm.findClass RX1 = some m.cls := findClass_of_methodNamed B.named
  have hlocks := B.notSynchronized
  have hK := hE.1
  have hC : CallFix p m c cX1_bestSet 8 s args wsX1_bestSet RX1 := ⟨hx, hb, hml, hown, hts⟩
  have inX1 : ∀ w ∈ wsX10, w ∈ wsX1_bestSet := by decide +kernel
  have inX6 : ∀ w ∈ wsX60, w ∈ wsX1_bestSet := by decide +kernel
  have lk14 := hts (.fieldLink RX1 14 "SkyLeases$Offers" "terms" "LSkyLeases$Terms;") (by decide +kernel)
  have lk30 := hts (.fieldLink RX1 30 "SkyLeases$Offers" "starBits" "[I") (by decide +kernel)
  have lk36 := hts (.fieldLink RX1 36 "SkyLeases$Terms" "size" "I") (by decide +kernel)
  subst hsz
  have hD := hD0.self (sz := s.heap.size)
  generalize hAe : va_A [(a_this, .inr (1, [.ref a_this_terms, .ref a_this_prices, .ref a_this_squareBits, .ref a_this_clashes, .ref a_this_starBits, .ref a_this_heldBits])), (a_p1, .inr (5, [.int v_p1_squares, .int v_p1_stars, .ref a_p1_starts, .ref a_p1_paces, .ref a_p1_brights, .int v_p1_tenants, .ref a_p1_purses, .ref a_p1_leases])), (a_p1_paces, .inl (G.2.1, 8, .inl v_p1_paces)), (a_p1_starts, .inl (G.2.1, 8, .inl v_p1_starts)), (a_this_starBits, .inl (G.2.1, 100, .inl v_starBits)), (a_this_terms, .inr (6, [.int v_terms_most, .ref a_this_terms_parts, .int v_terms_size])), (a_this_prices, .inl (G.2.1, 8, .inl v_prices)), (a_this_clashes, .inl (G.2.1, 8, .inl v_clashes)), (a_this_heldBits, .inl (G.2.1, 4, .inl v_heldBits)), (a_this_terms_parts, .inl (G.2.1, 50, .inl v_terms_parts)), (a_this_squareBits, .inl (G.2.1, 8, .inl v_squareBits))] s.heap.size = A at hD ⊢
  have hA : ∀ q : Nat, s.heap.size ≤ q → A q := fun q h => by rw [← hAe]; exact Or.inr h
  have hS : va_S A s.heap s.heap [] := va_S.rf
  have hP : va_P G.1 vwCl [(a_this, .inr (1, [.ref a_this_terms, .ref a_this_prices, .ref a_this_squareBits, .ref a_this_clashes, .ref a_this_starBits, .ref a_this_heldBits])), (a_p1, .inr (5, [.int v_p1_squares, .int v_p1_stars, .ref a_p1_starts, .ref a_p1_paces, .ref a_p1_brights, .int v_p1_tenants, .ref a_p1_purses, .ref a_p1_leases])), (a_p1_paces, .inl (G.2.1, 8, .inl v_p1_paces)), (a_p1_starts, .inl (G.2.1, 8, .inl v_p1_starts)), (a_this_starBits, .inl (G.2.1, 100, .inl v_starBits)), (a_this_terms, .inr (6, [.int v_terms_most, .ref a_this_terms_parts, .int v_terms_size])), (a_this_prices, .inl (G.2.1, 8, .inl v_prices)), (a_this_clashes, .inl (G.2.1, 8, .inl v_clashes)), (a_this_heldBits, .inl (G.2.1, 4, .inl v_heldBits)), (a_this_terms_parts, .inl (G.2.1, 50, .inl v_terms_parts)), (a_this_squareBits, .inl (G.2.1, 8, .inl v_squareBits))] s.heap := hP
  have hl := lv_entry ([.ref a_this, .ref a_p1, .int g2, .int g3]) (n := 8) (Nat.le_of_ble_eq_true rfl)
  have hent : entryFrame m args 8 = F0 m 0 ((lg_sl ([.ref a_this, .ref a_p1, .int g2, .int g3]) ++ List.replicate (8 - (lg_sl ([.ref a_this, .ref a_p1, .int g2, .int g3])).length) Slot.unset).toArray) [] := by rw [hargs]; exact lg_entry_eq m [.ref a_this, .ref a_p1, .int g2, .int g3] 8
  refine W.eq hent ?_
  clear hent
  generalize (lg_sl ([.ref a_this, .ref a_p1, .int g2, .int g3]) ++ List.replicate (8 - (lg_sl ([.ref a_this, .ref a_p1, .int g2, .int g3])).length) Slot.unset).toArray = ls at hl ⊢
  have hl : lv_has ls 8 [(0, .ref a_this), (1, .ref a_p1), (2, .int g2), (3, .int g3)] := hl
  generalize hQ : MQ below _ args s 0 0 _ = QQ
  change W p l e rm_X1_bestSet s m args below meth c s.heap [] 0 0 QQ _
  have j94 : ∀ (x2 : Int32), ∀ (x3 : Int32), ∀ (v_starBits : (Nat → Int32)), ∀ (k37 : Int32 → Int32 → Int32 → (Nat → Int32) → Option (Int32 × (Nat → Int32) × (Nat → Int32))), (∀ (x4 : Int32), ∀ (x5 : Int32), ∀ (x6 : Int32), ∀ (v_heldBits : (Nat → Int32)), ∀ (ls : Array Slot), lv_has ls 8 [(0, .ref a_this), (2, .int x2), (3, .int x3), (4, .int x4), (5, .int x5), (6, .int x6)] → ∀ (H : Heap) (locs : List Loc), va_P G.1 vwCl [(a_this, .inr (1, [.ref a_this_terms, .ref a_this_prices, .ref a_this_squareBits, .ref a_this_clashes, .ref a_this_starBits, .ref a_this_heldBits])), (a_p1, .inr (5, [.int v_p1_squares, .int v_p1_stars, .ref a_p1_starts, .ref a_p1_paces, .ref a_p1_brights, .int v_p1_tenants, .ref a_p1_purses, .ref a_p1_leases])), (a_p1_paces, .inl (G.2.1, 8, .inl v_p1_paces)), (a_p1_starts, .inl (G.2.1, 8, .inl v_p1_starts)), (a_this_starBits, .inl (G.2.1, 100, .inl v_starBits)), (a_this_terms, .inr (6, [.int v_terms_most, .ref a_this_terms_parts, .int v_terms_size])), (a_this_prices, .inl (G.2.1, 8, .inl v_prices)), (a_this_clashes, .inl (G.2.1, 8, .inl v_clashes)), (a_this_heldBits, .inl (G.2.1, 4, .inl v_heldBits)), (a_this_terms_parts, .inl (G.2.1, 50, .inl v_terms_parts)), (a_this_squareBits, .inl (G.2.1, 8, .inl v_squareBits))] H → va_D A [(a_this, .inr (1, [.ref a_this_terms, .ref a_this_prices, .ref a_this_squareBits, .ref a_this_clashes, .ref a_this_starBits, .ref a_this_heldBits])), (a_p1, .inr (5, [.int v_p1_squares, .int v_p1_stars, .ref a_p1_starts, .ref a_p1_paces, .ref a_p1_brights, .int v_p1_tenants, .ref a_p1_purses, .ref a_p1_leases])), (a_p1_paces, .inl (G.2.1, 8, .inl v_p1_paces)), (a_p1_starts, .inl (G.2.1, 8, .inl v_p1_starts)), (a_this_starBits, .inl (G.2.1, 100, .inl v_starBits)), (a_this_terms, .inr (6, [.int v_terms_most, .ref a_this_terms_parts, .int v_terms_size])), (a_this_prices, .inl (G.2.1, 8, .inl v_prices)), (a_this_clashes, .inl (G.2.1, 8, .inl v_clashes)), (a_this_heldBits, .inl (G.2.1, 4, .inl v_heldBits)), (a_this_terms_parts, .inl (G.2.1, 50, .inl v_terms_parts)), (a_this_squareBits, .inl (G.2.1, 8, .inl v_squareBits))] → va_S A s.heap H locs → k37 x4 x5 x6 v_heldBits = some (R0, R1, R2) → W p l e rm_X1_bestSet s m args below meth c H locs 0 0 QQ (F0 m 37 ls [])) → ∀ (x4 : Int32), ∀ (x5 : Int32), ∀ (x6 : Int32), ∀ (v_heldBits : (Nat → Int32)), ∀ (ls : Array Slot), lv_has ls 8 [(0, .ref a_this), (2, .int x2), (3, .int x3), (4, .int x4), (5, .int x5), (6, .int x6)] → ∀ (H : Heap) (locs : List Loc), va_P G.1 vwCl [(a_this, .inr (1, [.ref a_this_terms, .ref a_this_prices, .ref a_this_squareBits, .ref a_this_clashes, .ref a_this_starBits, .ref a_this_heldBits])), (a_p1, .inr (5, [.int v_p1_squares, .int v_p1_stars, .ref a_p1_starts, .ref a_p1_paces, .ref a_p1_brights, .int v_p1_tenants, .ref a_p1_purses, .ref a_p1_leases])), (a_p1_paces, .inl (G.2.1, 8, .inl v_p1_paces)), (a_p1_starts, .inl (G.2.1, 8, .inl v_p1_starts)), (a_this_starBits, .inl (G.2.1, 100, .inl v_starBits)), (a_this_terms, .inr (6, [.int v_terms_most, .ref a_this_terms_parts, .int v_terms_size])), (a_this_prices, .inl (G.2.1, 8, .inl v_prices)), (a_this_clashes, .inl (G.2.1, 8, .inl v_clashes)), (a_this_heldBits, .inl (G.2.1, 4, .inl v_heldBits)), (a_this_terms_parts, .inl (G.2.1, 50, .inl v_terms_parts)), (a_this_squareBits, .inl (G.2.1, 8, .inl v_squareBits))] H → va_D A [(a_this, .inr (1, [.ref a_this_terms, .ref a_this_prices, .ref a_this_squareBits, .ref a_this_clashes, .ref a_this_starBits, .ref a_this_heldBits])), (a_p1, .inr (5, [.int v_p1_squares, .int v_p1_stars, .ref a_p1_starts, .ref a_p1_paces, .ref a_p1_brights, .int v_p1_tenants, .ref a_p1_purses, .ref a_p1_leases])), (a_p1_paces, .inl (G.2.1, 8, .inl v_p1_paces)), (a_p1_starts, .inl (G.2.1, 8, .inl v_p1_starts)), (a_this_starBits, .inl (G.2.1, 100, .inl v_starBits)), (a_this_terms, .inr (6, [.int v_terms_most, .ref a_this_terms_parts, .int v_terms_size])), (a_this_prices, .inl (G.2.1, 8, .inl v_prices)), (a_this_clashes, .inl (G.2.1, 8, .inl v_clashes)), (a_this_heldBits, .inl (G.2.1, 4, .inl v_heldBits)), (a_this_terms_parts, .inl (G.2.1, 50, .inl v_terms_parts)), (a_this_squareBits, .inl (G.2.1, 8, .inl v_squareBits))] → va_S A s.heap H locs → f_X1_bestSet_b94 k37 x4 x5 x6 v_heldBits = some (R0, R1, R2) → W p l e rm_X1_bestSet s m args below meth c H locs 0 0 QQ (F0 m 94 ls []) := by
    intro x2 x3 v_starBits k37 hk37 x4 x5 x6 v_heldBits ls hl H locs hP hD hS hf
    unfold f_X1_bestSet_b94 at hf
    refine lv_iinc (v := (x6 + (1 : Int32))) (lv' := [(6, .int (x6 + (1 : Int32))), (0, .ref a_this), (2, .int x2), (3, .int x3), (4, .int x4), (5, .int x5)]) hx hb dX1_bestSet_94 hl (k := 5) rfl rfl (by decide) rfl (fun ls hl => ?_)
    refine lv_goto (tgt := 37) hx hb dX1_bestSet_97 (by decide) ?_
    exact hk37 (x4) (x5) ((x6 + (1 : Int32))) (v_heldBits) ls (lv_sub hl [1, 2, 3, 4, 5, 0] rfl) _ _ hP hD hS hf
  have j37 : ∀ (x2 : Int32), ∀ (x3 : Int32), ∀ (v_starBits : (Nat → Int32)), ∀ (nn : Nat), ∀ (x4 : Int32), ∀ (x5 : Int32), ∀ (x6 : Int32), ∀ (v_heldBits : (Nat → Int32)), ∀ (ls : Array Slot), lv_has ls 8 [(0, .ref a_this), (2, .int x2), (3, .int x3), (4, .int x4), (5, .int x5), (6, .int x6)] → ∀ (H : Heap) (locs : List Loc), va_P G.1 vwCl [(a_this, .inr (1, [.ref a_this_terms, .ref a_this_prices, .ref a_this_squareBits, .ref a_this_clashes, .ref a_this_starBits, .ref a_this_heldBits])), (a_p1, .inr (5, [.int v_p1_squares, .int v_p1_stars, .ref a_p1_starts, .ref a_p1_paces, .ref a_p1_brights, .int v_p1_tenants, .ref a_p1_purses, .ref a_p1_leases])), (a_p1_paces, .inl (G.2.1, 8, .inl v_p1_paces)), (a_p1_starts, .inl (G.2.1, 8, .inl v_p1_starts)), (a_this_starBits, .inl (G.2.1, 100, .inl v_starBits)), (a_this_terms, .inr (6, [.int v_terms_most, .ref a_this_terms_parts, .int v_terms_size])), (a_this_prices, .inl (G.2.1, 8, .inl v_prices)), (a_this_clashes, .inl (G.2.1, 8, .inl v_clashes)), (a_this_heldBits, .inl (G.2.1, 4, .inl v_heldBits)), (a_this_terms_parts, .inl (G.2.1, 50, .inl v_terms_parts)), (a_this_squareBits, .inl (G.2.1, 8, .inl v_squareBits))] H → va_D A [(a_this, .inr (1, [.ref a_this_terms, .ref a_this_prices, .ref a_this_squareBits, .ref a_this_clashes, .ref a_this_starBits, .ref a_this_heldBits])), (a_p1, .inr (5, [.int v_p1_squares, .int v_p1_stars, .ref a_p1_starts, .ref a_p1_paces, .ref a_p1_brights, .int v_p1_tenants, .ref a_p1_purses, .ref a_p1_leases])), (a_p1_paces, .inl (G.2.1, 8, .inl v_p1_paces)), (a_p1_starts, .inl (G.2.1, 8, .inl v_p1_starts)), (a_this_starBits, .inl (G.2.1, 100, .inl v_starBits)), (a_this_terms, .inr (6, [.int v_terms_most, .ref a_this_terms_parts, .int v_terms_size])), (a_this_prices, .inl (G.2.1, 8, .inl v_prices)), (a_this_clashes, .inl (G.2.1, 8, .inl v_clashes)), (a_this_heldBits, .inl (G.2.1, 4, .inl v_heldBits)), (a_this_terms_parts, .inl (G.2.1, 50, .inl v_terms_parts)), (a_this_squareBits, .inl (G.2.1, 8, .inl v_squareBits))] → va_S A s.heap H locs → f_X1_bestSet_b37 v_terms_size v_prices v_clashes v_terms_parts v_squareBits x2 x3 v_starBits nn x4 x5 x6 v_heldBits = some (R0, R1, R2) → W p l e rm_X1_bestSet s m args below meth c H locs 0 0 QQ (F0 m 37 ls []) := by
    intro x2 x3 v_starBits
    intro nn
    induction nn with
    | zero =>
      intro x4 x5 x6 v_heldBits ls hl H locs hP hD hS hf
      rw [f_X1_bestSet_b37] at hf
      cases hf
    | succ n37 ih =>
      intro x4 x5 x6 v_heldBits ls hl H locs hP hD hS hf
      rw [f_X1_bestSet_b37] at hf
      refine lv_iload hx hb dX1_bestSet_37 (lv_at hl 5 rfl) ?_
      refine lv_iconst (v := (1 : Int32)) hx hb dX1_bestSet_39 (by decide) ?_
      refine lv_aload_n hx hb dX1_bestSet_40 rfl (lv_at hl 0 rfl) ?_
      refine va_get (D := G.1) (ci := 1) (v := .ref a_this_terms) (C := RX1) (T := TX1) (N := 6) hx hb hts inX1 hown hK hP 0 rfl rfl 0 (by decide) lk14 (fun _ h9 => h9) rfl dX1_bestSet_41 ?_
      refine va_get (D := G.1) (ci := 6) (v := .int v_terms_size) (C := RX6) (T := TX6) (N := 3) hx hb hts inX6 hown hK hP 5 rfl rfl 2 (by decide) lk36 (fun _ h9 => h9) rfl dX1_bestSet_44 ?_
      refine lv_ishl hx hb dX1_bestSet_47 ?_
      refine lv_icmp_ge (tgt := 100) hx hb dX1_bestSet_48 (by decide) (fun hc13 => ?_) (fun hc13 => ?_)
      · have hf := if_t hf hc13
        refine lv_iload hx hb dX1_bestSet_100 (lv_at hl 3 rfl) ?_
        obtain ⟨hr0, hr1, hr2⟩ := so3 hf
        subst hr0
        subst hr1
        subst hr2
        rw [← hQ]
        exact W.iret (v := x4) hx hb hr (fun t ht hW => ⟨⟨rfl, by rw [ht]; exact hP⟩, hS.F ht⟩) hS.2.2 dX1_bestSet_102
      · have hf := if_f hf hc13
        refine lv_aload_n hx hb dX1_bestSet_51 rfl (lv_at hl 0 rfl) ?_
        refine lv_iload hx hb dX1_bestSet_52 (lv_at hl 5 rfl) ?_
        obtain ⟨r14, hu, hf⟩ := bd1_some hf
        refine zRi (va_runV (As := [.int x6]) (rest := []) hC (c_X1_priceOf l G a_this a_this_terms a_this_prices a_this_squareBits a_this_clashes a_this_starBits a_this_heldBits a_this_terms_parts (v_terms_most) (v_terms_size) (v_prices) (x6) r14 hu) (cwV 1 hts gX1_bestSet_X1_priceOf rfl rfl rfl hd_X1_priceOf ⟨(Nat.le_of_ble_eq_true rfl), (Nat.le_of_ble_eq_true rfl)⟩) (zPV hE hP [0, 5, 6] rfl 0 rfl rfl) rfl rfl hl.1 rfl (lv_room (Nat.le_of_ble_eq_true rfl)) dX1_bestSet_54 ⟨Nat.zero_le _, Nat.zero_le _⟩) ?_
        refine lv_istore (lv' := [(7, .int r14), (0, .ref a_this), (2, .int x2), (3, .int x3), (4, .int x4), (5, .int x5), (6, .int x6)]) hx hb dX1_bestSet_57 hl (by decide) rfl (fun ls hl => ?_)
        refine lv_iload hx hb dX1_bestSet_59 (lv_at hl 0 rfl) ?_
        refine lv_iload hx hb dX1_bestSet_61 (lv_at hl 5 rfl) ?_
        refine lv_icmp_le (tgt := 94) hx hb dX1_bestSet_63 (by decide) (fun hc15 => ?_) (fun hc15 => ?_)
        · have hf := if_t hf hc15
          exact j94 (x2) (x3) (v_starBits) (f_X1_bestSet_b37 v_terms_size v_prices v_clashes v_terms_parts v_squareBits x2 x3 v_starBits n37) ih (x4) (x5) (x6) (v_heldBits) ls (lv_sub hl [1, 2, 3, 4, 5, 6] rfl) _ _ hP hD hS hf
        · have hf := if_f hf hc15
          refine lv_aload_n hx hb dX1_bestSet_66 rfl (lv_at hl 1 rfl) ?_
          refine lv_iload hx hb dX1_bestSet_67 (lv_at hl 6 rfl) ?_
          obtain ⟨r16, hu, hf⟩ := bd1_some hf
          refine zRi (va_runV (As := [.int x6]) (rest := []) hC (c_X1_clashesWithin l G a_this a_this_terms a_this_clashes a_this_prices a_this_squareBits a_this_starBits a_this_heldBits a_this_terms_parts (v_terms_most) (v_terms_size) (v_clashes) (x6) r16 hu) (cwV 1 hts gX1_bestSet_X1_clashesWithin rfl rfl rfl hd_X1_clashesWithin ⟨(Nat.le_of_ble_eq_true rfl), (Nat.le_of_ble_eq_true rfl)⟩) (zPV hE hP [0, 5, 7] rfl 0 rfl rfl) rfl rfl hl.1 rfl (lv_room (Nat.le_of_ble_eq_true rfl)) dX1_bestSet_69 ⟨Nat.zero_le _, Nat.zero_le _⟩) ?_
          refine lv_if_ne (tgt := 94) hx hb dX1_bestSet_72 (by decide) (fun hc17 => ?_) (fun hc17 => ?_)
          · have hf := if_f hf hc17
            exact j94 (x2) (x3) (v_starBits) (f_X1_bestSet_b37 v_terms_size v_prices v_clashes v_terms_parts v_squareBits x2 x3 v_starBits n37) ih (x4) (x5) (x6) (v_heldBits) ls (lv_sub hl [1, 2, 3, 4, 5, 6] rfl) _ _ hP hD hS hf
          · have hf := if_t hf hc17
            refine lv_aload_n hx hb dX1_bestSet_75 rfl (lv_at hl 1 rfl) ?_
            refine lv_iload hx hb dX1_bestSet_76 (lv_at hl 6 rfl) ?_
            refine lv_iload_n hx hb dX1_bestSet_78 rfl (lv_at hl 2 rfl) ?_
            refine lv_iload_n hx hb dX1_bestSet_79 rfl (lv_at hl 3 rfl) ?_
            obtain ⟨r18, w19, hu, hf⟩ := bd2_some hf
            refine zWi (wr := [(a_p1, .inr (5, [.int v_p1_squares, .int v_p1_stars, .ref a_p1_starts, .ref a_p1_paces, .ref a_p1_brights, .int v_p1_tenants, .ref a_p1_purses, .ref a_p1_leases])), (a_p1_paces, .inl (G.2.1, 8, .inl v_p1_paces)), (a_p1_starts, .inl (G.2.1, 8, .inl v_p1_starts)), (a_this_prices, .inl (G.2.1, 8, .inl v_prices)), (a_this_clashes, .inl (G.2.1, 8, .inl v_clashes))]) (ws2 := [(a_this, .inr (1, [.ref a_this_terms, .ref a_this_prices, .ref a_this_squareBits, .ref a_this_clashes, .ref a_this_starBits, .ref a_this_heldBits])), (a_p1, .inr (5, [.int v_p1_squares, .int v_p1_stars, .ref a_p1_starts, .ref a_p1_paces, .ref a_p1_brights, .int v_p1_tenants, .ref a_p1_purses, .ref a_p1_leases])), (a_p1_paces, .inl (G.2.1, 8, .inl v_p1_paces)), (a_p1_starts, .inl (G.2.1, 8, .inl v_p1_starts)), (a_this_starBits, .inl (G.2.1, 100, .inl v_starBits)), (a_this_terms, .inr (6, [.int v_terms_most, .ref a_this_terms_parts, .int v_terms_size])), (a_this_prices, .inl (G.2.1, 8, .inl v_prices)), (a_this_clashes, .inl (G.2.1, 8, .inl v_clashes)), (a_this_heldBits, .inl (G.2.1, 4, .inl w19)), (a_this_terms_parts, .inl (G.2.1, 50, .inl v_terms_parts)), (a_this_squareBits, .inl (G.2.1, 8, .inl v_squareBits))]) (va_runV (As := [.int x6, .int x2, .int x3]) (rest := []) hC (c_X1_isDarkWithin l G _ a_this a_this_heldBits a_this_terms a_this_terms_parts a_this_squareBits a_this_starBits a_this_prices a_this_clashes (v_heldBits) (v_terms_most) (v_terms_size) (v_terms_parts) (v_squareBits) (v_starBits) (x6) (x2) (x3) r18 w19 hu) (cwV 3 hts gX1_bestSet_X1_isDarkWithin rfl rfl rfl hd_X1_isDarkWithin ⟨(Nat.le_of_ble_eq_true rfl), (Nat.le_of_ble_eq_true rfl)⟩) (zPVw hE hP hD [0, 8, 5, 9, 10, 4] rfl rfl 0 rfl rfl) rfl rfl hl.1 rfl (lv_room (Nat.le_of_ble_eq_true rfl)) dX1_bestSet_80 ⟨Nat.zero_le _, Nat.zero_le _⟩) hP hD hS hA [0, 8, 5, 9, 10, 4] [1, 2, 3, 6, 7] [5, 0, 1, 2, 10, 7, 3, 4, 6, 8, 9] rfl rfl rfl rfl (by decide) rfl rfl rfl (fun H locs hP hD hS => ?_)
            refine lv_if_ne (tgt := 94) hx hb dX1_bestSet_83 (by decide) (fun hc20 => ?_) (fun hc20 => ?_)
            · have hf := if_f hf hc20
              exact j94 (x2) (x3) (v_starBits) (f_X1_bestSet_b37 v_terms_size v_prices v_clashes v_terms_parts v_squareBits x2 x3 v_starBits n37) ih (x4) (x5) (x6) (w19) ls (lv_sub hl [1, 2, 3, 4, 5, 6] rfl) _ _ hP hD hS hf
            · have hf := if_t hf hc20
              refine lv_iload hx hb dX1_bestSet_86 (lv_at hl 6 rfl) ?_
              refine lv_istore (lv' := [(4, .int x6), (7, .int r14), (0, .ref a_this), (2, .int x2), (3, .int x3), (5, .int x5), (6, .int x6)]) hx hb dX1_bestSet_88 hl (by decide) rfl (fun ls hl => ?_)
              refine lv_iload hx hb dX1_bestSet_90 (lv_at hl 1 rfl) ?_
              refine lv_istore (lv' := [(5, .int r14), (4, .int x6), (7, .int r14), (0, .ref a_this), (2, .int x2), (3, .int x3), (6, .int x6)]) hx hb dX1_bestSet_92 hl (by decide) rfl (fun ls hl => ?_)
              exact j94 (x2) (x3) (v_starBits) (f_X1_bestSet_b37 v_terms_size v_prices v_clashes v_terms_parts v_squareBits x2 x3 v_starBits n37) ih (x6) (r14) (x6) (w19) ls (lv_sub hl [3, 4, 5, 1, 0, 6] rfl) _ _ hP hD hS hf
  have j3 : ∀ (x2 : Int32), ∀ (x3 : Int32), ∀ (v_heldBits : (Nat → Int32)), ∀ (nn : Nat), ∀ (x4 : Int32), ∀ (v_starBits : (Nat → Int32)), ∀ (ls : Array Slot), lv_has ls 8 [(0, .ref a_this), (1, .ref a_p1), (2, .int x2), (3, .int x3), (4, .int x4)] → ∀ (H : Heap) (locs : List Loc), va_P G.1 vwCl [(a_this, .inr (1, [.ref a_this_terms, .ref a_this_prices, .ref a_this_squareBits, .ref a_this_clashes, .ref a_this_starBits, .ref a_this_heldBits])), (a_p1, .inr (5, [.int v_p1_squares, .int v_p1_stars, .ref a_p1_starts, .ref a_p1_paces, .ref a_p1_brights, .int v_p1_tenants, .ref a_p1_purses, .ref a_p1_leases])), (a_p1_paces, .inl (G.2.1, 8, .inl v_p1_paces)), (a_p1_starts, .inl (G.2.1, 8, .inl v_p1_starts)), (a_this_starBits, .inl (G.2.1, 100, .inl v_starBits)), (a_this_terms, .inr (6, [.int v_terms_most, .ref a_this_terms_parts, .int v_terms_size])), (a_this_prices, .inl (G.2.1, 8, .inl v_prices)), (a_this_clashes, .inl (G.2.1, 8, .inl v_clashes)), (a_this_heldBits, .inl (G.2.1, 4, .inl v_heldBits)), (a_this_terms_parts, .inl (G.2.1, 50, .inl v_terms_parts)), (a_this_squareBits, .inl (G.2.1, 8, .inl v_squareBits))] H → va_D A [(a_this, .inr (1, [.ref a_this_terms, .ref a_this_prices, .ref a_this_squareBits, .ref a_this_clashes, .ref a_this_starBits, .ref a_this_heldBits])), (a_p1, .inr (5, [.int v_p1_squares, .int v_p1_stars, .ref a_p1_starts, .ref a_p1_paces, .ref a_p1_brights, .int v_p1_tenants, .ref a_p1_purses, .ref a_p1_leases])), (a_p1_paces, .inl (G.2.1, 8, .inl v_p1_paces)), (a_p1_starts, .inl (G.2.1, 8, .inl v_p1_starts)), (a_this_starBits, .inl (G.2.1, 100, .inl v_starBits)), (a_this_terms, .inr (6, [.int v_terms_most, .ref a_this_terms_parts, .int v_terms_size])), (a_this_prices, .inl (G.2.1, 8, .inl v_prices)), (a_this_clashes, .inl (G.2.1, 8, .inl v_clashes)), (a_this_heldBits, .inl (G.2.1, 4, .inl v_heldBits)), (a_this_terms_parts, .inl (G.2.1, 50, .inl v_terms_parts)), (a_this_squareBits, .inl (G.2.1, 8, .inl v_squareBits))] → va_S A s.heap H locs → f_X1_bestSet_b3 v_p1_squares v_p1_stars v_p1_paces v_p1_starts v_terms_size v_prices v_clashes v_terms_parts v_squareBits x2 x3 v_heldBits nn x4 v_starBits = some (R0, R1, R2) → W p l e rm_X1_bestSet s m args below meth c H locs 0 0 QQ (F0 m 3 ls []) := by
    intro x2 x3 v_heldBits
    intro nn
    induction nn with
    | zero =>
      intro x4 v_starBits ls hl H locs hP hD hS hf
      rw [f_X1_bestSet_b3] at hf
      cases hf
    | succ n3 ih =>
      intro x4 v_starBits ls hl H locs hP hD hS hf
      rw [f_X1_bestSet_b3] at hf
      refine lv_iload hx hb dX1_bestSet_3 (lv_at hl 4 rfl) ?_
      refine lv_iload_n hx hb dX1_bestSet_5 rfl (lv_at hl 3 rfl) ?_
      refine lv_icmp_gt (tgt := 28) hx hb dX1_bestSet_6 (by decide) (fun hc21 => ?_) (fun hc21 => ?_)
      · have hf := if_t hf hc21
        refine lv_iconst (v := (0 : Int32)) hx hb dX1_bestSet_28 (by decide) ?_
        refine lv_istore (lv' := [(4, .int (0 : Int32)), (0, .ref a_this), (1, .ref a_p1), (2, .int x2), (3, .int x3)]) hx hb dX1_bestSet_29 hl (by decide) rfl (fun ls hl => ?_)
        refine lv_iconst (v := (0 : Int32)) hx hb dX1_bestSet_31 (by decide) ?_
        refine lv_istore (lv' := [(5, .int (0 : Int32)), (4, .int (0 : Int32)), (0, .ref a_this), (1, .ref a_p1), (2, .int x2), (3, .int x3)]) hx hb dX1_bestSet_32 hl (by decide) rfl (fun ls hl => ?_)
        refine lv_iconst (v := (1 : Int32)) hx hb dX1_bestSet_34 (by decide) ?_
        refine lv_istore (lv' := [(6, .int (1 : Int32)), (5, .int (0 : Int32)), (4, .int (0 : Int32)), (0, .ref a_this), (1, .ref a_p1), (2, .int x2), (3, .int x3)]) hx hb dX1_bestSet_35 hl (by decide) rfl (fun ls hl => ?_)
        exact j37 (x2) (x3) (v_starBits) zF ((0 : Int32)) ((0 : Int32)) ((1 : Int32)) (v_heldBits) ls (lv_sub hl [3, 5, 6, 2, 1, 0] rfl) _ _ hP hD hS hf
      · have hf := if_f hf hc21
        refine lv_aload_n hx hb dX1_bestSet_9 rfl (lv_at hl 0 rfl) ?_
        refine va_get (D := G.1) (ci := 1) (v := .ref a_this_starBits) (C := RX1) (T := TX1) (N := 6) hx hb hts inX1 hown hK hP 0 rfl rfl 4 (by decide) lk30 (fun _ h9 => h9) rfl dX1_bestSet_10 ?_
        refine lv_iload hx hb dX1_bestSet_13 (lv_at hl 4 rfl) ?_
        refine lv_aload_n hx hb dX1_bestSet_15 rfl (lv_at hl 1 rfl) ?_
        refine lv_iload hx hb dX1_bestSet_16 (lv_at hl 4 rfl) ?_
        obtain ⟨r22, hu, hf⟩ := bd1_some hf
        refine zRi (va_runV (As := [.int x4]) (rest := [.int x4, .ref a_this_starBits]) hC (c_X5_squaresWithStars l G a_p1 a_p1_paces a_p1_starts a_p1_brights a_p1_purses a_p1_leases (v_p1_squares) (v_p1_stars) (v_p1_tenants) (v_p1_paces) (v_p1_starts) (x4) r22 hu) (cwV 1 hts gX1_bestSet_X5_squaresWithStars rfl rfl rfl hd_X5_squaresWithStars ⟨(Nat.le_of_ble_eq_true rfl), (Nat.le_of_ble_eq_true rfl)⟩) (zPV hE hP [1, 2, 3] rfl 1 rfl rfl) rfl rfl hl.1 rfl (lv_room (Nat.le_of_ble_eq_true rfl)) dX1_bestSet_18 ⟨Nat.zero_le _, Nat.zero_le _⟩) ?_
        obtain ⟨hg23, hf⟩ := gd_some hf
        refine z_iast hx hb hK hP hD hS 4 0 rfl rfl (inB_in hg23) dX1_bestSet_21 (fun gg => [(a_this, .inr (1, [.ref a_this_terms, .ref a_this_prices, .ref a_this_squareBits, .ref a_this_clashes, .ref a_this_starBits, .ref a_this_heldBits])), (a_p1, .inr (5, [.int v_p1_squares, .int v_p1_stars, .ref a_p1_starts, .ref a_p1_paces, .ref a_p1_brights, .int v_p1_tenants, .ref a_p1_purses, .ref a_p1_leases])), (a_p1_paces, .inl (G.2.1, 8, .inl v_p1_paces)), (a_p1_starts, .inl (G.2.1, 8, .inl v_p1_starts)), (a_this_starBits, .inl (G.2.1, 100, .inl gg)), (a_this_terms, .inr (6, [.int v_terms_most, .ref a_this_terms_parts, .int v_terms_size])), (a_this_prices, .inl (G.2.1, 8, .inl v_prices)), (a_this_clashes, .inl (G.2.1, 8, .inl v_clashes)), (a_this_heldBits, .inl (G.2.1, 4, .inl v_heldBits)), (a_this_terms_parts, .inl (G.2.1, 50, .inl v_terms_parts)), (a_this_squareBits, .inl (G.2.1, 8, .inl v_squareBits))]) (fun gg => rfl) (fun y24 H locs ey24 hP hD hS => ?_)
        have hf := nm_to hf ey24
        have hP : va_P G.1 vwCl [(a_this, .inr (1, [.ref a_this_terms, .ref a_this_prices, .ref a_this_squareBits, .ref a_this_clashes, .ref a_this_starBits, .ref a_this_heldBits])), (a_p1, .inr (5, [.int v_p1_squares, .int v_p1_stars, .ref a_p1_starts, .ref a_p1_paces, .ref a_p1_brights, .int v_p1_tenants, .ref a_p1_purses, .ref a_p1_leases])), (a_p1_paces, .inl (G.2.1, 8, .inl v_p1_paces)), (a_p1_starts, .inl (G.2.1, 8, .inl v_p1_starts)), (a_this_starBits, .inl (G.2.1, 100, .inl y24)), (a_this_terms, .inr (6, [.int v_terms_most, .ref a_this_terms_parts, .int v_terms_size])), (a_this_prices, .inl (G.2.1, 8, .inl v_prices)), (a_this_clashes, .inl (G.2.1, 8, .inl v_clashes)), (a_this_heldBits, .inl (G.2.1, 4, .inl v_heldBits)), (a_this_terms_parts, .inl (G.2.1, 50, .inl v_terms_parts)), (a_this_squareBits, .inl (G.2.1, 8, .inl v_squareBits))] H := hP
        have hD : va_D A [(a_this, .inr (1, [.ref a_this_terms, .ref a_this_prices, .ref a_this_squareBits, .ref a_this_clashes, .ref a_this_starBits, .ref a_this_heldBits])), (a_p1, .inr (5, [.int v_p1_squares, .int v_p1_stars, .ref a_p1_starts, .ref a_p1_paces, .ref a_p1_brights, .int v_p1_tenants, .ref a_p1_purses, .ref a_p1_leases])), (a_p1_paces, .inl (G.2.1, 8, .inl v_p1_paces)), (a_p1_starts, .inl (G.2.1, 8, .inl v_p1_starts)), (a_this_starBits, .inl (G.2.1, 100, .inl y24)), (a_this_terms, .inr (6, [.int v_terms_most, .ref a_this_terms_parts, .int v_terms_size])), (a_this_prices, .inl (G.2.1, 8, .inl v_prices)), (a_this_clashes, .inl (G.2.1, 8, .inl v_clashes)), (a_this_heldBits, .inl (G.2.1, 4, .inl v_heldBits)), (a_this_terms_parts, .inl (G.2.1, 50, .inl v_terms_parts)), (a_this_squareBits, .inl (G.2.1, 8, .inl v_squareBits))] := hD
        refine lv_iinc (v := (x4 + (1 : Int32))) (lv' := [(4, .int (x4 + (1 : Int32))), (0, .ref a_this), (1, .ref a_p1), (2, .int x2), (3, .int x3)]) hx hb dX1_bestSet_22 hl (k := 4) rfl rfl (by decide) rfl (fun ls hl => ?_)
        refine lv_goto (tgt := 3) hx hb dX1_bestSet_25 (by decide) ?_
        exact ih ((x4 + (1 : Int32))) (y24) ls (lv_sub hl [1, 2, 3, 4, 0] rfl) _ _ hP hD hS hf
  have hSH := hS
  unfold f_X1_bestSet at hf
  refine lv_iload_n hx hb dX1_bestSet_0 rfl (lv_at hl 2 rfl) ?_
  refine lv_istore (lv' := [(4, .int g2), (0, .ref a_this), (1, .ref a_p1), (2, .int g2), (3, .int g3)]) hx hb dX1_bestSet_1 hl (by decide) rfl (fun ls hl => ?_)
  exact j3 (g2) (g3) (v_heldBits) zF (g2) (v_starBits) ls (lv_sub hl [1, 2, 3, 4, 0] rfl) _ _ hP hD hS hf
