def f_X9_hasLease_b77  (k5 : Int32 → Int32 → Option (Int32))  (x4 : Int32) (t0 : Int32) : Option (Int32) := k5 (t0) ((x4 + (1 : Int32)))
def f_X9_hasLease_b72  (k5 : Int32 → Int32 → Option (Int32))  (x4 : Int32) : Option (Int32) := f_X9_hasLease_b77 k5 (x4) ((1 : Int32))
def f_X9_hasLease_b76  (k5 : Int32 → Int32 → Option (Int32))  (x4 : Int32) : Option (Int32) := f_X9_hasLease_b77 k5 (x4) ((0 : Int32))
def f_X9_hasLease_b5 (v_s : (Nat → Int32))  (x1 : Int32) (x2 : Int32) : Nat → Int32 → Int32 → Option (Int32)
  | 0, _, _ => none
  | n5 + 1, x3, x4 => gd (inB (6 : Int32) 100) (if (v_s ((6 : Int32)).toNatClampNeg) ≤ x4 then (gd (bzB x3) (some (x3))) else (if x3 = (0 : Int32) then (gd (inB ((7 : Int32) + ((5 : Int32) * x4)) 100) (if (v_s (((7 : Int32) + ((5 : Int32) * x4))).toNatClampNeg) = x1 then (gd (inB (((7 : Int32) + ((5 : Int32) * x4)) + (3 : Int32)) 100) (gd (inB (((7 : Int32) + ((5 : Int32) * x4)) + (4 : Int32)) 100) (bd1 (f_X9_in (x2) ((v_s ((((7 : Int32) + ((5 : Int32) * x4)) + (3 : Int32))).toNatClampNeg)) ((v_s ((((7 : Int32) + ((5 : Int32) * x4)) + (4 : Int32))).toNatClampNeg))) fun r19 => if r19 = (0 : Int32) then (f_X9_hasLease_b76 (f_X9_hasLease_b5 v_s x1 x2 n5) (x4)) else (f_X9_hasLease_b72 (f_X9_hasLease_b5 v_s x1 x2 n5) (x4))))) else (f_X9_hasLease_b76 (f_X9_hasLease_b5 v_s x1 x2 n5) (x4)))) else (f_X9_hasLease_b72 (f_X9_hasLease_b5 v_s x1 x2 n5) (x4))))
def f_X9_hasLease  (v_s : (Nat → Int32)) (g1 : Int32) (g2 : Int32) : Option (Int32) := f_X9_hasLease_b5 v_s (g1) (g2) zF ((0 : Int32)) ((0 : Int32))
abbrev rm_X9_hasLease : Room := { frames := 1, cells := 0, slots := 0, locals := 22 }
set_option maxHeartbeats 4000000 in
set_option maxRecDepth 100000 in
theorem c_X9_hasLease (l : Launch) (G : zG) (a_this : Nat) (a_this_s : Nat) (a_this_text : Nat) (a_this_stars : Nat) (a_this_purses : Nat) (a_this_leases : Nat) (a_this_kept : Nat) (a_this_isKept : Nat) (a_this_offers : Nat) (a_this_seen : Nat) (v_thrown : Int32) (v_trace : Int64) (v_typed : Int32) (v_next : Int32) (v_token : Int32) (v_place : Int32) (v_value : Int32) (v_fault : Int32) (v_squares : Int32) (v_starMany : Int32) (v_tenants : Int32) (v_draftSquares : Int32) (v_draftStars : Int32) (v_draftTenants : Int32) (v_draftLeases : Int32) (v_offerMany : Int32) (v_seenMany : Int32) (v_s : (Nat → Int32)) (g1 : Int32) (g2 : Int32) (R0 : Int32) (hf : f_X9_hasLease v_s g1 g2 = some R0) : Met l yX9_hasLease wsX9_hasLease rm_X9_hasLease (va_Pc [.ref a_this, .int g1, .int g2] (zR G [(a_this, .inr (9, [.int v_thrown, .long v_trace, .ref a_this_text, .int v_typed, .int v_next, .int v_token, .int v_place, .int v_value, .int v_fault, .int v_squares, .ref a_this_stars, .ref a_this_purses, .ref a_this_leases, .int v_starMany, .int v_tenants, .int v_draftSquares, .int v_draftStars, .int v_draftTenants, .int v_draftLeases, .ref a_this_s, .ref a_this_kept, .ref a_this_isKept, .ref a_this_offers, .int v_offerMany, .ref a_this_seen, .int v_seenMany])), (a_this_s, .inl (G.2.1, 100, .inl v_s))])) (zSv (some (.int R0))) 0 0 (fun _ => False) := by
  refine Met.ofW (cc := cX9_hasLease) (maxL := 5) (ret := (some .boolean)) (by decide) rfl ?_
  intro p e s m args below meth c s₁ B hml hv
  obtain ⟨hargs, hP, hE⟩ := hv
  have hx := B.exec
  have hb := B.bytes
  have hr := B.returns
  have hts := atoms_spec (ws := wsX9_hasLease) B.pre
  have hown : s.vm.findClass RX9 = some m.cls := findClass_of_methodNamed B.named
  have hlocks := B.notSynchronized
  have hK := hE.1
  have hC : CallFix p m c cX9_hasLease 5 s args wsX9_hasLease RX9 := ⟨hx, hb, hml, hown, hts⟩
  have inX9 : ∀ w ∈ wsX90, w ∈ wsX9_hasLease := by decide +kernel
  have lk22 := hts (.fieldLink RX9 22 "SkyLeasesModel" "s" "[I") (by decide +kernel)
  have hl := lv_entry ([.ref a_this, .int g1, .int g2]) (n := 5) (Nat.le_of_ble_eq_true rfl)
  have hent : entryFrame m args 5 = F0 m 0 ((lg_sl ([.ref a_this, .int g1, .int g2]) ++ List.replicate (5 - (lg_sl ([.ref a_this, .int g1, .int g2])).length) Slot.unset).toArray) [] := by rw [hargs]; exact lg_entry_eq m [.ref a_this, .int g1, .int g2] 5
  refine W.eq hent ?_
  clear hent
  generalize (lg_sl ([.ref a_this, .int g1, .int g2]) ++ List.replicate (5 - (lg_sl ([.ref a_this, .int g1, .int g2])).length) Slot.unset).toArray = ls at hl ⊢
  have hl : lv_has ls 5 [(0, .ref a_this), (1, .int g1), (2, .int g2)] := hl
  generalize hQ : MQ below _ args s 0 0 _ = QQ
  change W p l e rm_X9_hasLease s m args below meth c s.heap [] 0 0 QQ _
  have j77 : ∀ (x1 : Int32), ∀ (x2 : Int32), ∀ (k5 : Int32 → Int32 → Option (Int32)), (∀ (x3 : Int32), ∀ (x4 : Int32), ∀ (ls : Array Slot), lv_has ls 5 [(0, .ref a_this), (1, .int x1), (2, .int x2), (3, .int x3), (4, .int x4)] → k5 x3 x4 = some R0 → W p l e rm_X9_hasLease s m args below meth c s.heap [] 0 0 QQ (F0 m 5 ls [])) → ∀ (x4 : Int32), ∀ (t0 : Int32), ∀ (ls : Array Slot), lv_has ls 5 [(0, .ref a_this), (1, .int x1), (2, .int x2), (4, .int x4)] → f_X9_hasLease_b77 k5 x4 t0 = some R0 → W p l e rm_X9_hasLease s m args below meth c s.heap [] 0 0 QQ (F0 m 77 ls [.int t0]) := by
    intro x1 x2 k5 hk5 x4 t0 ls hl hf
    unfold f_X9_hasLease_b77 at hf
    refine lv_istore_n (lv' := [(3, .int t0), (0, .ref a_this), (1, .int x1), (2, .int x2), (4, .int x4)]) hx hb dX9_hasLease_77 rfl hl (by decide) rfl (fun ls hl => ?_)
    refine lv_iinc (v := (x4 + (1 : Int32))) (lv' := [(4, .int (x4 + (1 : Int32))), (3, .int t0), (0, .ref a_this), (1, .int x1), (2, .int x2)]) hx hb dX9_hasLease_78 hl (k := 4) rfl rfl (by decide) rfl (fun ls hl => ?_)
    refine lv_goto (tgt := 5) hx hb dX9_hasLease_81 (by decide) ?_
    exact hk5 (t0) ((x4 + (1 : Int32))) ls (lv_sub hl [2, 3, 4, 1, 0] rfl) hf
  have j72 : ∀ (x1 : Int32), ∀ (x2 : Int32), ∀ (k5 : Int32 → Int32 → Option (Int32)), (∀ (x3 : Int32), ∀ (x4 : Int32), ∀ (ls : Array Slot), lv_has ls 5 [(0, .ref a_this), (1, .int x1), (2, .int x2), (3, .int x3), (4, .int x4)] → k5 x3 x4 = some R0 → W p l e rm_X9_hasLease s m args below meth c s.heap [] 0 0 QQ (F0 m 5 ls [])) → ∀ (x4 : Int32), ∀ (ls : Array Slot), lv_has ls 5 [(0, .ref a_this), (1, .int x1), (2, .int x2), (4, .int x4)] → f_X9_hasLease_b72 k5 x4 = some R0 → W p l e rm_X9_hasLease s m args below meth c s.heap [] 0 0 QQ (F0 m 72 ls []) := by
    intro x1 x2 k5 hk5 x4 ls hl hf
    unfold f_X9_hasLease_b72 at hf
    refine lv_iconst (v := (1 : Int32)) hx hb dX9_hasLease_72 (by decide) ?_
    refine lv_goto (tgt := 77) hx hb dX9_hasLease_73 (by decide) ?_
    exact j77 (x1) (x2) k5 hk5 (x4) ((1 : Int32)) ls (lv_sub hl [0, 1, 2, 3] rfl) hf
  have j76 : ∀ (x1 : Int32), ∀ (x2 : Int32), ∀ (k5 : Int32 → Int32 → Option (Int32)), (∀ (x3 : Int32), ∀ (x4 : Int32), ∀ (ls : Array Slot), lv_has ls 5 [(0, .ref a_this), (1, .int x1), (2, .int x2), (3, .int x3), (4, .int x4)] → k5 x3 x4 = some R0 → W p l e rm_X9_hasLease s m args below meth c s.heap [] 0 0 QQ (F0 m 5 ls [])) → ∀ (x4 : Int32), ∀ (ls : Array Slot), lv_has ls 5 [(0, .ref a_this), (1, .int x1), (2, .int x2), (4, .int x4)] → f_X9_hasLease_b76 k5 x4 = some R0 → W p l e rm_X9_hasLease s m args below meth c s.heap [] 0 0 QQ (F0 m 76 ls []) := by
    intro x1 x2 k5 hk5 x4 ls hl hf
    unfold f_X9_hasLease_b76 at hf
    refine lv_iconst (v := (0 : Int32)) hx hb dX9_hasLease_76 (by decide) ?_
    exact j77 (x1) (x2) k5 hk5 (x4) ((0 : Int32)) ls (lv_sub hl [0, 1, 2, 3] rfl) hf
  have j5 : ∀ (x1 : Int32), ∀ (x2 : Int32), ∀ (nn : Nat), ∀ (x3 : Int32), ∀ (x4 : Int32), ∀ (ls : Array Slot), lv_has ls 5 [(0, .ref a_this), (1, .int x1), (2, .int x2), (3, .int x3), (4, .int x4)] → f_X9_hasLease_b5 v_s x1 x2 nn x3 x4 = some R0 → W p l e rm_X9_hasLease s m args below meth c s.heap [] 0 0 QQ (F0 m 5 ls []) := by
    intro x1 x2
    intro nn
    induction nn with
    | zero =>
      intro x3 x4 ls hl hf
      rw [f_X9_hasLease_b5] at hf
      cases hf
    | succ n5 ih =>
      intro x3 x4 ls hl hf
      rw [f_X9_hasLease_b5] at hf
      refine lv_iload hx hb dX9_hasLease_5 (lv_at hl 4 rfl) ?_
      refine lv_aload_n hx hb dX9_hasLease_7 rfl (lv_at hl 0 rfl) ?_
      refine va_get (D := G.1) (ci := 9) (v := .ref a_this_s) (C := RX9) (T := TX9) (N := 26) hx hb hts inX9 hown hK hP 0 rfl rfl 19 (by decide) lk22 (fun _ h9 => h9) rfl dX9_hasLease_8 ?_
      refine lv_bipush (v := (6 : Int32)) hx hb dX9_hasLease_11 (by decide) ?_
      obtain ⟨hg11, hf⟩ := gd_some hf
      refine va_iald hx hb hK hP 1 0 rfl rfl (inB_in hg11) dX9_hasLease_13 ?_
      refine lv_icmp_ge (tgt := 84) hx hb dX9_hasLease_14 (by decide) (fun hc12 => ?_) (fun hc12 => ?_)
      · have hf := if_t hf hc12
        refine lv_iload_n hx hb dX9_hasLease_84 rfl (lv_at hl 3 rfl) ?_
        obtain ⟨hg13, hf⟩ := gd_some hf
        have hr0 := so1 hf
        subst hr0
        rw [← hQ]
        exact W.zret (v := x3) hx hb hr (bzB_nar hg13) (fun t ht hW => ⟨rfl, ht⟩) (fun _ h => by cases h) dX9_hasLease_85
      · have hf := if_f hf hc12
        refine lv_iload_n hx hb dX9_hasLease_17 rfl (lv_at hl 3 rfl) ?_
        refine lv_if_ne (tgt := 72) hx hb dX9_hasLease_18 (by decide) (fun hc14 => ?_) (fun hc14 => ?_)
        · have hf := if_f hf hc14
          exact j72 (x1) (x2) (f_X9_hasLease_b5 v_s x1 x2 n5) ih (x4) ls (lv_sub hl [0, 1, 2, 4] rfl) hf
        · have hf := if_t hf hc14
          refine lv_aload_n hx hb dX9_hasLease_21 rfl (lv_at hl 0 rfl) ?_
          refine va_get (D := G.1) (ci := 9) (v := .ref a_this_s) (C := RX9) (T := TX9) (N := 26) hx hb hts inX9 hown hK hP 0 rfl rfl 19 (by decide) lk22 (fun _ h9 => h9) rfl dX9_hasLease_22 ?_
          refine lv_bipush (v := (7 : Int32)) hx hb dX9_hasLease_25 (by decide) ?_
          refine lv_iconst (v := (5 : Int32)) hx hb dX9_hasLease_27 (by decide) ?_
          refine lv_iload hx hb dX9_hasLease_28 (lv_at hl 4 rfl) ?_
          refine lv_imul hx hb dX9_hasLease_30 ?_
          refine lv_iadd hx hb dX9_hasLease_31 ?_
          obtain ⟨hg15, hf⟩ := gd_some hf
          refine va_iald hx hb hK hP 1 0 rfl rfl (inB_in hg15) dX9_hasLease_32 ?_
          refine lv_iload_n hx hb dX9_hasLease_33 rfl (lv_at hl 1 rfl) ?_
          refine lv_icmp_ne (tgt := 76) hx hb dX9_hasLease_34 (by decide) (fun hc16 => ?_) (fun hc16 => ?_)
          · have hf := if_f hf hc16
            exact j76 (x1) (x2) (f_X9_hasLease_b5 v_s x1 x2 n5) ih (x4) ls (lv_sub hl [0, 1, 2, 4] rfl) hf
          · have hf := if_t hf hc16
            refine lv_iload_n hx hb dX9_hasLease_37 rfl (lv_at hl 2 rfl) ?_
            refine lv_aload_n hx hb dX9_hasLease_38 rfl (lv_at hl 0 rfl) ?_
            refine va_get (D := G.1) (ci := 9) (v := .ref a_this_s) (C := RX9) (T := TX9) (N := 26) hx hb hts inX9 hown hK hP 0 rfl rfl 19 (by decide) lk22 (fun _ h9 => h9) rfl dX9_hasLease_39 ?_
            refine lv_bipush (v := (7 : Int32)) hx hb dX9_hasLease_42 (by decide) ?_
            refine lv_iconst (v := (5 : Int32)) hx hb dX9_hasLease_44 (by decide) ?_
            refine lv_iload hx hb dX9_hasLease_45 (lv_at hl 4 rfl) ?_
            refine lv_imul hx hb dX9_hasLease_47 ?_
            refine lv_iadd hx hb dX9_hasLease_48 ?_
            refine lv_iconst (v := (3 : Int32)) hx hb dX9_hasLease_49 (by decide) ?_
            refine lv_iadd hx hb dX9_hasLease_50 ?_
            obtain ⟨hg17, hf⟩ := gd_some hf
            refine va_iald hx hb hK hP 1 0 rfl rfl (inB_in hg17) dX9_hasLease_51 ?_
            refine lv_aload_n hx hb dX9_hasLease_52 rfl (lv_at hl 0 rfl) ?_
            refine va_get (D := G.1) (ci := 9) (v := .ref a_this_s) (C := RX9) (T := TX9) (N := 26) hx hb hts inX9 hown hK hP 0 rfl rfl 19 (by decide) lk22 (fun _ h9 => h9) rfl dX9_hasLease_53 ?_
            refine lv_bipush (v := (7 : Int32)) hx hb dX9_hasLease_56 (by decide) ?_
            refine lv_iconst (v := (5 : Int32)) hx hb dX9_hasLease_58 (by decide) ?_
            refine lv_iload hx hb dX9_hasLease_59 (lv_at hl 4 rfl) ?_
            refine lv_imul hx hb dX9_hasLease_61 ?_
            refine lv_iadd hx hb dX9_hasLease_62 ?_
            refine lv_iconst (v := (4 : Int32)) hx hb dX9_hasLease_63 (by decide) ?_
            refine lv_iadd hx hb dX9_hasLease_64 ?_
            obtain ⟨hg18, hf⟩ := gd_some hf
            refine va_iald hx hb hK hP 1 0 rfl rfl (inB_in hg18) dX9_hasLease_65 ?_
            obtain ⟨r19, hu, hf⟩ := bd1_some hf
            refine zRi (va_runS (As := [.int x2, .int (v_s ((((7 : Int32) + ((5 : Int32) * x4)) + (3 : Int32))).toNatClampNeg), .int (v_s ((((7 : Int32) + ((5 : Int32) * x4)) + (4 : Int32))).toNatClampNeg)]) (rest := []) hC (c_X9_in l G (x2) ((v_s ((((7 : Int32) + ((5 : Int32) * x4)) + (3 : Int32))).toNatClampNeg)) ((v_s ((((7 : Int32) + ((5 : Int32) * x4)) + (4 : Int32))).toNatClampNeg)) r19 hu) (va_cwS 3 hts gX9_hasLease_X9_in rfl rfl rfl hd_X9_in.2 ⟨(Nat.le_of_ble_eq_true rfl), (Nat.le_of_ble_eq_true rfl)⟩) (zPS hE hP [] rfl) rfl rfl hl.1 rfl (lv_room (Nat.le_of_ble_eq_true rfl)) dX9_hasLease_66 ⟨Nat.zero_le _, Nat.zero_le _⟩) ?_
            refine lv_if_eq (tgt := 76) hx hb dX9_hasLease_69 (by decide) (fun hc20 => ?_) (fun hc20 => ?_)
            · have hf := if_t hf hc20
              exact j76 (x1) (x2) (f_X9_hasLease_b5 v_s x1 x2 n5) ih (x4) ls (lv_sub hl [0, 1, 2, 4] rfl) hf
            · have hf := if_f hf hc20
              exact j72 (x1) (x2) (f_X9_hasLease_b5 v_s x1 x2 n5) ih (x4) ls (lv_sub hl [0, 1, 2, 4] rfl) hf
  unfold f_X9_hasLease at hf
  refine lv_iconst (v := (0 : Int32)) hx hb dX9_hasLease_0 (by decide) ?_
  refine lv_istore_n (lv' := [(3, .int (0 : Int32)), (0, .ref a_this), (1, .int g1), (2, .int g2)]) hx hb dX9_hasLease_1 rfl hl (by decide) rfl (fun ls hl => ?_)
  refine lv_iconst (v := (0 : Int32)) hx hb dX9_hasLease_2 (by decide) ?_
  refine lv_istore (lv' := [(4, .int (0 : Int32)), (3, .int (0 : Int32)), (0, .ref a_this), (1, .int g1), (2, .int g2)]) hx hb dX9_hasLease_3 hl (by decide) rfl (fun ls hl => ?_)
  exact j5 (g1) (g2) zF ((0 : Int32)) ((0 : Int32)) ls (lv_sub hl [2, 3, 4, 1, 0] rfl) hf
theorem hd_X9_hasLease : yX9_hasLease.cls = RX9 ∧ yX9_hasLease.cls ≠ "java/lang/invoke/MethodHandle" ∧ yX9_hasLease.cls ≠ "java/lang/invoke/VarHandle" ∧ (parseMethodDescriptor yX9_hasLease.desc).map (fun d => d.parameters.length) = some 2 := by decide +kernel
def f_X9_dark_b93  (k56 : Int32 → Int32 → Option (Int32 × Int32))  (x7 : Int32) (t0 : Int32) : Option (Int32 × Int32) := k56 (t0) ((x7 + (1 : Int32)))
def f_X9_dark_b92  (k56 : Int32 → Int32 → Option (Int32 × Int32))  (x7 : Int32) : Option (Int32 × Int32) := f_X9_dark_b93 k56 (x7) ((0 : Int32))
def f_X9_dark_b113  (k38 : Int32 → Int32 → Option (Int32 × Int32))  (x5 : Int32) (t0 : Int32) (t1 : Int32) : Option (Int32 × Int32) := k38 ((t0 + t1)) ((x5 + (1 : Int32)))
def f_X9_dark_b56 (v_squares : Int32) (v_starMany : Int32) (v_s : (Nat → Int32)) (v_stars : (Nat → Int32)) (k38 : Int32 → Int32 → Option (Int32 × Int32)) (x1 : Int32) (x4 : Int32) (x5 : Int32) : Nat → Int32 → Int32 → Option (Int32 × Int32)
  | 0, _, _ => none
  | n56 + 1, x6, x7 => if v_starMany ≤ x7 then (if x6 = (0 : Int32) then (f_X9_dark_b113 k38 (x5) (x4) ((0 : Int32))) else (f_X9_dark_b113 k38 (x5) (x4) ((1 : Int32)))) else (if x6 = (0 : Int32) then (f_X9_dark_b92 (f_X9_dark_b56 v_squares v_starMany v_s v_stars k38 x1 x4 x5 n56) (x7)) else (bd1 (f_X9_squareOf (v_squares) (v_stars) (x7) (x5)) fun r18 => bd1 (f_X9_whoseIs (v_squares) (v_s) (r18) (x5)) fun r19 => if r19 = x1 then (f_X9_dark_b92 (f_X9_dark_b56 v_squares v_starMany v_s v_stars k38 x1 x4 x5 n56) (x7)) else (f_X9_dark_b93 (f_X9_dark_b56 v_squares v_starMany v_s v_stars k38 x1 x4 x5 n56) (x7) ((1 : Int32)))))
def f_X9_dark_b38 (v_squares : Int32) (v_starMany : Int32) (v_s : (Nat → Int32)) (v_stars : (Nat → Int32))  (x1 : Int32) (x3 : Int32) (v_thrown : Int32) : Nat → Int32 → Int32 → Option (Int32 × Int32)
  | 0, _, _ => none
  | n38 + 1, x4, x5 => if x3 < x5 then (some (x4, v_thrown)) else (bd1 (f_X9_hasLease (v_s) (x1) (x5)) fun r22 => f_X9_dark_b56 v_squares v_starMany v_s v_stars (f_X9_dark_b38 v_squares v_starMany v_s v_stars x1 x3 v_thrown n38) (x1) (x4) (x5) zF (r22) ((0 : Int32)))
def f_X9_dark  (v_thrown : Int32) (v_squares : Int32) (v_starMany : Int32) (v_tenants : Int32) (v_s : (Nat → Int32)) (v_stars : (Nat → Int32)) (g1 : Int32) (g2 : Int32) (g3 : Int32) : Option (Int32 × Int32) := bd1 (f_X9_isTenant (v_tenants) (g1)) fun r23 => if r23 = (0 : Int32) then (some ((-1 : Int32), (0 : Int32))) else (bd1 (f_X9_isNight (g2)) fun r25 => if r25 = (0 : Int32) then (some ((-1 : Int32), (0 : Int32))) else (bd1 (f_X9_in (g3) (g2) ((99 : Int32))) fun r27 => if r27 = (0 : Int32) then (some ((-1 : Int32), (0 : Int32))) else (f_X9_dark_b38 v_squares v_starMany v_s v_stars (g1) (g3) ((0 : Int32)) zF ((0 : Int32)) (g2))))
abbrev rm_X9_dark : Room := { frames := 3, cells := 0, slots := 0, locals := 70 }
set_option maxHeartbeats 4000000 in
set_option maxRecDepth 100000 in
theorem c_X9_dark (l : Launch) (G : zG) (sz : Nat) (a_this : Nat) (a_this_s : Nat) (a_this_stars : Nat) (a_this_text : Nat) (a_this_purses : Nat) (a_this_leases : Nat) (a_this_kept : Nat) (a_this_isKept : Nat) (a_this_offers : Nat) (a_this_seen : Nat) (v_thrown : Int32) (v_trace : Int64) (v_typed : Int32) (v_next : Int32) (v_token : Int32) (v_place : Int32) (v_value : Int32) (v_fault : Int32) (v_squares : Int32) (v_starMany : Int32) (v_tenants : Int32) (v_draftSquares : Int32) (v_draftStars : Int32) (v_draftTenants : Int32) (v_draftLeases : Int32) (v_offerMany : Int32) (v_seenMany : Int32) (v_s : (Nat → Int32)) (v_stars : (Nat → Int32)) (g1 : Int32) (g2 : Int32) (g3 : Int32) (R0 : Int32) (R1 : Int32) (hf : f_X9_dark v_thrown v_squares v_starMany v_tenants v_s v_stars g1 g2 g3 = some (R0, R1)) : Met l yX9_dark wsX9_dark rm_X9_dark (va_Pc [.ref a_this, .int g1, .int g2, .int g3] (zB G [(a_this, .inr (9, [.int v_thrown, .long v_trace, .ref a_this_text, .int v_typed, .int v_next, .int v_token, .int v_place, .int v_value, .int v_fault, .int v_squares, .ref a_this_stars, .ref a_this_purses, .ref a_this_leases, .int v_starMany, .int v_tenants, .int v_draftSquares, .int v_draftStars, .int v_draftTenants, .int v_draftLeases, .ref a_this_s, .ref a_this_kept, .ref a_this_isKept, .ref a_this_offers, .int v_offerMany, .ref a_this_seen, .int v_seenMany])), (a_this_s, .inl (G.2.1, 100, .inl v_s)), (a_this_stars, .inl (G.2.1, 48, .inl v_stars))] sz)) (zQ G (some (.int R0)) [(a_this, .inr (9, [.int R1, .long v_trace, .ref a_this_text, .int v_typed, .int v_next, .int v_token, .int v_place, .int v_value, .int v_fault, .int v_squares, .ref a_this_stars, .ref a_this_purses, .ref a_this_leases, .int v_starMany, .int v_tenants, .int v_draftSquares, .int v_draftStars, .int v_draftTenants, .int v_draftLeases, .ref a_this_s, .ref a_this_kept, .ref a_this_isKept, .ref a_this_offers, .int v_offerMany, .ref a_this_seen, .int v_seenMany])), (a_this_s, .inl (G.2.1, 100, .inl v_s)), (a_this_stars, .inl (G.2.1, 48, .inl v_stars))] (va_A [(a_this, .inr (9, [.int v_thrown, .long v_trace, .ref a_this_text, .int v_typed, .int v_next, .int v_token, .int v_place, .int v_value, .int v_fault, .int v_squares, .ref a_this_stars, .ref a_this_purses, .ref a_this_leases, .int v_starMany, .int v_tenants, .int v_draftSquares, .int v_draftStars, .int v_draftTenants, .int v_draftLeases, .ref a_this_s, .ref a_this_kept, .ref a_this_isKept, .ref a_this_offers, .int v_offerMany, .ref a_this_seen, .int v_seenMany])), (a_this_s, .inl (G.2.1, 100, .inl v_s)), (a_this_stars, .inl (G.2.1, 48, .inl v_stars))] sz)) 0 0 (va_A [(a_this, .inr (9, [.int v_thrown, .long v_trace, .ref a_this_text, .int v_typed, .int v_next, .int v_token, .int v_place, .int v_value, .int v_fault, .int v_squares, .ref a_this_stars, .ref a_this_purses, .ref a_this_leases, .int v_starMany, .int v_tenants, .int v_draftSquares, .int v_draftStars, .int v_draftTenants, .int v_draftLeases, .ref a_this_s, .ref a_this_kept, .ref a_this_isKept, .ref a_this_offers, .int v_offerMany, .ref a_this_seen, .int v_seenMany])), (a_this_s, .inl (G.2.1, 100, .inl v_s)), (a_this_stars, .inl (G.2.1, 48, .inl v_stars))] sz) := by
  refine Met.ofW (cc := cX9_dark) (maxL := 8) (ret := (some .int)) (by decide) rfl ?_
  intro p e s m args below meth c s₁ B hml hv
  obtain ⟨hargs, hsz, hP, hD0, hE⟩ := hv
  have hx := B.exec
  have hb := B.bytes
  have hr := B.returns
  have hts := atoms_spec (ws := wsX9_dark) B.pre
  have hown : s.vm.findClass RX9 = some m.cls := findClass_of_methodNamed B.named
  have hlocks := B.notSynchronized
  have hK := hE.1
  have hC : CallFix p m c cX9_dark 8 s args wsX9_dark RX9 := ⟨hx, hb, hml, hown, hts⟩
  have inX9 : ∀ w ∈ wsX90, w ∈ wsX9_dark := by decide +kernel
  have lk42 := hts (.fieldLink RX9 42 "SkyLeasesModel" "thrown" "I") (by decide +kernel)
  have lk118 := hts (.fieldLink RX9 118 "SkyLeasesModel" "starMany" "I") (by decide +kernel)
  subst hsz
  have hD := hD0.self (sz := s.heap.size)
  generalize hAe : va_A [(a_this, .inr (9, [.int v_thrown, .long v_trace, .ref a_this_text, .int v_typed, .int v_next, .int v_token, .int v_place, .int v_value, .int v_fault, .int v_squares, .ref a_this_stars, .ref a_this_purses, .ref a_this_leases, .int v_starMany, .int v_tenants, .int v_draftSquares, .int v_draftStars, .int v_draftTenants, .int v_draftLeases, .ref a_this_s, .ref a_this_kept, .ref a_this_isKept, .ref a_this_offers, .int v_offerMany, .ref a_this_seen, .int v_seenMany])), (a_this_s, .inl (G.2.1, 100, .inl v_s)), (a_this_stars, .inl (G.2.1, 48, .inl v_stars))] s.heap.size = A at hD ⊢
  have hA : ∀ q : Nat, s.heap.size ≤ q → A q := fun q h => by rw [← hAe]; exact Or.inr h
  have hS : va_S A s.heap s.heap [] := va_S.rf
  have hP : va_P G.1 vwCl [(a_this, .inr (9, [.int v_thrown, .long v_trace, .ref a_this_text, .int v_typed, .int v_next, .int v_token, .int v_place, .int v_value, .int v_fault, .int v_squares, .ref a_this_stars, .ref a_this_purses, .ref a_this_leases, .int v_starMany, .int v_tenants, .int v_draftSquares, .int v_draftStars, .int v_draftTenants, .int v_draftLeases, .ref a_this_s, .ref a_this_kept, .ref a_this_isKept, .ref a_this_offers, .int v_offerMany, .ref a_this_seen, .int v_seenMany])), (a_this_s, .inl (G.2.1, 100, .inl v_s)), (a_this_stars, .inl (G.2.1, 48, .inl v_stars))] s.heap := hP
  have hl := lv_entry ([.ref a_this, .int g1, .int g2, .int g3]) (n := 8) (Nat.le_of_ble_eq_true rfl)
  have hent : entryFrame m args 8 = F0 m 0 ((lg_sl ([.ref a_this, .int g1, .int g2, .int g3]) ++ List.replicate (8 - (lg_sl ([.ref a_this, .int g1, .int g2, .int g3])).length) Slot.unset).toArray) [] := by rw [hargs]; exact lg_entry_eq m [.ref a_this, .int g1, .int g2, .int g3] 8
  refine W.eq hent ?_
  clear hent
  generalize (lg_sl ([.ref a_this, .int g1, .int g2, .int g3]) ++ List.replicate (8 - (lg_sl ([.ref a_this, .int g1, .int g2, .int g3])).length) Slot.unset).toArray = ls at hl ⊢
  have hl : lv_has ls 8 [(0, .ref a_this), (1, .int g1), (2, .int g2), (3, .int g3)] := hl
  generalize hQ : MQ below _ args s 0 0 _ = QQ
  change W p l e rm_X9_dark s m args below meth c s.heap [] 0 0 QQ _
  have j93 : ∀ (x1 : Int32), ∀ (x3 : Int32), ∀ (x4 : Int32), ∀ (x5 : Int32), ∀ (v_thrown : Int32), ∀ (k56 : Int32 → Int32 → Option (Int32 × Int32)), (∀ (x6 : Int32), ∀ (x7 : Int32), ∀ (ls : Array Slot), lv_has ls 8 [(0, .ref a_this), (1, .int x1), (3, .int x3), (4, .int x4), (5, .int x5), (6, .int x6), (7, .int x7)] → ∀ (H : Heap) (locs : List Loc), va_P G.1 vwCl [(a_this, .inr (9, [.int v_thrown, .long v_trace, .ref a_this_text, .int v_typed, .int v_next, .int v_token, .int v_place, .int v_value, .int v_fault, .int v_squares, .ref a_this_stars, .ref a_this_purses, .ref a_this_leases, .int v_starMany, .int v_tenants, .int v_draftSquares, .int v_draftStars, .int v_draftTenants, .int v_draftLeases, .ref a_this_s, .ref a_this_kept, .ref a_this_isKept, .ref a_this_offers, .int v_offerMany, .ref a_this_seen, .int v_seenMany])), (a_this_s, .inl (G.2.1, 100, .inl v_s)), (a_this_stars, .inl (G.2.1, 48, .inl v_stars))] H → va_D A [(a_this, .inr (9, [.int v_thrown, .long v_trace, .ref a_this_text, .int v_typed, .int v_next, .int v_token, .int v_place, .int v_value, .int v_fault, .int v_squares, .ref a_this_stars, .ref a_this_purses, .ref a_this_leases, .int v_starMany, .int v_tenants, .int v_draftSquares, .int v_draftStars, .int v_draftTenants, .int v_draftLeases, .ref a_this_s, .ref a_this_kept, .ref a_this_isKept, .ref a_this_offers, .int v_offerMany, .ref a_this_seen, .int v_seenMany])), (a_this_s, .inl (G.2.1, 100, .inl v_s)), (a_this_stars, .inl (G.2.1, 48, .inl v_stars))] → va_S A s.heap H locs → k56 x6 x7 = some (R0, R1) → W p l e rm_X9_dark s m args below meth c H locs 0 0 QQ (F0 m 56 ls [])) → ∀ (x7 : Int32), ∀ (t0 : Int32), ∀ (ls : Array Slot), lv_has ls 8 [(0, .ref a_this), (1, .int x1), (3, .int x3), (4, .int x4), (5, .int x5), (7, .int x7)] → ∀ (H : Heap) (locs : List Loc), va_P G.1 vwCl [(a_this, .inr (9, [.int v_thrown, .long v_trace, .ref a_this_text, .int v_typed, .int v_next, .int v_token, .int v_place, .int v_value, .int v_fault, .int v_squares, .ref a_this_stars, .ref a_this_purses, .ref a_this_leases, .int v_starMany, .int v_tenants, .int v_draftSquares, .int v_draftStars, .int v_draftTenants, .int v_draftLeases, .ref a_this_s, .ref a_this_kept, .ref a_this_isKept, .ref a_this_offers, .int v_offerMany, .ref a_this_seen, .int v_seenMany])), (a_this_s, .inl (G.2.1, 100, .inl v_s)), (a_this_stars, .inl (G.2.1, 48, .inl v_stars))] H → va_D A [(a_this, .inr (9, [.int v_thrown, .long v_trace, .ref a_this_text, .int v_typed, .int v_next, .int v_token, .int v_place, .int v_value, .int v_fault, .int v_squares, .ref a_this_stars, .ref a_this_purses, .ref a_this_leases, .int v_starMany, .int v_tenants, .int v_draftSquares, .int v_draftStars, .int v_draftTenants, .int v_draftLeases, .ref a_this_s, .ref a_this_kept, .ref a_this_isKept, .ref a_this_offers, .int v_offerMany, .ref a_this_seen, .int v_seenMany])), (a_this_s, .inl (G.2.1, 100, .inl v_s)), (a_this_stars, .inl (G.2.1, 48, .inl v_stars))] → va_S A s.heap H locs → f_X9_dark_b93 k56 x7 t0 = some (R0, R1) → W p l e rm_X9_dark s m args below meth c H locs 0 0 QQ (F0 m 93 ls [.int t0]) := by
    intro x1 x3 x4 x5 v_thrown k56 hk56 x7 t0 ls hl H locs hP hD hS hf
    unfold f_X9_dark_b93 at hf
    refine lv_istore (lv' := [(6, .int t0), (0, .ref a_this), (1, .int x1), (3, .int x3), (4, .int x4), (5, .int x5), (7, .int x7)]) hx hb dX9_dark_93 hl (by decide) rfl (fun ls hl => ?_)
    refine lv_iinc (v := (x7 + (1 : Int32))) (lv' := [(7, .int (x7 + (1 : Int32))), (6, .int t0), (0, .ref a_this), (1, .int x1), (3, .int x3), (4, .int x4), (5, .int x5)]) hx hb dX9_dark_95 hl (k := 6) rfl rfl (by decide) rfl (fun ls hl => ?_)
    refine lv_goto (tgt := 56) hx hb dX9_dark_98 (by decide) ?_
    exact hk56 (t0) ((x7 + (1 : Int32))) ls (lv_sub hl [2, 3, 4, 5, 6, 1, 0] rfl) _ _ hP hD hS hf
  have j92 : ∀ (x1 : Int32), ∀ (x3 : Int32), ∀ (x4 : Int32), ∀ (x5 : Int32), ∀ (v_thrown : Int32), ∀ (k56 : Int32 → Int32 → Option (Int32 × Int32)), (∀ (x6 : Int32), ∀ (x7 : Int32), ∀ (ls : Array Slot), lv_has ls 8 [(0, .ref a_this), (1, .int x1), (3, .int x3), (4, .int x4), (5, .int x5), (6, .int x6), (7, .int x7)] → ∀ (H : Heap) (locs : List Loc), va_P G.1 vwCl [(a_this, .inr (9, [.int v_thrown, .long v_trace, .ref a_this_text, .int v_typed, .int v_next, .int v_token, .int v_place, .int v_value, .int v_fault, .int v_squares, .ref a_this_stars, .ref a_this_purses, .ref a_this_leases, .int v_starMany, .int v_tenants, .int v_draftSquares, .int v_draftStars, .int v_draftTenants, .int v_draftLeases, .ref a_this_s, .ref a_this_kept, .ref a_this_isKept, .ref a_this_offers, .int v_offerMany, .ref a_this_seen, .int v_seenMany])), (a_this_s, .inl (G.2.1, 100, .inl v_s)), (a_this_stars, .inl (G.2.1, 48, .inl v_stars))] H → va_D A [(a_this, .inr (9, [.int v_thrown, .long v_trace, .ref a_this_text, .int v_typed, .int v_next, .int v_token, .int v_place, .int v_value, .int v_fault, .int v_squares, .ref a_this_stars, .ref a_this_purses, .ref a_this_leases, .int v_starMany, .int v_tenants, .int v_draftSquares, .int v_draftStars, .int v_draftTenants, .int v_draftLeases, .ref a_this_s, .ref a_this_kept, .ref a_this_isKept, .ref a_this_offers, .int v_offerMany, .ref a_this_seen, .int v_seenMany])), (a_this_s, .inl (G.2.1, 100, .inl v_s)), (a_this_stars, .inl (G.2.1, 48, .inl v_stars))] → va_S A s.heap H locs → k56 x6 x7 = some (R0, R1) → W p l e rm_X9_dark s m args below meth c H locs 0 0 QQ (F0 m 56 ls [])) → ∀ (x7 : Int32), ∀ (ls : Array Slot), lv_has ls 8 [(0, .ref a_this), (1, .int x1), (3, .int x3), (4, .int x4), (5, .int x5), (7, .int x7)] → ∀ (H : Heap) (locs : List Loc), va_P G.1 vwCl [(a_this, .inr (9, [.int v_thrown, .long v_trace, .ref a_this_text, .int v_typed, .int v_next, .int v_token, .int v_place, .int v_value, .int v_fault, .int v_squares, .ref a_this_stars, .ref a_this_purses, .ref a_this_leases, .int v_starMany, .int v_tenants, .int v_draftSquares, .int v_draftStars, .int v_draftTenants, .int v_draftLeases, .ref a_this_s, .ref a_this_kept, .ref a_this_isKept, .ref a_this_offers, .int v_offerMany, .ref a_this_seen, .int v_seenMany])), (a_this_s, .inl (G.2.1, 100, .inl v_s)), (a_this_stars, .inl (G.2.1, 48, .inl v_stars))] H → va_D A [(a_this, .inr (9, [.int v_thrown, .long v_trace, .ref a_this_text, .int v_typed, .int v_next, .int v_token, .int v_place, .int v_value, .int v_fault, .int v_squares, .ref a_this_stars, .ref a_this_purses, .ref a_this_leases, .int v_starMany, .int v_tenants, .int v_draftSquares, .int v_draftStars, .int v_draftTenants, .int v_draftLeases, .ref a_this_s, .ref a_this_kept, .ref a_this_isKept, .ref a_this_offers, .int v_offerMany, .ref a_this_seen, .int v_seenMany])), (a_this_s, .inl (G.2.1, 100, .inl v_s)), (a_this_stars, .inl (G.2.1, 48, .inl v_stars))] → va_S A s.heap H locs → f_X9_dark_b92 k56 x7 = some (R0, R1) → W p l e rm_X9_dark s m args below meth c H locs 0 0 QQ (F0 m 92 ls []) := by
    intro x1 x3 x4 x5 v_thrown k56 hk56 x7 ls hl H locs hP hD hS hf
    unfold f_X9_dark_b92 at hf
    refine lv_iconst (v := (0 : Int32)) hx hb dX9_dark_92 (by decide) ?_
    exact j93 (x1) (x3) (x4) (x5) (v_thrown) k56 hk56 (x7) ((0 : Int32)) ls (lv_sub hl [0, 1, 2, 3, 4, 5] rfl) _ _ hP hD hS hf
  have j113 : ∀ (x1 : Int32), ∀ (x3 : Int32), ∀ (v_thrown : Int32), ∀ (k38 : Int32 → Int32 → Option (Int32 × Int32)), (∀ (x4 : Int32), ∀ (x5 : Int32), ∀ (ls : Array Slot), lv_has ls 8 [(0, .ref a_this), (1, .int x1), (3, .int x3), (4, .int x4), (5, .int x5)] → ∀ (H : Heap) (locs : List Loc), va_P G.1 vwCl [(a_this, .inr (9, [.int v_thrown, .long v_trace, .ref a_this_text, .int v_typed, .int v_next, .int v_token, .int v_place, .int v_value, .int v_fault, .int v_squares, .ref a_this_stars, .ref a_this_purses, .ref a_this_leases, .int v_starMany, .int v_tenants, .int v_draftSquares, .int v_draftStars, .int v_draftTenants, .int v_draftLeases, .ref a_this_s, .ref a_this_kept, .ref a_this_isKept, .ref a_this_offers, .int v_offerMany, .ref a_this_seen, .int v_seenMany])), (a_this_s, .inl (G.2.1, 100, .inl v_s)), (a_this_stars, .inl (G.2.1, 48, .inl v_stars))] H → va_D A [(a_this, .inr (9, [.int v_thrown, .long v_trace, .ref a_this_text, .int v_typed, .int v_next, .int v_token, .int v_place, .int v_value, .int v_fault, .int v_squares, .ref a_this_stars, .ref a_this_purses, .ref a_this_leases, .int v_starMany, .int v_tenants, .int v_draftSquares, .int v_draftStars, .int v_draftTenants, .int v_draftLeases, .ref a_this_s, .ref a_this_kept, .ref a_this_isKept, .ref a_this_offers, .int v_offerMany, .ref a_this_seen, .int v_seenMany])), (a_this_s, .inl (G.2.1, 100, .inl v_s)), (a_this_stars, .inl (G.2.1, 48, .inl v_stars))] → va_S A s.heap H locs → k38 x4 x5 = some (R0, R1) → W p l e rm_X9_dark s m args below meth c H locs 0 0 QQ (F0 m 38 ls [])) → ∀ (x5 : Int32), ∀ (t0 : Int32), ∀ (t1 : Int32), ∀ (ls : Array Slot), lv_has ls 8 [(0, .ref a_this), (1, .int x1), (3, .int x3), (5, .int x5)] → ∀ (H : Heap) (locs : List Loc), va_P G.1 vwCl [(a_this, .inr (9, [.int v_thrown, .long v_trace, .ref a_this_text, .int v_typed, .int v_next, .int v_token, .int v_place, .int v_value, .int v_fault, .int v_squares, .ref a_this_stars, .ref a_this_purses, .ref a_this_leases, .int v_starMany, .int v_tenants, .int v_draftSquares, .int v_draftStars, .int v_draftTenants, .int v_draftLeases, .ref a_this_s, .ref a_this_kept, .ref a_this_isKept, .ref a_this_offers, .int v_offerMany, .ref a_this_seen, .int v_seenMany])), (a_this_s, .inl (G.2.1, 100, .inl v_s)), (a_this_stars, .inl (G.2.1, 48, .inl v_stars))] H → va_D A [(a_this, .inr (9, [.int v_thrown, .long v_trace, .ref a_this_text, .int v_typed, .int v_next, .int v_token, .int v_place, .int v_value, .int v_fault, .int v_squares, .ref a_this_stars, .ref a_this_purses, .ref a_this_leases, .int v_starMany, .int v_tenants, .int v_draftSquares, .int v_draftStars, .int v_draftTenants, .int v_draftLeases, .ref a_this_s, .ref a_this_kept, .ref a_this_isKept, .ref a_this_offers, .int v_offerMany, .ref a_this_seen, .int v_seenMany])), (a_this_s, .inl (G.2.1, 100, .inl v_s)), (a_this_stars, .inl (G.2.1, 48, .inl v_stars))] → va_S A s.heap H locs → f_X9_dark_b113 k38 x5 t0 t1 = some (R0, R1) → W p l e rm_X9_dark s m args below meth c H locs 0 0 QQ (F0 m 113 ls [.int t1, .int t0]) := by
    intro x1 x3 v_thrown k38 hk38 x5 t0 t1 ls hl H locs hP hD hS hf
    unfold f_X9_dark_b113 at hf
    refine lv_iadd hx hb dX9_dark_113 ?_
    refine lv_istore (lv' := [(4, .int (t0 + t1)), (0, .ref a_this), (1, .int x1), (3, .int x3), (5, .int x5)]) hx hb dX9_dark_114 hl (by decide) rfl (fun ls hl => ?_)
    refine lv_iinc (v := (x5 + (1 : Int32))) (lv' := [(5, .int (x5 + (1 : Int32))), (4, .int (t0 + t1)), (0, .ref a_this), (1, .int x1), (3, .int x3)]) hx hb dX9_dark_116 hl (k := 4) rfl rfl (by decide) rfl (fun ls hl => ?_)
    refine lv_goto (tgt := 38) hx hb dX9_dark_119 (by decide) ?_
    exact hk38 ((t0 + t1)) ((x5 + (1 : Int32))) ls (lv_sub hl [2, 3, 4, 1, 0] rfl) _ _ hP hD hS hf
  have j56 : ∀ (x1 : Int32), ∀ (x3 : Int32), ∀ (v_thrown : Int32), ∀ (k38 : Int32 → Int32 → Option (Int32 × Int32)), (∀ (x4 : Int32), ∀ (x5 : Int32), ∀ (ls : Array Slot), lv_has ls 8 [(0, .ref a_this), (1, .int x1), (3, .int x3), (4, .int x4), (5, .int x5)] → ∀ (H : Heap) (locs : List Loc), va_P G.1 vwCl [(a_this, .inr (9, [.int v_thrown, .long v_trace, .ref a_this_text, .int v_typed, .int v_next, .int v_token, .int v_place, .int v_value, .int v_fault, .int v_squares, .ref a_this_stars, .ref a_this_purses, .ref a_this_leases, .int v_starMany, .int v_tenants, .int v_draftSquares, .int v_draftStars, .int v_draftTenants, .int v_draftLeases, .ref a_this_s, .ref a_this_kept, .ref a_this_isKept, .ref a_this_offers, .int v_offerMany, .ref a_this_seen, .int v_seenMany])), (a_this_s, .inl (G.2.1, 100, .inl v_s)), (a_this_stars, .inl (G.2.1, 48, .inl v_stars))] H → va_D A [(a_this, .inr (9, [.int v_thrown, .long v_trace, .ref a_this_text, .int v_typed, .int v_next, .int v_token, .int v_place, .int v_value, .int v_fault, .int v_squares, .ref a_this_stars, .ref a_this_purses, .ref a_this_leases, .int v_starMany, .int v_tenants, .int v_draftSquares, .int v_draftStars, .int v_draftTenants, .int v_draftLeases, .ref a_this_s, .ref a_this_kept, .ref a_this_isKept, .ref a_this_offers, .int v_offerMany, .ref a_this_seen, .int v_seenMany])), (a_this_s, .inl (G.2.1, 100, .inl v_s)), (a_this_stars, .inl (G.2.1, 48, .inl v_stars))] → va_S A s.heap H locs → k38 x4 x5 = some (R0, R1) → W p l e rm_X9_dark s m args below meth c H locs 0 0 QQ (F0 m 38 ls [])) → ∀ (x4 : Int32), ∀ (x5 : Int32), ∀ (nn : Nat), ∀ (x6 : Int32), ∀ (x7 : Int32), ∀ (ls : Array Slot), lv_has ls 8 [(0, .ref a_this), (1, .int x1), (3, .int x3), (4, .int x4), (5, .int x5), (6, .int x6), (7, .int x7)] → ∀ (H : Heap) (locs : List Loc), va_P G.1 vwCl [(a_this, .inr (9, [.int v_thrown, .long v_trace, .ref a_this_text, .int v_typed, .int v_next, .int v_token, .int v_place, .int v_value, .int v_fault, .int v_squares, .ref a_this_stars, .ref a_this_purses, .ref a_this_leases, .int v_starMany, .int v_tenants, .int v_draftSquares, .int v_draftStars, .int v_draftTenants, .int v_draftLeases, .ref a_this_s, .ref a_this_kept, .ref a_this_isKept, .ref a_this_offers, .int v_offerMany, .ref a_this_seen, .int v_seenMany])), (a_this_s, .inl (G.2.1, 100, .inl v_s)), (a_this_stars, .inl (G.2.1, 48, .inl v_stars))] H → va_D A [(a_this, .inr (9, [.int v_thrown, .long v_trace, .ref a_this_text, .int v_typed, .int v_next, .int v_token, .int v_place, .int v_value, .int v_fault, .int v_squares, .ref a_this_stars, .ref a_this_purses, .ref a_this_leases, .int v_starMany, .int v_tenants, .int v_draftSquares, .int v_draftStars, .int v_draftTenants, .int v_draftLeases, .ref a_this_s, .ref a_this_kept, .ref a_this_isKept, .ref a_this_offers, .int v_offerMany, .ref a_this_seen, .int v_seenMany])), (a_this_s, .inl (G.2.1, 100, .inl v_s)), (a_this_stars, .inl (G.2.1, 48, .inl v_stars))] → va_S A s.heap H locs → f_X9_dark_b56 v_squares v_starMany v_s v_stars k38 x1 x4 x5 nn x6 x7 = some (R0, R1) → W p l e rm_X9_dark s m args below meth c H locs 0 0 QQ (F0 m 56 ls []) := by
    intro x1 x3 v_thrown k38 hk38 x4 x5
    intro nn
    induction nn with
    | zero =>
      intro x6 x7 ls hl H locs hP hD hS hf
      rw [f_X9_dark_b56] at hf
      cases hf
    | succ n56 ih =>
      intro x6 x7 ls hl H locs hP hD hS hf
      rw [f_X9_dark_b56] at hf
      refine lv_iload hx hb dX9_dark_56 (lv_at hl 6 rfl) ?_
      refine lv_aload_n hx hb dX9_dark_58 rfl (lv_at hl 0 rfl) ?_
      refine va_get (D := G.1) (ci := 9) (v := .int v_starMany) (C := RX9) (T := TX9) (N := 26) hx hb hts inX9 hown hK hP 0 rfl rfl 13 (by decide) lk118 (fun _ h9 => h9) rfl dX9_dark_59 ?_
      refine lv_icmp_ge (tgt := 101) hx hb dX9_dark_62 (by decide) (fun hc15 => ?_) (fun hc15 => ?_)
      · have hf := if_t hf hc15
        refine lv_iload hx hb dX9_dark_101 (lv_at hl 3 rfl) ?_
        refine lv_iload hx hb dX9_dark_103 (lv_at hl 5 rfl) ?_
        refine lv_if_eq (tgt := 112) hx hb dX9_dark_105 (by decide) (fun hc16 => ?_) (fun hc16 => ?_)
        · have hf := if_t hf hc16
          refine lv_iconst (v := (0 : Int32)) hx hb dX9_dark_112 (by decide) ?_
          exact j113 (x1) (x3) (v_thrown) k38 hk38 (x5) (x4) ((0 : Int32)) ls (lv_sub hl [0, 1, 2, 4] rfl) _ _ hP hD hS hf
        · have hf := if_f hf hc16
          refine lv_iconst (v := (1 : Int32)) hx hb dX9_dark_108 (by decide) ?_
          refine lv_goto (tgt := 113) hx hb dX9_dark_109 (by decide) ?_
          exact j113 (x1) (x3) (v_thrown) k38 hk38 (x5) (x4) ((1 : Int32)) ls (lv_sub hl [0, 1, 2, 4] rfl) _ _ hP hD hS hf
      · have hf := if_f hf hc15
        refine lv_iload hx hb dX9_dark_65 (lv_at hl 5 rfl) ?_
        refine lv_if_eq (tgt := 92) hx hb dX9_dark_67 (by decide) (fun hc17 => ?_) (fun hc17 => ?_)
        · have hf := if_t hf hc17
          exact j92 (x1) (x3) (x4) (x5) (v_thrown) (f_X9_dark_b56 v_squares v_starMany v_s v_stars k38 x1 x4 x5 n56) ih (x7) ls (lv_sub hl [0, 1, 2, 3, 4, 6] rfl) _ _ hP hD hS hf
        · have hf := if_f hf hc17
          refine lv_aload_n hx hb dX9_dark_70 rfl (lv_at hl 0 rfl) ?_
          refine lv_aload_n hx hb dX9_dark_71 rfl (lv_at hl 0 rfl) ?_
          refine lv_iload hx hb dX9_dark_72 (lv_at hl 6 rfl) ?_
          refine lv_iload hx hb dX9_dark_74 (lv_at hl 4 rfl) ?_
          obtain ⟨r18, hu, hf⟩ := bd1_some hf
          refine zRi (va_runV (As := [.int x7, .int x5]) (rest := [.ref a_this]) hC (c_X9_squareOf l G a_this a_this_stars a_this_text a_this_purses a_this_leases a_this_s a_this_kept a_this_isKept a_this_offers a_this_seen (v_thrown) (v_trace) (v_typed) (v_next) (v_token) (v_place) (v_value) (v_fault) (v_squares) (v_starMany) (v_tenants) (v_draftSquares) (v_draftStars) (v_draftTenants) (v_draftLeases) (v_offerMany) (v_seenMany) (v_stars) (x7) (x5) r18 hu) (cwV 2 hts gX9_dark_X9_squareOf rfl rfl rfl hd_X9_squareOf ⟨(Nat.le_of_ble_eq_true rfl), (Nat.le_of_ble_eq_true rfl)⟩) (zPV hE hP [0, 2] rfl 0 rfl rfl) rfl rfl hl.1 rfl (lv_room (Nat.le_of_ble_eq_true rfl)) dX9_dark_76 ⟨Nat.zero_le _, Nat.zero_le _⟩) ?_
          refine lv_iload hx hb dX9_dark_79 (lv_at hl 4 rfl) ?_
          obtain ⟨r19, hu, hf⟩ := bd1_some hf
          refine zRi (va_runV (As := [.int r18, .int x5]) (rest := []) hC (c_X9_whoseIs l G a_this a_this_s a_this_text a_this_stars a_this_purses a_this_leases a_this_kept a_this_isKept a_this_offers a_this_seen (v_thrown) (v_trace) (v_typed) (v_next) (v_token) (v_place) (v_value) (v_fault) (v_squares) (v_starMany) (v_tenants) (v_draftSquares) (v_draftStars) (v_draftTenants) (v_draftLeases) (v_offerMany) (v_seenMany) (v_s) (r18) (x5) r19 hu) (cwV 2 hts gX9_dark_X9_whoseIs rfl rfl rfl hd_X9_whoseIs ⟨(Nat.le_of_ble_eq_true rfl), (Nat.le_of_ble_eq_true rfl)⟩) (zPV hE hP [0, 1] rfl 0 rfl rfl) rfl rfl hl.1 rfl (lv_room (Nat.le_of_ble_eq_true rfl)) dX9_dark_81 ⟨Nat.zero_le _, Nat.zero_le _⟩) ?_
          refine lv_iload_n hx hb dX9_dark_84 rfl (lv_at hl 1 rfl) ?_
          refine lv_icmp_eq (tgt := 92) hx hb dX9_dark_85 (by decide) (fun hc20 => ?_) (fun hc20 => ?_)
          · have hf := if_t hf hc20
            exact j92 (x1) (x3) (x4) (x5) (v_thrown) (f_X9_dark_b56 v_squares v_starMany v_s v_stars k38 x1 x4 x5 n56) ih (x7) ls (lv_sub hl [0, 1, 2, 3, 4, 6] rfl) _ _ hP hD hS hf
          · have hf := if_f hf hc20
            refine lv_iconst (v := (1 : Int32)) hx hb dX9_dark_88 (by decide) ?_
            refine lv_goto (tgt := 93) hx hb dX9_dark_89 (by decide) ?_
            exact j93 (x1) (x3) (x4) (x5) (v_thrown) (f_X9_dark_b56 v_squares v_starMany v_s v_stars k38 x1 x4 x5 n56) ih (x7) ((1 : Int32)) ls (lv_sub hl [0, 1, 2, 3, 4, 6] rfl) _ _ hP hD hS hf
  have j38 : ∀ (x1 : Int32), ∀ (x3 : Int32), ∀ (v_thrown : Int32), ∀ (nn : Nat), ∀ (x4 : Int32), ∀ (x5 : Int32), ∀ (ls : Array Slot), lv_has ls 8 [(0, .ref a_this), (1, .int x1), (3, .int x3), (4, .int x4), (5, .int x5)] → ∀ (H : Heap) (locs : List Loc), va_P G.1 vwCl [(a_this, .inr (9, [.int v_thrown, .long v_trace, .ref a_this_text, .int v_typed, .int v_next, .int v_token, .int v_place, .int v_value, .int v_fault, .int v_squares, .ref a_this_stars, .ref a_this_purses, .ref a_this_leases, .int v_starMany, .int v_tenants, .int v_draftSquares, .int v_draftStars, .int v_draftTenants, .int v_draftLeases, .ref a_this_s, .ref a_this_kept, .ref a_this_isKept, .ref a_this_offers, .int v_offerMany, .ref a_this_seen, .int v_seenMany])), (a_this_s, .inl (G.2.1, 100, .inl v_s)), (a_this_stars, .inl (G.2.1, 48, .inl v_stars))] H → va_D A [(a_this, .inr (9, [.int v_thrown, .long v_trace, .ref a_this_text, .int v_typed, .int v_next, .int v_token, .int v_place, .int v_value, .int v_fault, .int v_squares, .ref a_this_stars, .ref a_this_purses, .ref a_this_leases, .int v_starMany, .int v_tenants, .int v_draftSquares, .int v_draftStars, .int v_draftTenants, .int v_draftLeases, .ref a_this_s, .ref a_this_kept, .ref a_this_isKept, .ref a_this_offers, .int v_offerMany, .ref a_this_seen, .int v_seenMany])), (a_this_s, .inl (G.2.1, 100, .inl v_s)), (a_this_stars, .inl (G.2.1, 48, .inl v_stars))] → va_S A s.heap H locs → f_X9_dark_b38 v_squares v_starMany v_s v_stars x1 x3 v_thrown nn x4 x5 = some (R0, R1) → W p l e rm_X9_dark s m args below meth c H locs 0 0 QQ (F0 m 38 ls []) := by
    intro x1 x3 v_thrown
    intro nn
    induction nn with
    | zero =>
      intro x4 x5 ls hl H locs hP hD hS hf
      rw [f_X9_dark_b38] at hf
      cases hf
    | succ n38 ih =>
      intro x4 x5 ls hl H locs hP hD hS hf
      rw [f_X9_dark_b38] at hf
      refine lv_iload hx hb dX9_dark_38 (lv_at hl 4 rfl) ?_
      refine lv_iload_n hx hb dX9_dark_40 rfl (lv_at hl 2 rfl) ?_
      refine lv_icmp_gt (tgt := 122) hx hb dX9_dark_41 (by decide) (fun hc21 => ?_) (fun hc21 => ?_)
      · have hf := if_t hf hc21
        refine lv_iload hx hb dX9_dark_122 (lv_at hl 3 rfl) ?_
        obtain ⟨hr0, hr1⟩ := so2 hf
        subst hr0
        subst hr1
        rw [← hQ]
        exact W.iret (v := x4) hx hb hr (fun t ht hW => ⟨⟨rfl, by rw [ht]; exact hP⟩, hS.F ht⟩) hS.2.2 dX9_dark_124
      · have hf := if_f hf hc21
        refine lv_aload_n hx hb dX9_dark_44 rfl (lv_at hl 0 rfl) ?_
        refine lv_iload_n hx hb dX9_dark_45 rfl (lv_at hl 1 rfl) ?_
        refine lv_iload hx hb dX9_dark_46 (lv_at hl 4 rfl) ?_
        obtain ⟨r22, hu, hf⟩ := bd1_some hf
        refine zRi (va_runV (As := [.int x1, .int x5]) (rest := []) hC (c_X9_hasLease l G a_this a_this_s a_this_text a_this_stars a_this_purses a_this_leases a_this_kept a_this_isKept a_this_offers a_this_seen (v_thrown) (v_trace) (v_typed) (v_next) (v_token) (v_place) (v_value) (v_fault) (v_squares) (v_starMany) (v_tenants) (v_draftSquares) (v_draftStars) (v_draftTenants) (v_draftLeases) (v_offerMany) (v_seenMany) (v_s) (x1) (x5) r22 hu) (cwV 2 hts gX9_dark_X9_hasLease rfl rfl rfl hd_X9_hasLease ⟨(Nat.le_of_ble_eq_true rfl), (Nat.le_of_ble_eq_true rfl)⟩) (zPV hE hP [0, 1] rfl 0 rfl rfl) rfl rfl hl.1 rfl (lv_room (Nat.le_of_ble_eq_true rfl)) dX9_dark_48 ⟨Nat.zero_le _, Nat.zero_le _⟩) ?_
        refine lv_istore (lv' := [(6, .int r22), (0, .ref a_this), (1, .int x1), (3, .int x3), (4, .int x4), (5, .int x5)]) hx hb dX9_dark_51 hl (by decide) rfl (fun ls hl => ?_)
        refine lv_iconst (v := (0 : Int32)) hx hb dX9_dark_53 (by decide) ?_
        refine lv_istore (lv' := [(7, .int (0 : Int32)), (6, .int r22), (0, .ref a_this), (1, .int x1), (3, .int x3), (4, .int x4), (5, .int x5)]) hx hb dX9_dark_54 hl (by decide) rfl (fun ls hl => ?_)
        exact j56 (x1) (x3) (v_thrown) (f_X9_dark_b38 v_squares v_starMany v_s v_stars x1 x3 v_thrown n38) ih (x4) (x5) zF (r22) ((0 : Int32)) ls (lv_sub hl [2, 3, 4, 5, 6, 1, 0] rfl) _ _ hP hD hS hf
  have hSH := hS
  unfold f_X9_dark at hf
  refine lv_aload_n hx hb dX9_dark_0 rfl (lv_at hl 0 rfl) ?_
  refine lv_iconst (v := (0 : Int32)) hx hb dX9_dark_1 (by decide) ?_
  refine va_put (D := G.1) (ci := 9) (v := .int (0 : Int32)) (ty := .int) (C := RX9) (T := TX9) (N := 26) hx hb hts inX9 tyX9 tyX9_ok nmX9 hown hK hP hD hS 0 rfl rfl 0 (by decide) lk42 (fun _ h9 => h9) rfl (by decide +kernel) rfl rfl (Nat.le_of_ble_eq_true rfl) dX9_dark_2 (fun H locs hP hD hS => ?_)
  have hP : va_P G.1 vwCl [(a_this, .inr (9, [.int (0 : Int32), .long v_trace, .ref a_this_text, .int v_typed, .int v_next, .int v_token, .int v_place, .int v_value, .int v_fault, .int v_squares, .ref a_this_stars, .ref a_this_purses, .ref a_this_leases, .int v_starMany, .int v_tenants, .int v_draftSquares, .int v_draftStars, .int v_draftTenants, .int v_draftLeases, .ref a_this_s, .ref a_this_kept, .ref a_this_isKept, .ref a_this_offers, .int v_offerMany, .ref a_this_seen, .int v_seenMany])), (a_this_s, .inl (G.2.1, 100, .inl v_s)), (a_this_stars, .inl (G.2.1, 48, .inl v_stars))] H := hP
  have hD : va_D A [(a_this, .inr (9, [.int (0 : Int32), .long v_trace, .ref a_this_text, .int v_typed, .int v_next, .int v_token, .int v_place, .int v_value, .int v_fault, .int v_squares, .ref a_this_stars, .ref a_this_purses, .ref a_this_leases, .int v_starMany, .int v_tenants, .int v_draftSquares, .int v_draftStars, .int v_draftTenants, .int v_draftLeases, .ref a_this_s, .ref a_this_kept, .ref a_this_isKept, .ref a_this_offers, .int v_offerMany, .ref a_this_seen, .int v_seenMany])), (a_this_s, .inl (G.2.1, 100, .inl v_s)), (a_this_stars, .inl (G.2.1, 48, .inl v_stars))] := hD
  refine lv_aload_n hx hb dX9_dark_5 rfl (lv_at hl 0 rfl) ?_
  refine lv_iload_n hx hb dX9_dark_6 rfl (lv_at hl 1 rfl) ?_
  obtain ⟨r23, hu, hf⟩ := bd1_some hf
  refine zRi (va_runV (As := [.int g1]) (rest := []) hC (c_X9_isTenant l G a_this a_this_text a_this_stars a_this_purses a_this_leases a_this_s a_this_kept a_this_isKept a_this_offers a_this_seen ((0 : Int32)) (v_trace) (v_typed) (v_next) (v_token) (v_place) (v_value) (v_fault) (v_squares) (v_starMany) (v_tenants) (v_draftSquares) (v_draftStars) (v_draftTenants) (v_draftLeases) (v_offerMany) (v_seenMany) (g1) r23 hu) (cwV 1 hts gX9_dark_X9_isTenant rfl rfl rfl hd_X9_isTenant ⟨(Nat.le_of_ble_eq_true rfl), (Nat.le_of_ble_eq_true rfl)⟩) (zPV hE hP [0] rfl 0 rfl rfl) rfl rfl hl.1 rfl (lv_room (Nat.le_of_ble_eq_true rfl)) dX9_dark_7 ⟨Nat.zero_le _, Nat.zero_le _⟩) ?_
  refine lv_if_eq (tgt := 30) hx hb dX9_dark_10 (by decide) (fun hc24 => ?_) (fun hc24 => ?_)
  · have hf := if_t hf hc24
    refine lv_iconst (v := (-1 : Int32)) hx hb dX9_dark_30 (by decide) ?_
    obtain ⟨hr0, hr1⟩ := so2 hf
    subst hr0
    subst hr1
    rw [← hQ]
    exact W.iret (v := (-1 : Int32)) hx hb hr (fun t ht hW => ⟨⟨rfl, by rw [ht]; exact hP⟩, hS.F ht⟩) hS.2.2 dX9_dark_31
  · have hf := if_f hf hc24
    refine lv_iload_n hx hb dX9_dark_13 rfl (lv_at hl 2 rfl) ?_
    obtain ⟨r25, hu, hf⟩ := bd1_some hf
    refine zRi (va_runS (As := [.int g2]) (rest := []) hC (c_X9_isNight l G (g2) r25 hu) (va_cwS 1 hts gX9_dark_X9_isNight rfl rfl rfl hd_X9_isNight.2 ⟨(Nat.le_of_ble_eq_true rfl), (Nat.le_of_ble_eq_true rfl)⟩) (zPS hE hP [] rfl) rfl rfl hl.1 rfl (lv_room (Nat.le_of_ble_eq_true rfl)) dX9_dark_14 ⟨Nat.zero_le _, Nat.zero_le _⟩) ?_
    refine lv_if_eq (tgt := 30) hx hb dX9_dark_17 (by decide) (fun hc26 => ?_) (fun hc26 => ?_)
    · have hf := if_t hf hc26
      refine lv_iconst (v := (-1 : Int32)) hx hb dX9_dark_30 (by decide) ?_
      obtain ⟨hr0, hr1⟩ := so2 hf
      subst hr0
      subst hr1
      rw [← hQ]
      exact W.iret (v := (-1 : Int32)) hx hb hr (fun t ht hW => ⟨⟨rfl, by rw [ht]; exact hP⟩, hS.F ht⟩) hS.2.2 dX9_dark_31
    · have hf := if_f hf hc26
      refine lv_iload_n hx hb dX9_dark_20 rfl (lv_at hl 3 rfl) ?_
      refine lv_iload_n hx hb dX9_dark_21 rfl (lv_at hl 2 rfl) ?_
      refine lv_bipush (v := (99 : Int32)) hx hb dX9_dark_22 (by decide) ?_
      obtain ⟨r27, hu, hf⟩ := bd1_some hf
      refine zRi (va_runS (As := [.int g3, .int g2, .int (99 : Int32)]) (rest := []) hC (c_X9_in l G (g3) (g2) ((99 : Int32)) r27 hu) (va_cwS 3 hts gX9_dark_X9_in rfl rfl rfl hd_X9_in.2 ⟨(Nat.le_of_ble_eq_true rfl), (Nat.le_of_ble_eq_true rfl)⟩) (zPS hE hP [] rfl) rfl rfl hl.1 rfl (lv_room (Nat.le_of_ble_eq_true rfl)) dX9_dark_24 ⟨Nat.zero_le _, Nat.zero_le _⟩) ?_
      refine lv_if_ne (tgt := 32) hx hb dX9_dark_27 (by decide) (fun hc28 => ?_) (fun hc28 => ?_)
      · have hf := if_f hf hc28
        refine lv_iconst (v := (0 : Int32)) hx hb dX9_dark_32 (by decide) ?_
        refine lv_istore (lv' := [(4, .int (0 : Int32)), (0, .ref a_this), (1, .int g1), (2, .int g2), (3, .int g3)]) hx hb dX9_dark_33 hl (by decide) rfl (fun ls hl => ?_)
        refine lv_iload_n hx hb dX9_dark_35 rfl (lv_at hl 3 rfl) ?_
        refine lv_istore (lv' := [(5, .int g2), (4, .int (0 : Int32)), (0, .ref a_this), (1, .int g1), (2, .int g2), (3, .int g3)]) hx hb dX9_dark_36 hl (by decide) rfl (fun ls hl => ?_)
        exact j38 (g1) (g3) ((0 : Int32)) zF ((0 : Int32)) (g2) ls (lv_sub hl [2, 3, 5, 1, 0] rfl) _ _ hP hD hS hf
      · have hf := if_t hf hc28
        refine lv_iconst (v := (-1 : Int32)) hx hb dX9_dark_30 (by decide) ?_
        obtain ⟨hr0, hr1⟩ := so2 hf
        subst hr0
        subst hr1
        rw [← hQ]
        exact W.iret (v := (-1 : Int32)) hx hb hr (fun t ht hW => ⟨⟨rfl, by rw [ht]; exact hP⟩, hS.F ht⟩) hS.2.2 dX9_dark_31
def f_X9_meets_b33 (v_squares : Int32) (v_stars : (Nat → Int32)) (v_s : (Nat → Int32))  (x1 : Int32) (x2 : Int32) (v_thrown : Int32) : Nat → Int32 → Option (Int32 × Int32)
  | 0, _ => none
  | n33 + 1, x4 => if (100 : Int32) ≤ x4 then (some ((-9 : Int32), v_thrown)) else (bd1 (f_X9_squareOf (v_squares) (v_stars) (x2) (x4)) fun r12 => bd1 (f_X9_whoseIs (v_squares) (v_s) (r12) (x4)) fun r13 => if r13 = x1 then (some (x4, v_thrown)) else (f_X9_meets_b33 v_squares v_stars v_s x1 x2 v_thrown n33 ((x4 + (1 : Int32)))))
def f_X9_meets  (v_thrown : Int32) (v_squares : Int32) (v_starMany : Int32) (v_tenants : Int32) (v_stars : (Nat → Int32)) (v_s : (Nat → Int32)) (g1 : Int32) (g2 : Int32) (g3 : Int32) : Option (Int32 × Int32) := bd1 (f_X9_isTenant (v_tenants) (g1)) fun r15 => if r15 = (0 : Int32) then (some ((-1 : Int32), (0 : Int32))) else (bd1 (f_X9_isStar (v_starMany) (g2)) fun r17 => if r17 = (0 : Int32) then (some ((-1 : Int32), (0 : Int32))) else (bd1 (f_X9_isNight (g3)) fun r19 => if r19 = (0 : Int32) then (some ((-1 : Int32), (0 : Int32))) else (f_X9_meets_b33 v_squares v_stars v_s (g1) (g2) ((0 : Int32)) zF (g3))))
abbrev rm_X9_meets : Room := { frames := 3, cells := 0, slots := 0, locals := 70 }
set_option maxHeartbeats 4000000 in
set_option maxRecDepth 100000 in
theorem c_X9_meets (l : Launch) (G : zG) (sz : Nat) (a_this : Nat) (a_this_stars : Nat) (a_this_s : Nat) (a_this_text : Nat) (a_this_purses : Nat) (a_this_leases : Nat) (a_this_kept : Nat) (a_this_isKept : Nat) (a_this_offers : Nat) (a_this_seen : Nat) (v_thrown : Int32) (v_trace : Int64) (v_typed : Int32) (v_next : Int32) (v_token : Int32) (v_place : Int32) (v_value : Int32) (v_fault : Int32) (v_squares : Int32) (v_starMany : Int32) (v_tenants : Int32) (v_draftSquares : Int32) (v_draftStars : Int32) (v_draftTenants : Int32) (v_draftLeases : Int32) (v_offerMany : Int32) (v_seenMany : Int32) (v_stars : (Nat → Int32)) (v_s : (Nat → Int32)) (g1 : Int32) (g2 : Int32) (g3 : Int32) (R0 : Int32) (R1 : Int32) (hf : f_X9_meets v_thrown v_squares v_starMany v_tenants v_stars v_s g1 g2 g3 = some (R0, R1)) : Met l yX9_meets wsX9_meets rm_X9_meets (va_Pc [.ref a_this, .int g1, .int g2, .int g3] (zB G [(a_this, .inr (9, [.int v_thrown, .long v_trace, .ref a_this_text, .int v_typed, .int v_next, .int v_token, .int v_place, .int v_value, .int v_fault, .int v_squares, .ref a_this_stars, .ref a_this_purses, .ref a_this_leases, .int v_starMany, .int v_tenants, .int v_draftSquares, .int v_draftStars, .int v_draftTenants, .int v_draftLeases, .ref a_this_s, .ref a_this_kept, .ref a_this_isKept, .ref a_this_offers, .int v_offerMany, .ref a_this_seen, .int v_seenMany])), (a_this_stars, .inl (G.2.1, 48, .inl v_stars)), (a_this_s, .inl (G.2.1, 100, .inl v_s))] sz)) (zQ G (some (.int R0)) [(a_this, .inr (9, [.int R1, .long v_trace, .ref a_this_text, .int v_typed, .int v_next, .int v_token, .int v_place, .int v_value, .int v_fault, .int v_squares, .ref a_this_stars, .ref a_this_purses, .ref a_this_leases, .int v_starMany, .int v_tenants, .int v_draftSquares, .int v_draftStars, .int v_draftTenants, .int v_draftLeases, .ref a_this_s, .ref a_this_kept, .ref a_this_isKept, .ref a_this_offers, .int v_offerMany, .ref a_this_seen, .int v_seenMany])), (a_this_stars, .inl (G.2.1, 48, .inl v_stars)), (a_this_s, .inl (G.2.1, 100, .inl v_s))] (va_A [(a_this, .inr (9, [.int v_thrown, .long v_trace, .ref a_this_text, .int v_typed, .int v_next, .int v_token, .int v_place, .int v_value, .int v_fault, .int v_squares, .ref a_this_stars, .ref a_this_purses, .ref a_this_leases, .int v_starMany, .int v_tenants, .int v_draftSquares, .int v_draftStars, .int v_draftTenants, .int v_draftLeases, .ref a_this_s, .ref a_this_kept, .ref a_this_isKept, .ref a_this_offers, .int v_offerMany, .ref a_this_seen, .int v_seenMany])), (a_this_stars, .inl (G.2.1, 48, .inl v_stars)), (a_this_s, .inl (G.2.1, 100, .inl v_s))] sz)) 0 0 (va_A [(a_this, .inr (9, [.int v_thrown, .long v_trace, .ref a_this_text, .int v_typed, .int v_next, .int v_token, .int v_place, .int v_value, .int v_fault, .int v_squares, .ref a_this_stars, .ref a_this_purses, .ref a_this_leases, .int v_starMany, .int v_tenants, .int v_draftSquares, .int v_draftStars, .int v_draftTenants, .int v_draftLeases, .ref a_this_s, .ref a_this_kept, .ref a_this_isKept, .ref a_this_offers, .int v_offerMany, .ref a_this_seen, .int v_seenMany])), (a_this_stars, .inl (G.2.1, 48, .inl v_stars)), (a_this_s, .inl (G.2.1, 100, .inl v_s))] sz) := by
  refine Met.ofW (cc := cX9_meets) (maxL := 5) (ret := (some .int)) (by decide) rfl ?_
  intro p e s m args below meth c s₁ B hml hv
  obtain ⟨hargs, hsz, hP, hD0, hE⟩ := hv
  have hx := B.exec
  have hb := B.bytes
  have hr := B.returns
  have hts := atoms_spec (ws := wsX9_meets) B.pre
  have hown : s.vm.findClass RX9 = some m.cls := findClass_of_methodNamed B.named
  have hlocks := B.notSynchronized
  have hK := hE.1
  have hC : CallFix p m c cX9_meets 5 s args wsX9_meets RX9 := ⟨hx, hb, hml, hown, hts⟩
  have inX9 : ∀ w ∈ wsX90, w ∈ wsX9_meets := by decide +kernel
  have lk42 := hts (.fieldLink RX9 42 "SkyLeasesModel" "thrown" "I") (by decide +kernel)
  subst hsz
  have hD := hD0.self (sz := s.heap.size)
  generalize hAe : va_A [(a_this, .inr (9, [.int v_thrown, .long v_trace, .ref a_this_text, .int v_typed, .int v_next, .int v_token, .int v_place, .int v_value, .int v_fault, .int v_squares, .ref a_this_stars, .ref a_this_purses, .ref a_this_leases, .int v_starMany, .int v_tenants, .int v_draftSquares, .int v_draftStars, .int v_draftTenants, .int v_draftLeases, .ref a_this_s, .ref a_this_kept, .ref a_this_isKept, .ref a_this_offers, .int v_offerMany, .ref a_this_seen, .int v_seenMany])), (a_this_stars, .inl (G.2.1, 48, .inl v_stars)), (a_this_s, .inl (G.2.1, 100, .inl v_s))] s.heap.size = A at hD ⊢
  have hA : ∀ q : Nat, s.heap.size ≤ q → A q := fun q h => by rw [← hAe]; exact Or.inr h
  have hS : va_S A s.heap s.heap [] := va_S.rf
  have hP : va_P G.1 vwCl [(a_this, .inr (9, [.int v_thrown, .long v_trace, .ref a_this_text, .int v_typed, .int v_next, .int v_token, .int v_place, .int v_value, .int v_fault, .int v_squares, .ref a_this_stars, .ref a_this_purses, .ref a_this_leases, .int v_starMany, .int v_tenants, .int v_draftSquares, .int v_draftStars, .int v_draftTenants, .int v_draftLeases, .ref a_this_s, .ref a_this_kept, .ref a_this_isKept, .ref a_this_offers, .int v_offerMany, .ref a_this_seen, .int v_seenMany])), (a_this_stars, .inl (G.2.1, 48, .inl v_stars)), (a_this_s, .inl (G.2.1, 100, .inl v_s))] s.heap := hP
  have hl := lv_entry ([.ref a_this, .int g1, .int g2, .int g3]) (n := 5) (Nat.le_of_ble_eq_true rfl)
  have hent : entryFrame m args 5 = F0 m 0 ((lg_sl ([.ref a_this, .int g1, .int g2, .int g3]) ++ List.replicate (5 - (lg_sl ([.ref a_this, .int g1, .int g2, .int g3])).length) Slot.unset).toArray) [] := by rw [hargs]; exact lg_entry_eq m [.ref a_this, .int g1, .int g2, .int g3] 5
  refine W.eq hent ?_
  clear hent
  generalize (lg_sl ([.ref a_this, .int g1, .int g2, .int g3]) ++ List.replicate (5 - (lg_sl ([.ref a_this, .int g1, .int g2, .int g3])).length) Slot.unset).toArray = ls at hl ⊢
  have hl : lv_has ls 5 [(0, .ref a_this), (1, .int g1), (2, .int g2), (3, .int g3)] := hl
  generalize hQ : MQ below _ args s 0 0 _ = QQ
  change W p l e rm_X9_meets s m args below meth c s.heap [] 0 0 QQ _
  have j33 : ∀ (x1 : Int32), ∀ (x2 : Int32), ∀ (v_thrown : Int32), ∀ (nn : Nat), ∀ (x4 : Int32), ∀ (ls : Array Slot), lv_has ls 5 [(0, .ref a_this), (1, .int x1), (2, .int x2), (4, .int x4)] → ∀ (H : Heap) (locs : List Loc), va_P G.1 vwCl [(a_this, .inr (9, [.int v_thrown, .long v_trace, .ref a_this_text, .int v_typed, .int v_next, .int v_token, .int v_place, .int v_value, .int v_fault, .int v_squares, .ref a_this_stars, .ref a_this_purses, .ref a_this_leases, .int v_starMany, .int v_tenants, .int v_draftSquares, .int v_draftStars, .int v_draftTenants, .int v_draftLeases, .ref a_this_s, .ref a_this_kept, .ref a_this_isKept, .ref a_this_offers, .int v_offerMany, .ref a_this_seen, .int v_seenMany])), (a_this_stars, .inl (G.2.1, 48, .inl v_stars)), (a_this_s, .inl (G.2.1, 100, .inl v_s))] H → va_D A [(a_this, .inr (9, [.int v_thrown, .long v_trace, .ref a_this_text, .int v_typed, .int v_next, .int v_token, .int v_place, .int v_value, .int v_fault, .int v_squares, .ref a_this_stars, .ref a_this_purses, .ref a_this_leases, .int v_starMany, .int v_tenants, .int v_draftSquares, .int v_draftStars, .int v_draftTenants, .int v_draftLeases, .ref a_this_s, .ref a_this_kept, .ref a_this_isKept, .ref a_this_offers, .int v_offerMany, .ref a_this_seen, .int v_seenMany])), (a_this_stars, .inl (G.2.1, 48, .inl v_stars)), (a_this_s, .inl (G.2.1, 100, .inl v_s))] → va_S A s.heap H locs → f_X9_meets_b33 v_squares v_stars v_s x1 x2 v_thrown nn x4 = some (R0, R1) → W p l e rm_X9_meets s m args below meth c H locs 0 0 QQ (F0 m 33 ls []) := by
    intro x1 x2 v_thrown
    intro nn
    induction nn with
    | zero =>
      intro x4 ls hl H locs hP hD hS hf
      rw [f_X9_meets_b33] at hf
      cases hf
    | succ n33 ih =>
      intro x4 ls hl H locs hP hD hS hf
      rw [f_X9_meets_b33] at hf
      refine lv_iload hx hb dX9_meets_33 (lv_at hl 3 rfl) ?_
      refine lv_bipush (v := (100 : Int32)) hx hb dX9_meets_35 (by decide) ?_
      refine lv_icmp_ge (tgt := 66) hx hb dX9_meets_37 (by decide) (fun hc11 => ?_) (fun hc11 => ?_)
      · have hf := if_t hf hc11
        refine lv_bipush (v := (-9 : Int32)) hx hb dX9_meets_66 (by decide) ?_
        obtain ⟨hr0, hr1⟩ := so2 hf
        subst hr0
        subst hr1
        rw [← hQ]
        exact W.iret (v := (-9 : Int32)) hx hb hr (fun t ht hW => ⟨⟨rfl, by rw [ht]; exact hP⟩, hS.F ht⟩) hS.2.2 dX9_meets_68
      · have hf := if_f hf hc11
        refine lv_aload_n hx hb dX9_meets_40 rfl (lv_at hl 0 rfl) ?_
        refine lv_aload_n hx hb dX9_meets_41 rfl (lv_at hl 0 rfl) ?_
        refine lv_iload_n hx hb dX9_meets_42 rfl (lv_at hl 2 rfl) ?_
        refine lv_iload hx hb dX9_meets_43 (lv_at hl 3 rfl) ?_
        obtain ⟨r12, hu, hf⟩ := bd1_some hf
        refine zRi (va_runV (As := [.int x2, .int x4]) (rest := [.ref a_this]) hC (c_X9_squareOf l G a_this a_this_stars a_this_text a_this_purses a_this_leases a_this_s a_this_kept a_this_isKept a_this_offers a_this_seen (v_thrown) (v_trace) (v_typed) (v_next) (v_token) (v_place) (v_value) (v_fault) (v_squares) (v_starMany) (v_tenants) (v_draftSquares) (v_draftStars) (v_draftTenants) (v_draftLeases) (v_offerMany) (v_seenMany) (v_stars) (x2) (x4) r12 hu) (cwV 2 hts gX9_meets_X9_squareOf rfl rfl rfl hd_X9_squareOf ⟨(Nat.le_of_ble_eq_true rfl), (Nat.le_of_ble_eq_true rfl)⟩) (zPV hE hP [0, 1] rfl 0 rfl rfl) rfl rfl hl.1 rfl (lv_room (Nat.le_of_ble_eq_true rfl)) dX9_meets_45 ⟨Nat.zero_le _, Nat.zero_le _⟩) ?_
        refine lv_iload hx hb dX9_meets_48 (lv_at hl 3 rfl) ?_
        obtain ⟨r13, hu, hf⟩ := bd1_some hf
        refine zRi (va_runV (As := [.int r12, .int x4]) (rest := []) hC (c_X9_whoseIs l G a_this a_this_s a_this_text a_this_stars a_this_purses a_this_leases a_this_kept a_this_isKept a_this_offers a_this_seen (v_thrown) (v_trace) (v_typed) (v_next) (v_token) (v_place) (v_value) (v_fault) (v_squares) (v_starMany) (v_tenants) (v_draftSquares) (v_draftStars) (v_draftTenants) (v_draftLeases) (v_offerMany) (v_seenMany) (v_s) (r12) (x4) r13 hu) (cwV 2 hts gX9_meets_X9_whoseIs rfl rfl rfl hd_X9_whoseIs ⟨(Nat.le_of_ble_eq_true rfl), (Nat.le_of_ble_eq_true rfl)⟩) (zPV hE hP [0, 2] rfl 0 rfl rfl) rfl rfl hl.1 rfl (lv_room (Nat.le_of_ble_eq_true rfl)) dX9_meets_50 ⟨Nat.zero_le _, Nat.zero_le _⟩) ?_
        refine lv_iload_n hx hb dX9_meets_53 rfl (lv_at hl 1 rfl) ?_
        refine lv_icmp_ne (tgt := 60) hx hb dX9_meets_54 (by decide) (fun hc14 => ?_) (fun hc14 => ?_)
        · have hf := if_f hf hc14
          refine lv_iinc (v := (x4 + (1 : Int32))) (lv' := [(4, .int (x4 + (1 : Int32))), (0, .ref a_this), (1, .int x1), (2, .int x2)]) hx hb dX9_meets_60 hl (k := 3) rfl rfl (by decide) rfl (fun ls hl => ?_)
          refine lv_goto (tgt := 33) hx hb dX9_meets_63 (by decide) ?_
          exact ih ((x4 + (1 : Int32))) ls (lv_sub hl [1, 2, 3, 0] rfl) _ _ hP hD hS hf
        · have hf := if_t hf hc14
          refine lv_iload hx hb dX9_meets_57 (lv_at hl 3 rfl) ?_
          obtain ⟨hr0, hr1⟩ := so2 hf
          subst hr0
          subst hr1
          rw [← hQ]
          exact W.iret (v := x4) hx hb hr (fun t ht hW => ⟨⟨rfl, by rw [ht]; exact hP⟩, hS.F ht⟩) hS.2.2 dX9_meets_59
  have hSH := hS
  unfold f_X9_meets at hf
  refine lv_aload_n hx hb dX9_meets_0 rfl (lv_at hl 0 rfl) ?_
  refine lv_iconst (v := (0 : Int32)) hx hb dX9_meets_1 (by decide) ?_
  refine va_put (D := G.1) (ci := 9) (v := .int (0 : Int32)) (ty := .int) (C := RX9) (T := TX9) (N := 26) hx hb hts inX9 tyX9 tyX9_ok nmX9 hown hK hP hD hS 0 rfl rfl 0 (by decide) lk42 (fun _ h9 => h9) rfl (by decide +kernel) rfl rfl (Nat.le_of_ble_eq_true rfl) dX9_meets_2 (fun H locs hP hD hS => ?_)
  have hP : va_P G.1 vwCl [(a_this, .inr (9, [.int (0 : Int32), .long v_trace, .ref a_this_text, .int v_typed, .int v_next, .int v_token, .int v_place, .int v_value, .int v_fault, .int v_squares, .ref a_this_stars, .ref a_this_purses, .ref a_this_leases, .int v_starMany, .int v_tenants, .int v_draftSquares, .int v_draftStars, .int v_draftTenants, .int v_draftLeases, .ref a_this_s, .ref a_this_kept, .ref a_this_isKept, .ref a_this_offers, .int v_offerMany, .ref a_this_seen, .int v_seenMany])), (a_this_stars, .inl (G.2.1, 48, .inl v_stars)), (a_this_s, .inl (G.2.1, 100, .inl v_s))] H := hP
  have hD : va_D A [(a_this, .inr (9, [.int (0 : Int32), .long v_trace, .ref a_this_text, .int v_typed, .int v_next, .int v_token, .int v_place, .int v_value, .int v_fault, .int v_squares, .ref a_this_stars, .ref a_this_purses, .ref a_this_leases, .int v_starMany, .int v_tenants, .int v_draftSquares, .int v_draftStars, .int v_draftTenants, .int v_draftLeases, .ref a_this_s, .ref a_this_kept, .ref a_this_isKept, .ref a_this_offers, .int v_offerMany, .ref a_this_seen, .int v_seenMany])), (a_this_stars, .inl (G.2.1, 48, .inl v_stars)), (a_this_s, .inl (G.2.1, 100, .inl v_s))] := hD
  refine lv_aload_n hx hb dX9_meets_5 rfl (lv_at hl 0 rfl) ?_
  refine lv_iload_n hx hb dX9_meets_6 rfl (lv_at hl 1 rfl) ?_
  obtain ⟨r15, hu, hf⟩ := bd1_some hf
  refine zRi (va_runV (As := [.int g1]) (rest := []) hC (c_X9_isTenant l G a_this a_this_text a_this_stars a_this_purses a_this_leases a_this_s a_this_kept a_this_isKept a_this_offers a_this_seen ((0 : Int32)) (v_trace) (v_typed) (v_next) (v_token) (v_place) (v_value) (v_fault) (v_squares) (v_starMany) (v_tenants) (v_draftSquares) (v_draftStars) (v_draftTenants) (v_draftLeases) (v_offerMany) (v_seenMany) (g1) r15 hu) (cwV 1 hts gX9_meets_X9_isTenant rfl rfl rfl hd_X9_isTenant ⟨(Nat.le_of_ble_eq_true rfl), (Nat.le_of_ble_eq_true rfl)⟩) (zPV hE hP [0] rfl 0 rfl rfl) rfl rfl hl.1 rfl (lv_room (Nat.le_of_ble_eq_true rfl)) dX9_meets_7 ⟨Nat.zero_le _, Nat.zero_le _⟩) ?_
  refine lv_if_eq (tgt := 28) hx hb dX9_meets_10 (by decide) (fun hc16 => ?_) (fun hc16 => ?_)
  · have hf := if_t hf hc16
    refine lv_iconst (v := (-1 : Int32)) hx hb dX9_meets_28 (by decide) ?_
    obtain ⟨hr0, hr1⟩ := so2 hf
    subst hr0
    subst hr1
    rw [← hQ]
    exact W.iret (v := (-1 : Int32)) hx hb hr (fun t ht hW => ⟨⟨rfl, by rw [ht]; exact hP⟩, hS.F ht⟩) hS.2.2 dX9_meets_29
  · have hf := if_f hf hc16
    refine lv_aload_n hx hb dX9_meets_13 rfl (lv_at hl 0 rfl) ?_
    refine lv_iload_n hx hb dX9_meets_14 rfl (lv_at hl 2 rfl) ?_
    obtain ⟨r17, hu, hf⟩ := bd1_some hf
    refine zRi (va_runV (As := [.int g2]) (rest := []) hC (c_X9_isStar l G a_this a_this_text a_this_stars a_this_purses a_this_leases a_this_s a_this_kept a_this_isKept a_this_offers a_this_seen ((0 : Int32)) (v_trace) (v_typed) (v_next) (v_token) (v_place) (v_value) (v_fault) (v_squares) (v_starMany) (v_tenants) (v_draftSquares) (v_draftStars) (v_draftTenants) (v_draftLeases) (v_offerMany) (v_seenMany) (g2) r17 hu) (cwV 1 hts gX9_meets_X9_isStar rfl rfl rfl hd_X9_isStar ⟨(Nat.le_of_ble_eq_true rfl), (Nat.le_of_ble_eq_true rfl)⟩) (zPV hE hP [0] rfl 0 rfl rfl) rfl rfl hl.1 rfl (lv_room (Nat.le_of_ble_eq_true rfl)) dX9_meets_15 ⟨Nat.zero_le _, Nat.zero_le _⟩) ?_
    refine lv_if_eq (tgt := 28) hx hb dX9_meets_18 (by decide) (fun hc18 => ?_) (fun hc18 => ?_)
    · have hf := if_t hf hc18
      refine lv_iconst (v := (-1 : Int32)) hx hb dX9_meets_28 (by decide) ?_
      obtain ⟨hr0, hr1⟩ := so2 hf
      subst hr0
      subst hr1
      rw [← hQ]
      exact W.iret (v := (-1 : Int32)) hx hb hr (fun t ht hW => ⟨⟨rfl, by rw [ht]; exact hP⟩, hS.F ht⟩) hS.2.2 dX9_meets_29
    · have hf := if_f hf hc18
      refine lv_iload_n hx hb dX9_meets_21 rfl (lv_at hl 3 rfl) ?_
      obtain ⟨r19, hu, hf⟩ := bd1_some hf
      refine zRi (va_runS (As := [.int g3]) (rest := []) hC (c_X9_isNight l G (g3) r19 hu) (va_cwS 1 hts gX9_meets_X9_isNight rfl rfl rfl hd_X9_isNight.2 ⟨(Nat.le_of_ble_eq_true rfl), (Nat.le_of_ble_eq_true rfl)⟩) (zPS hE hP [] rfl) rfl rfl hl.1 rfl (lv_room (Nat.le_of_ble_eq_true rfl)) dX9_meets_22 ⟨Nat.zero_le _, Nat.zero_le _⟩) ?_
      refine lv_if_ne (tgt := 30) hx hb dX9_meets_25 (by decide) (fun hc20 => ?_) (fun hc20 => ?_)
      · have hf := if_f hf hc20
        refine lv_iload_n hx hb dX9_meets_30 rfl (lv_at hl 3 rfl) ?_
        refine lv_istore (lv' := [(4, .int g3), (0, .ref a_this), (1, .int g1), (2, .int g2), (3, .int g3)]) hx hb dX9_meets_31 hl (by decide) rfl (fun ls hl => ?_)
        exact j33 (g1) (g2) ((0 : Int32)) zF (g3) ls (lv_sub hl [1, 2, 3, 0] rfl) _ _ hP hD hS hf
      · have hf := if_t hf hc20
        refine lv_iconst (v := (-1 : Int32)) hx hb dX9_meets_28 (by decide) ?_
        obtain ⟨hr0, hr1⟩ := so2 hf
        subst hr0
        subst hr1
        rw [← hQ]
        exact W.iret (v := (-1 : Int32)) hx hb hr (fun t ht hW => ⟨⟨rfl, by rw [ht]; exact hP⟩, hS.F ht⟩) hS.2.2 dX9_meets_29
def f_X9_offer  (v_thrown : Int32) (v_squares : Int32) (v_tenants : Int32) (v_offerMany : Int32) (v_offers : (Nat → Int32)) (g1 : Int32) (g2 : Int32) (g3 : Int32) (g4 : Int32) (g5 : Int32) (g6 : Int32) : Option (Int32 × Int32 × Int32 × (Nat → Int32)) := bd1 (f_X9_isLease (v_squares) (v_tenants) (g1) (g2) (g3) (g4) (g5)) fun r18 => if r18 = (0 : Int32) then (some ((-1 : Int32), (0 : Int32), v_offerMany, v_offers)) else (bd1 (f_X9_in (g6) ((1 : Int32)) ((99 : Int32))) fun r20 => if r20 = (0 : Int32) then (some ((-1 : Int32), (0 : Int32), v_offerMany, v_offers)) else (if v_offerMany = (8 : Int32) then (some ((-3 : Int32), (0 : Int32), v_offerMany, v_offers)) else (gd (inB ((6 : Int32) * v_offerMany) 48) (nm (upd v_offers (((6 : Int32) * v_offerMany)).toNatClampNeg g1) fun y24 => gd (inB (((6 : Int32) * v_offerMany) + (1 : Int32)) 48) (nm (upd y24 ((((6 : Int32) * v_offerMany) + (1 : Int32))).toNatClampNeg g2) fun y26 => gd (inB (((6 : Int32) * v_offerMany) + (2 : Int32)) 48) (nm (upd y26 ((((6 : Int32) * v_offerMany) + (2 : Int32))).toNatClampNeg g3) fun y28 => gd (inB (((6 : Int32) * v_offerMany) + (3 : Int32)) 48) (nm (upd y28 ((((6 : Int32) * v_offerMany) + (3 : Int32))).toNatClampNeg g4) fun y30 => gd (inB (((6 : Int32) * v_offerMany) + (4 : Int32)) 48) (nm (upd y30 ((((6 : Int32) * v_offerMany) + (4 : Int32))).toNatClampNeg g5) fun y32 => gd (inB (((6 : Int32) * v_offerMany) + (5 : Int32)) 48) (nm (upd y32 ((((6 : Int32) * v_offerMany) + (5 : Int32))).toNatClampNeg g6) fun y34 => some (((v_offerMany + (1 : Int32)) - (1 : Int32)), (0 : Int32), (v_offerMany + (1 : Int32)), y34))))))))))
abbrev rm_X9_offer : Room := { frames := 3, cells := 0, slots := 0, locals := 68 }
set_option maxHeartbeats 4000000 in
set_option maxRecDepth 100000 in
theorem c_X9_offer (l : Launch) (G : zG) (sz : Nat) (a_this : Nat) (a_this_offers : Nat) (a_this_text : Nat) (a_this_stars : Nat) (a_this_purses : Nat) (a_this_leases : Nat) (a_this_s : Nat) (a_this_kept : Nat) (a_this_isKept : Nat) (a_this_seen : Nat) (v_thrown : Int32) (v_trace : Int64) (v_typed : Int32) (v_next : Int32) (v_token : Int32) (v_place : Int32) (v_value : Int32) (v_fault : Int32) (v_squares : Int32) (v_starMany : Int32) (v_tenants : Int32) (v_draftSquares : Int32) (v_draftStars : Int32) (v_draftTenants : Int32) (v_draftLeases : Int32) (v_offerMany : Int32) (v_seenMany : Int32) (v_offers : (Nat → Int32)) (g1 : Int32) (g2 : Int32) (g3 : Int32) (g4 : Int32) (g5 : Int32) (g6 : Int32) (R0 : Int32) (R1 : Int32) (R2 : Int32) (R3 : (Nat → Int32)) (hf : f_X9_offer v_thrown v_squares v_tenants v_offerMany v_offers g1 g2 g3 g4 g5 g6 = some (R0, R1, R2, R3)) : Met l yX9_offer wsX9_offer rm_X9_offer (va_Pc [.ref a_this, .int g1, .int g2, .int g3, .int g4, .int g5, .int g6] (zB G [(a_this, .inr (9, [.int v_thrown, .long v_trace, .ref a_this_text, .int v_typed, .int v_next, .int v_token, .int v_place, .int v_value, .int v_fault, .int v_squares, .ref a_this_stars, .ref a_this_purses, .ref a_this_leases, .int v_starMany, .int v_tenants, .int v_draftSquares, .int v_draftStars, .int v_draftTenants, .int v_draftLeases, .ref a_this_s, .ref a_this_kept, .ref a_this_isKept, .ref a_this_offers, .int v_offerMany, .ref a_this_seen, .int v_seenMany])), (a_this_offers, .inl (G.2.1, 48, .inl v_offers))] sz)) (zQ G (some (.int R0)) [(a_this, .inr (9, [.int R1, .long v_trace, .ref a_this_text, .int v_typed, .int v_next, .int v_token, .int v_place, .int v_value, .int v_fault, .int v_squares, .ref a_this_stars, .ref a_this_purses, .ref a_this_leases, .int v_starMany, .int v_tenants, .int v_draftSquares, .int v_draftStars, .int v_draftTenants, .int v_draftLeases, .ref a_this_s, .ref a_this_kept, .ref a_this_isKept, .ref a_this_offers, .int R2, .ref a_this_seen, .int v_seenMany])), (a_this_offers, .inl (G.2.1, 48, .inl R3))] (va_A [(a_this, .inr (9, [.int v_thrown, .long v_trace, .ref a_this_text, .int v_typed, .int v_next, .int v_token, .int v_place, .int v_value, .int v_fault, .int v_squares, .ref a_this_stars, .ref a_this_purses, .ref a_this_leases, .int v_starMany, .int v_tenants, .int v_draftSquares, .int v_draftStars, .int v_draftTenants, .int v_draftLeases, .ref a_this_s, .ref a_this_kept, .ref a_this_isKept, .ref a_this_offers, .int v_offerMany, .ref a_this_seen, .int v_seenMany])), (a_this_offers, .inl (G.2.1, 48, .inl v_offers))] sz)) 0 0 (va_A [(a_this, .inr (9, [.int v_thrown, .long v_trace, .ref a_this_text, .int v_typed, .int v_next, .int v_token, .int v_place, .int v_value, .int v_fault, .int v_squares, .ref a_this_stars, .ref a_this_purses, .ref a_this_leases, .int v_starMany, .int v_tenants, .int v_draftSquares, .int v_draftStars, .int v_draftTenants, .int v_draftLeases, .ref a_this_s, .ref a_this_kept, .ref a_this_isKept, .ref a_this_offers, .int v_offerMany, .ref a_this_seen, .int v_seenMany])), (a_this_offers, .inl (G.2.1, 48, .inl v_offers))] sz) := by
  refine Met.ofW (cc := cX9_offer) (maxL := 8) (ret := (some .int)) (by decide) rfl ?_
  intro p e s m args below meth c s₁ B hml hv
  obtain ⟨hargs, hsz, hP, hD0, hE⟩ := hv
  have hx := B.exec
  have hb := B.bytes
  have hr := B.returns
  have hts := atoms_spec (ws := wsX9_offer) B.pre
  have hown : s.vm.findClass RX9 = some m.cls := findClass_of_methodNamed B.named
  have hlocks := B.notSynchronized
  have hK := hE.1
  have hC : CallFix p m c cX9_offer 8 s args wsX9_offer RX9 := ⟨hx, hb, hml, hown, hts⟩
  have inX9 : ∀ w ∈ wsX90, w ∈ wsX9_offer := by decide +kernel
  have lk32 := hts (.fieldLink RX9 32 "SkyLeasesModel" "offers" "[I") (by decide +kernel)
  have lk42 := hts (.fieldLink RX9 42 "SkyLeasesModel" "thrown" "I") (by decide +kernel)
  have lk124 := hts (.fieldLink RX9 124 "SkyLeasesModel" "offerMany" "I") (by decide +kernel)
  subst hsz
  have hD := hD0.self (sz := s.heap.size)
  generalize hAe : va_A [(a_this, .inr (9, [.int v_thrown, .long v_trace, .ref a_this_text, .int v_typed, .int v_next, .int v_token, .int v_place, .int v_value, .int v_fault, .int v_squares, .ref a_this_stars, .ref a_this_purses, .ref a_this_leases, .int v_starMany, .int v_tenants, .int v_draftSquares, .int v_draftStars, .int v_draftTenants, .int v_draftLeases, .ref a_this_s, .ref a_this_kept, .ref a_this_isKept, .ref a_this_offers, .int v_offerMany, .ref a_this_seen, .int v_seenMany])), (a_this_offers, .inl (G.2.1, 48, .inl v_offers))] s.heap.size = A at hD ⊢
  have hA : ∀ q : Nat, s.heap.size ≤ q → A q := fun q h => by rw [← hAe]; exact Or.inr h
  have hS : va_S A s.heap s.heap [] := va_S.rf
  have hP : va_P G.1 vwCl [(a_this, .inr (9, [.int v_thrown, .long v_trace, .ref a_this_text, .int v_typed, .int v_next, .int v_token, .int v_place, .int v_value, .int v_fault, .int v_squares, .ref a_this_stars, .ref a_this_purses, .ref a_this_leases, .int v_starMany, .int v_tenants, .int v_draftSquares, .int v_draftStars, .int v_draftTenants, .int v_draftLeases, .ref a_this_s, .ref a_this_kept, .ref a_this_isKept, .ref a_this_offers, .int v_offerMany, .ref a_this_seen, .int v_seenMany])), (a_this_offers, .inl (G.2.1, 48, .inl v_offers))] s.heap := hP
  have hl := lv_entry ([.ref a_this, .int g1, .int g2, .int g3, .int g4, .int g5, .int g6]) (n := 8) (Nat.le_of_ble_eq_true rfl)
  have hent : entryFrame m args 8 = F0 m 0 ((lg_sl ([.ref a_this, .int g1, .int g2, .int g3, .int g4, .int g5, .int g6]) ++ List.replicate (8 - (lg_sl ([.ref a_this, .int g1, .int g2, .int g3, .int g4, .int g5, .int g6])).length) Slot.unset).toArray) [] := by rw [hargs]; exact lg_entry_eq m [.ref a_this, .int g1, .int g2, .int g3, .int g4, .int g5, .int g6] 8
  refine W.eq hent ?_
  clear hent
  generalize (lg_sl ([.ref a_this, .int g1, .int g2, .int g3, .int g4, .int g5, .int g6]) ++ List.replicate (8 - (lg_sl ([.ref a_this, .int g1, .int g2, .int g3, .int g4, .int g5, .int g6])).length) Slot.unset).toArray = ls at hl ⊢
  have hl : lv_has ls 8 [(0, .ref a_this), (1, .int g1), (2, .int g2), (3, .int g3), (4, .int g4), (5, .int g5), (6, .int g6)] := hl
  generalize hQ : MQ below _ args s 0 0 _ = QQ
  change W p l e rm_X9_offer s m args below meth c s.heap [] 0 0 QQ _
  have hSH := hS
  unfold f_X9_offer at hf
  refine lv_aload_n hx hb dX9_offer_0 rfl (lv_at hl 0 rfl) ?_
  refine lv_iconst (v := (0 : Int32)) hx hb dX9_offer_1 (by decide) ?_
  refine va_put (D := G.1) (ci := 9) (v := .int (0 : Int32)) (ty := .int) (C := RX9) (T := TX9) (N := 26) hx hb hts inX9 tyX9 tyX9_ok nmX9 hown hK hP hD hS 0 rfl rfl 0 (by decide) lk42 (fun _ h9 => h9) rfl (by decide +kernel) rfl rfl (Nat.le_of_ble_eq_true rfl) dX9_offer_2 (fun H locs hP hD hS => ?_)
  have hP : va_P G.1 vwCl [(a_this, .inr (9, [.int (0 : Int32), .long v_trace, .ref a_this_text, .int v_typed, .int v_next, .int v_token, .int v_place, .int v_value, .int v_fault, .int v_squares, .ref a_this_stars, .ref a_this_purses, .ref a_this_leases, .int v_starMany, .int v_tenants, .int v_draftSquares, .int v_draftStars, .int v_draftTenants, .int v_draftLeases, .ref a_this_s, .ref a_this_kept, .ref a_this_isKept, .ref a_this_offers, .int v_offerMany, .ref a_this_seen, .int v_seenMany])), (a_this_offers, .inl (G.2.1, 48, .inl v_offers))] H := hP
  have hD : va_D A [(a_this, .inr (9, [.int (0 : Int32), .long v_trace, .ref a_this_text, .int v_typed, .int v_next, .int v_token, .int v_place, .int v_value, .int v_fault, .int v_squares, .ref a_this_stars, .ref a_this_purses, .ref a_this_leases, .int v_starMany, .int v_tenants, .int v_draftSquares, .int v_draftStars, .int v_draftTenants, .int v_draftLeases, .ref a_this_s, .ref a_this_kept, .ref a_this_isKept, .ref a_this_offers, .int v_offerMany, .ref a_this_seen, .int v_seenMany])), (a_this_offers, .inl (G.2.1, 48, .inl v_offers))] := hD
  refine lv_aload_n hx hb dX9_offer_5 rfl (lv_at hl 0 rfl) ?_
  refine lv_iload_n hx hb dX9_offer_6 rfl (lv_at hl 1 rfl) ?_
  refine lv_iload_n hx hb dX9_offer_7 rfl (lv_at hl 2 rfl) ?_
  refine lv_iload_n hx hb dX9_offer_8 rfl (lv_at hl 3 rfl) ?_
  refine lv_iload hx hb dX9_offer_9 (lv_at hl 4 rfl) ?_
  refine lv_iload hx hb dX9_offer_11 (lv_at hl 5 rfl) ?_
  obtain ⟨r18, hu, hf⟩ := bd1_some hf
  refine zRi (va_runV (As := [.int g1, .int g2, .int g3, .int g4, .int g5]) (rest := []) hC (c_X9_isLease l G a_this a_this_text a_this_stars a_this_purses a_this_leases a_this_s a_this_kept a_this_isKept a_this_offers a_this_seen ((0 : Int32)) (v_trace) (v_typed) (v_next) (v_token) (v_place) (v_value) (v_fault) (v_squares) (v_starMany) (v_tenants) (v_draftSquares) (v_draftStars) (v_draftTenants) (v_draftLeases) (v_offerMany) (v_seenMany) (g1) (g2) (g3) (g4) (g5) r18 hu) (cwV 5 hts gX9_offer_X9_isLease rfl rfl rfl hd_X9_isLease ⟨(Nat.le_of_ble_eq_true rfl), (Nat.le_of_ble_eq_true rfl)⟩) (zPV hE hP [0] rfl 0 rfl rfl) rfl rfl hl.1 rfl (lv_room (Nat.le_of_ble_eq_true rfl)) dX9_offer_13 ⟨Nat.zero_le _, Nat.zero_le _⟩) ?_
  refine lv_if_eq (tgt := 30) hx hb dX9_offer_16 (by decide) (fun hc19 => ?_) (fun hc19 => ?_)
  · have hf := if_t hf hc19
    refine lv_iconst (v := (-1 : Int32)) hx hb dX9_offer_30 (by decide) ?_
    obtain ⟨hr0, hr1, hr2, hr3⟩ := so4 hf
    subst hr0
    subst hr1
    subst hr2
    subst hr3
    rw [← hQ]
    exact W.iret (v := (-1 : Int32)) hx hb hr (fun t ht hW => ⟨⟨rfl, by rw [ht]; exact hP⟩, hS.F ht⟩) hS.2.2 dX9_offer_31
  · have hf := if_f hf hc19
    refine lv_iload hx hb dX9_offer_19 (lv_at hl 6 rfl) ?_
    refine lv_iconst (v := (1 : Int32)) hx hb dX9_offer_21 (by decide) ?_
    refine lv_bipush (v := (99 : Int32)) hx hb dX9_offer_22 (by decide) ?_
    obtain ⟨r20, hu, hf⟩ := bd1_some hf
    refine zRi (va_runS (As := [.int g6, .int (1 : Int32), .int (99 : Int32)]) (rest := []) hC (c_X9_in l G (g6) ((1 : Int32)) ((99 : Int32)) r20 hu) (va_cwS 3 hts gX9_offer_X9_in rfl rfl rfl hd_X9_in.2 ⟨(Nat.le_of_ble_eq_true rfl), (Nat.le_of_ble_eq_true rfl)⟩) (zPS hE hP [] rfl) rfl rfl hl.1 rfl (lv_room (Nat.le_of_ble_eq_true rfl)) dX9_offer_24 ⟨Nat.zero_le _, Nat.zero_le _⟩) ?_
    refine lv_if_ne (tgt := 32) hx hb dX9_offer_27 (by decide) (fun hc21 => ?_) (fun hc21 => ?_)
    · have hf := if_f hf hc21
      refine lv_aload_n hx hb dX9_offer_32 rfl (lv_at hl 0 rfl) ?_
      refine va_get (D := G.1) (ci := 9) (v := .int v_offerMany) (C := RX9) (T := TX9) (N := 26) hx hb hts inX9 hown hK hP 0 rfl rfl 23 (by decide) lk124 (fun _ h9 => h9) rfl dX9_offer_33 ?_
      refine lv_bipush (v := (8 : Int32)) hx hb dX9_offer_36 (by decide) ?_
      refine lv_icmp_ne (tgt := 44) hx hb dX9_offer_38 (by decide) (fun hc22 => ?_) (fun hc22 => ?_)
      · have hf := if_f hf hc22
        refine lv_bipush (v := (6 : Int32)) hx hb dX9_offer_44 (by decide) ?_
        refine lv_aload_n hx hb dX9_offer_46 rfl (lv_at hl 0 rfl) ?_
        refine va_get (D := G.1) (ci := 9) (v := .int v_offerMany) (C := RX9) (T := TX9) (N := 26) hx hb hts inX9 hown hK hP 0 rfl rfl 23 (by decide) lk124 (fun _ h9 => h9) rfl dX9_offer_47 ?_
        refine lv_imul hx hb dX9_offer_50 ?_
        refine lv_istore (lv' := [(7, .int ((6 : Int32) * v_offerMany)), (0, .ref a_this), (1, .int g1), (2, .int g2), (3, .int g3), (4, .int g4), (5, .int g5), (6, .int g6)]) hx hb dX9_offer_51 hl (by decide) rfl (fun ls hl => ?_)
        refine lv_aload_n hx hb dX9_offer_53 rfl (lv_at hl 1 rfl) ?_
        refine va_get (D := G.1) (ci := 9) (v := .ref a_this_offers) (C := RX9) (T := TX9) (N := 26) hx hb hts inX9 hown hK hP 0 rfl rfl 22 (by decide) lk32 (fun _ h9 => h9) rfl dX9_offer_54 ?_
        refine lv_iload hx hb dX9_offer_57 (lv_at hl 0 rfl) ?_
        refine lv_iload_n hx hb dX9_offer_59 rfl (lv_at hl 2 rfl) ?_
        obtain ⟨hg23, hf⟩ := gd_some hf
        refine z_iast hx hb hK hP hD hS 1 0 rfl rfl (inB_in hg23) dX9_offer_60 (fun gg => [(a_this, .inr (9, [.int (0 : Int32), .long v_trace, .ref a_this_text, .int v_typed, .int v_next, .int v_token, .int v_place, .int v_value, .int v_fault, .int v_squares, .ref a_this_stars, .ref a_this_purses, .ref a_this_leases, .int v_starMany, .int v_tenants, .int v_draftSquares, .int v_draftStars, .int v_draftTenants, .int v_draftLeases, .ref a_this_s, .ref a_this_kept, .ref a_this_isKept, .ref a_this_offers, .int v_offerMany, .ref a_this_seen, .int v_seenMany])), (a_this_offers, .inl (G.2.1, 48, .inl gg))]) (fun gg => rfl) (fun y24 H locs ey24 hP hD hS => ?_)
        have hf := nm_to hf ey24
        have hP : va_P G.1 vwCl [(a_this, .inr (9, [.int (0 : Int32), .long v_trace, .ref a_this_text, .int v_typed, .int v_next, .int v_token, .int v_place, .int v_value, .int v_fault, .int v_squares, .ref a_this_stars, .ref a_this_purses, .ref a_this_leases, .int v_starMany, .int v_tenants, .int v_draftSquares, .int v_draftStars, .int v_draftTenants, .int v_draftLeases, .ref a_this_s, .ref a_this_kept, .ref a_this_isKept, .ref a_this_offers, .int v_offerMany, .ref a_this_seen, .int v_seenMany])), (a_this_offers, .inl (G.2.1, 48, .inl y24))] H := hP
        have hD : va_D A [(a_this, .inr (9, [.int (0 : Int32), .long v_trace, .ref a_this_text, .int v_typed, .int v_next, .int v_token, .int v_place, .int v_value, .int v_fault, .int v_squares, .ref a_this_stars, .ref a_this_purses, .ref a_this_leases, .int v_starMany, .int v_tenants, .int v_draftSquares, .int v_draftStars, .int v_draftTenants, .int v_draftLeases, .ref a_this_s, .ref a_this_kept, .ref a_this_isKept, .ref a_this_offers, .int v_offerMany, .ref a_this_seen, .int v_seenMany])), (a_this_offers, .inl (G.2.1, 48, .inl y24))] := hD
        refine lv_aload_n hx hb dX9_offer_61 rfl (lv_at hl 1 rfl) ?_
        refine va_get (D := G.1) (ci := 9) (v := .ref a_this_offers) (C := RX9) (T := TX9) (N := 26) hx hb hts inX9 hown hK hP 0 rfl rfl 22 (by decide) lk32 (fun _ h9 => h9) rfl dX9_offer_62 ?_
        refine lv_iload hx hb dX9_offer_65 (lv_at hl 0 rfl) ?_
        refine lv_iconst (v := (1 : Int32)) hx hb dX9_offer_67 (by decide) ?_
        refine lv_iadd hx hb dX9_offer_68 ?_
        refine lv_iload_n hx hb dX9_offer_69 rfl (lv_at hl 3 rfl) ?_
        obtain ⟨hg25, hf⟩ := gd_some hf
        refine z_iast hx hb hK hP hD hS 1 0 rfl rfl (inB_in hg25) dX9_offer_70 (fun gg => [(a_this, .inr (9, [.int (0 : Int32), .long v_trace, .ref a_this_text, .int v_typed, .int v_next, .int v_token, .int v_place, .int v_value, .int v_fault, .int v_squares, .ref a_this_stars, .ref a_this_purses, .ref a_this_leases, .int v_starMany, .int v_tenants, .int v_draftSquares, .int v_draftStars, .int v_draftTenants, .int v_draftLeases, .ref a_this_s, .ref a_this_kept, .ref a_this_isKept, .ref a_this_offers, .int v_offerMany, .ref a_this_seen, .int v_seenMany])), (a_this_offers, .inl (G.2.1, 48, .inl gg))]) (fun gg => rfl) (fun y26 H locs ey26 hP hD hS => ?_)
        have hf := nm_to hf ey26
        have hP : va_P G.1 vwCl [(a_this, .inr (9, [.int (0 : Int32), .long v_trace, .ref a_this_text, .int v_typed, .int v_next, .int v_token, .int v_place, .int v_value, .int v_fault, .int v_squares, .ref a_this_stars, .ref a_this_purses, .ref a_this_leases, .int v_starMany, .int v_tenants, .int v_draftSquares, .int v_draftStars, .int v_draftTenants, .int v_draftLeases, .ref a_this_s, .ref a_this_kept, .ref a_this_isKept, .ref a_this_offers, .int v_offerMany, .ref a_this_seen, .int v_seenMany])), (a_this_offers, .inl (G.2.1, 48, .inl y26))] H := hP
        have hD : va_D A [(a_this, .inr (9, [.int (0 : Int32), .long v_trace, .ref a_this_text, .int v_typed, .int v_next, .int v_token, .int v_place, .int v_value, .int v_fault, .int v_squares, .ref a_this_stars, .ref a_this_purses, .ref a_this_leases, .int v_starMany, .int v_tenants, .int v_draftSquares, .int v_draftStars, .int v_draftTenants, .int v_draftLeases, .ref a_this_s, .ref a_this_kept, .ref a_this_isKept, .ref a_this_offers, .int v_offerMany, .ref a_this_seen, .int v_seenMany])), (a_this_offers, .inl (G.2.1, 48, .inl y26))] := hD
        refine lv_aload_n hx hb dX9_offer_71 rfl (lv_at hl 1 rfl) ?_
        refine va_get (D := G.1) (ci := 9) (v := .ref a_this_offers) (C := RX9) (T := TX9) (N := 26) hx hb hts inX9 hown hK hP 0 rfl rfl 22 (by decide) lk32 (fun _ h9 => h9) rfl dX9_offer_72 ?_
        refine lv_iload hx hb dX9_offer_75 (lv_at hl 0 rfl) ?_
        refine lv_iconst (v := (2 : Int32)) hx hb dX9_offer_77 (by decide) ?_
        refine lv_iadd hx hb dX9_offer_78 ?_
        refine lv_iload_n hx hb dX9_offer_79 rfl (lv_at hl 4 rfl) ?_
        obtain ⟨hg27, hf⟩ := gd_some hf
        refine z_iast hx hb hK hP hD hS 1 0 rfl rfl (inB_in hg27) dX9_offer_80 (fun gg => [(a_this, .inr (9, [.int (0 : Int32), .long v_trace, .ref a_this_text, .int v_typed, .int v_next, .int v_token, .int v_place, .int v_value, .int v_fault, .int v_squares, .ref a_this_stars, .ref a_this_purses, .ref a_this_leases, .int v_starMany, .int v_tenants, .int v_draftSquares, .int v_draftStars, .int v_draftTenants, .int v_draftLeases, .ref a_this_s, .ref a_this_kept, .ref a_this_isKept, .ref a_this_offers, .int v_offerMany, .ref a_this_seen, .int v_seenMany])), (a_this_offers, .inl (G.2.1, 48, .inl gg))]) (fun gg => rfl) (fun y28 H locs ey28 hP hD hS => ?_)
        have hf := nm_to hf ey28
        have hP : va_P G.1 vwCl [(a_this, .inr (9, [.int (0 : Int32), .long v_trace, .ref a_this_text, .int v_typed, .int v_next, .int v_token, .int v_place, .int v_value, .int v_fault, .int v_squares, .ref a_this_stars, .ref a_this_purses, .ref a_this_leases, .int v_starMany, .int v_tenants, .int v_draftSquares, .int v_draftStars, .int v_draftTenants, .int v_draftLeases, .ref a_this_s, .ref a_this_kept, .ref a_this_isKept, .ref a_this_offers, .int v_offerMany, .ref a_this_seen, .int v_seenMany])), (a_this_offers, .inl (G.2.1, 48, .inl y28))] H := hP
        have hD : va_D A [(a_this, .inr (9, [.int (0 : Int32), .long v_trace, .ref a_this_text, .int v_typed, .int v_next, .int v_token, .int v_place, .int v_value, .int v_fault, .int v_squares, .ref a_this_stars, .ref a_this_purses, .ref a_this_leases, .int v_starMany, .int v_tenants, .int v_draftSquares, .int v_draftStars, .int v_draftTenants, .int v_draftLeases, .ref a_this_s, .ref a_this_kept, .ref a_this_isKept, .ref a_this_offers, .int v_offerMany, .ref a_this_seen, .int v_seenMany])), (a_this_offers, .inl (G.2.1, 48, .inl y28))] := hD
        refine lv_aload_n hx hb dX9_offer_81 rfl (lv_at hl 1 rfl) ?_
        refine va_get (D := G.1) (ci := 9) (v := .ref a_this_offers) (C := RX9) (T := TX9) (N := 26) hx hb hts inX9 hown hK hP 0 rfl rfl 22 (by decide) lk32 (fun _ h9 => h9) rfl dX9_offer_82 ?_
        refine lv_iload hx hb dX9_offer_85 (lv_at hl 0 rfl) ?_
        refine lv_iconst (v := (3 : Int32)) hx hb dX9_offer_87 (by decide) ?_
        refine lv_iadd hx hb dX9_offer_88 ?_
        refine lv_iload hx hb dX9_offer_89 (lv_at hl 5 rfl) ?_
        obtain ⟨hg29, hf⟩ := gd_some hf
        refine z_iast hx hb hK hP hD hS 1 0 rfl rfl (inB_in hg29) dX9_offer_91 (fun gg => [(a_this, .inr (9, [.int (0 : Int32), .long v_trace, .ref a_this_text, .int v_typed, .int v_next, .int v_token, .int v_place, .int v_value, .int v_fault, .int v_squares, .ref a_this_stars, .ref a_this_purses, .ref a_this_leases, .int v_starMany, .int v_tenants, .int v_draftSquares, .int v_draftStars, .int v_draftTenants, .int v_draftLeases, .ref a_this_s, .ref a_this_kept, .ref a_this_isKept, .ref a_this_offers, .int v_offerMany, .ref a_this_seen, .int v_seenMany])), (a_this_offers, .inl (G.2.1, 48, .inl gg))]) (fun gg => rfl) (fun y30 H locs ey30 hP hD hS => ?_)
        have hf := nm_to hf ey30
        have hP : va_P G.1 vwCl [(a_this, .inr (9, [.int (0 : Int32), .long v_trace, .ref a_this_text, .int v_typed, .int v_next, .int v_token, .int v_place, .int v_value, .int v_fault, .int v_squares, .ref a_this_stars, .ref a_this_purses, .ref a_this_leases, .int v_starMany, .int v_tenants, .int v_draftSquares, .int v_draftStars, .int v_draftTenants, .int v_draftLeases, .ref a_this_s, .ref a_this_kept, .ref a_this_isKept, .ref a_this_offers, .int v_offerMany, .ref a_this_seen, .int v_seenMany])), (a_this_offers, .inl (G.2.1, 48, .inl y30))] H := hP
        have hD : va_D A [(a_this, .inr (9, [.int (0 : Int32), .long v_trace, .ref a_this_text, .int v_typed, .int v_next, .int v_token, .int v_place, .int v_value, .int v_fault, .int v_squares, .ref a_this_stars, .ref a_this_purses, .ref a_this_leases, .int v_starMany, .int v_tenants, .int v_draftSquares, .int v_draftStars, .int v_draftTenants, .int v_draftLeases, .ref a_this_s, .ref a_this_kept, .ref a_this_isKept, .ref a_this_offers, .int v_offerMany, .ref a_this_seen, .int v_seenMany])), (a_this_offers, .inl (G.2.1, 48, .inl y30))] := hD
        refine lv_aload_n hx hb dX9_offer_92 rfl (lv_at hl 1 rfl) ?_
        refine va_get (D := G.1) (ci := 9) (v := .ref a_this_offers) (C := RX9) (T := TX9) (N := 26) hx hb hts inX9 hown hK hP 0 rfl rfl 22 (by decide) lk32 (fun _ h9 => h9) rfl dX9_offer_93 ?_
        refine lv_iload hx hb dX9_offer_96 (lv_at hl 0 rfl) ?_
        refine lv_iconst (v := (4 : Int32)) hx hb dX9_offer_98 (by decide) ?_
        refine lv_iadd hx hb dX9_offer_99 ?_
        refine lv_iload hx hb dX9_offer_100 (lv_at hl 6 rfl) ?_
        obtain ⟨hg31, hf⟩ := gd_some hf
        refine z_iast hx hb hK hP hD hS 1 0 rfl rfl (inB_in hg31) dX9_offer_102 (fun gg => [(a_this, .inr (9, [.int (0 : Int32), .long v_trace, .ref a_this_text, .int v_typed, .int v_next, .int v_token, .int v_place, .int v_value, .int v_fault, .int v_squares, .ref a_this_stars, .ref a_this_purses, .ref a_this_leases, .int v_starMany, .int v_tenants, .int v_draftSquares, .int v_draftStars, .int v_draftTenants, .int v_draftLeases, .ref a_this_s, .ref a_this_kept, .ref a_this_isKept, .ref a_this_offers, .int v_offerMany, .ref a_this_seen, .int v_seenMany])), (a_this_offers, .inl (G.2.1, 48, .inl gg))]) (fun gg => rfl) (fun y32 H locs ey32 hP hD hS => ?_)
        have hf := nm_to hf ey32
        have hP : va_P G.1 vwCl [(a_this, .inr (9, [.int (0 : Int32), .long v_trace, .ref a_this_text, .int v_typed, .int v_next, .int v_token, .int v_place, .int v_value, .int v_fault, .int v_squares, .ref a_this_stars, .ref a_this_purses, .ref a_this_leases, .int v_starMany, .int v_tenants, .int v_draftSquares, .int v_draftStars, .int v_draftTenants, .int v_draftLeases, .ref a_this_s, .ref a_this_kept, .ref a_this_isKept, .ref a_this_offers, .int v_offerMany, .ref a_this_seen, .int v_seenMany])), (a_this_offers, .inl (G.2.1, 48, .inl y32))] H := hP
        have hD : va_D A [(a_this, .inr (9, [.int (0 : Int32), .long v_trace, .ref a_this_text, .int v_typed, .int v_next, .int v_token, .int v_place, .int v_value, .int v_fault, .int v_squares, .ref a_this_stars, .ref a_this_purses, .ref a_this_leases, .int v_starMany, .int v_tenants, .int v_draftSquares, .int v_draftStars, .int v_draftTenants, .int v_draftLeases, .ref a_this_s, .ref a_this_kept, .ref a_this_isKept, .ref a_this_offers, .int v_offerMany, .ref a_this_seen, .int v_seenMany])), (a_this_offers, .inl (G.2.1, 48, .inl y32))] := hD
        refine lv_aload_n hx hb dX9_offer_103 rfl (lv_at hl 1 rfl) ?_
        refine va_get (D := G.1) (ci := 9) (v := .ref a_this_offers) (C := RX9) (T := TX9) (N := 26) hx hb hts inX9 hown hK hP 0 rfl rfl 22 (by decide) lk32 (fun _ h9 => h9) rfl dX9_offer_104 ?_
        refine lv_iload hx hb dX9_offer_107 (lv_at hl 0 rfl) ?_
        refine lv_iconst (v := (5 : Int32)) hx hb dX9_offer_109 (by decide) ?_
        refine lv_iadd hx hb dX9_offer_110 ?_
        refine lv_iload hx hb dX9_offer_111 (lv_at hl 7 rfl) ?_
        obtain ⟨hg33, hf⟩ := gd_some hf
        refine z_iast hx hb hK hP hD hS 1 0 rfl rfl (inB_in hg33) dX9_offer_113 (fun gg => [(a_this, .inr (9, [.int (0 : Int32), .long v_trace, .ref a_this_text, .int v_typed, .int v_next, .int v_token, .int v_place, .int v_value, .int v_fault, .int v_squares, .ref a_this_stars, .ref a_this_purses, .ref a_this_leases, .int v_starMany, .int v_tenants, .int v_draftSquares, .int v_draftStars, .int v_draftTenants, .int v_draftLeases, .ref a_this_s, .ref a_this_kept, .ref a_this_isKept, .ref a_this_offers, .int v_offerMany, .ref a_this_seen, .int v_seenMany])), (a_this_offers, .inl (G.2.1, 48, .inl gg))]) (fun gg => rfl) (fun y34 H locs ey34 hP hD hS => ?_)
        have hf := nm_to hf ey34
        have hP : va_P G.1 vwCl [(a_this, .inr (9, [.int (0 : Int32), .long v_trace, .ref a_this_text, .int v_typed, .int v_next, .int v_token, .int v_place, .int v_value, .int v_fault, .int v_squares, .ref a_this_stars, .ref a_this_purses, .ref a_this_leases, .int v_starMany, .int v_tenants, .int v_draftSquares, .int v_draftStars, .int v_draftTenants, .int v_draftLeases, .ref a_this_s, .ref a_this_kept, .ref a_this_isKept, .ref a_this_offers, .int v_offerMany, .ref a_this_seen, .int v_seenMany])), (a_this_offers, .inl (G.2.1, 48, .inl y34))] H := hP
        have hD : va_D A [(a_this, .inr (9, [.int (0 : Int32), .long v_trace, .ref a_this_text, .int v_typed, .int v_next, .int v_token, .int v_place, .int v_value, .int v_fault, .int v_squares, .ref a_this_stars, .ref a_this_purses, .ref a_this_leases, .int v_starMany, .int v_tenants, .int v_draftSquares, .int v_draftStars, .int v_draftTenants, .int v_draftLeases, .ref a_this_s, .ref a_this_kept, .ref a_this_isKept, .ref a_this_offers, .int v_offerMany, .ref a_this_seen, .int v_seenMany])), (a_this_offers, .inl (G.2.1, 48, .inl y34))] := hD
        refine lv_aload_n hx hb dX9_offer_114 rfl (lv_at hl 1 rfl) ?_
        refine lv_dup hx hb dX9_offer_115 rfl ?_
        refine va_get (D := G.1) (ci := 9) (v := .int v_offerMany) (C := RX9) (T := TX9) (N := 26) hx hb hts inX9 hown hK hP 0 rfl rfl 23 (by decide) lk124 (fun _ h9 => h9) rfl dX9_offer_116 ?_
        refine lv_iconst (v := (1 : Int32)) hx hb dX9_offer_119 (by decide) ?_
        refine lv_iadd hx hb dX9_offer_120 ?_
        refine va_put (D := G.1) (ci := 9) (v := .int (v_offerMany + (1 : Int32))) (ty := .int) (C := RX9) (T := TX9) (N := 26) hx hb hts inX9 tyX9 tyX9_ok nmX9 hown hK hP hD hS 0 rfl rfl 23 (by decide) lk124 (fun _ h9 => h9) rfl (by decide +kernel) rfl rfl (Nat.le_of_ble_eq_true rfl) dX9_offer_121 (fun H locs hP hD hS => ?_)
        have hP : va_P G.1 vwCl [(a_this, .inr (9, [.int (0 : Int32), .long v_trace, .ref a_this_text, .int v_typed, .int v_next, .int v_token, .int v_place, .int v_value, .int v_fault, .int v_squares, .ref a_this_stars, .ref a_this_purses, .ref a_this_leases, .int v_starMany, .int v_tenants, .int v_draftSquares, .int v_draftStars, .int v_draftTenants, .int v_draftLeases, .ref a_this_s, .ref a_this_kept, .ref a_this_isKept, .ref a_this_offers, .int (v_offerMany + (1 : Int32)), .ref a_this_seen, .int v_seenMany])), (a_this_offers, .inl (G.2.1, 48, .inl y34))] H := hP
        have hD : va_D A [(a_this, .inr (9, [.int (0 : Int32), .long v_trace, .ref a_this_text, .int v_typed, .int v_next, .int v_token, .int v_place, .int v_value, .int v_fault, .int v_squares, .ref a_this_stars, .ref a_this_purses, .ref a_this_leases, .int v_starMany, .int v_tenants, .int v_draftSquares, .int v_draftStars, .int v_draftTenants, .int v_draftLeases, .ref a_this_s, .ref a_this_kept, .ref a_this_isKept, .ref a_this_offers, .int (v_offerMany + (1 : Int32)), .ref a_this_seen, .int v_seenMany])), (a_this_offers, .inl (G.2.1, 48, .inl y34))] := hD
        refine lv_aload_n hx hb dX9_offer_124 rfl (lv_at hl 1 rfl) ?_
        refine va_get (D := G.1) (ci := 9) (v := .int (v_offerMany + (1 : Int32))) (C := RX9) (T := TX9) (N := 26) hx hb hts inX9 hown hK hP 0 rfl rfl 23 (by decide) lk124 (fun _ h9 => h9) rfl dX9_offer_125 ?_
        refine lv_iconst (v := (1 : Int32)) hx hb dX9_offer_128 (by decide) ?_
        refine lv_isub hx hb dX9_offer_129 ?_
        obtain ⟨hr0, hr1, hr2, hr3⟩ := so4 hf
        subst hr0
        subst hr1
        subst hr2
        subst hr3
        rw [← hQ]
        exact W.iret (v := ((v_offerMany + (1 : Int32)) - (1 : Int32))) hx hb hr (fun t ht hW => ⟨⟨rfl, by rw [ht]; exact hP⟩, hS.F ht⟩) hS.2.2 dX9_offer_130
      · have hf := if_t hf hc22
        refine lv_bipush (v := (-3 : Int32)) hx hb dX9_offer_41 (by decide) ?_
        obtain ⟨hr0, hr1, hr2, hr3⟩ := so4 hf
        subst hr0
        subst hr1
        subst hr2
        subst hr3
        rw [← hQ]
        exact W.iret (v := (-3 : Int32)) hx hb hr (fun t ht hW => ⟨⟨rfl, by rw [ht]; exact hP⟩, hS.F ht⟩) hS.2.2 dX9_offer_43
    · have hf := if_t hf hc21
      refine lv_iconst (v := (-1 : Int32)) hx hb dX9_offer_30 (by decide) ?_
      obtain ⟨hr0, hr1, hr2, hr3⟩ := so4 hf
      subst hr0
      subst hr1
      subst hr2
      subst hr3
      rw [← hQ]
      exact W.iret (v := (-1 : Int32)) hx hb hr (fun t ht hW => ⟨⟨rfl, by rw [ht]; exact hP⟩, hS.F ht⟩) hS.2.2 dX9_offer_31
def f_X9_refuse  (v_thrown : Int32) (v_offerMany : Int32)  : Option (Int32 × Int32 × Int32) := some (v_offerMany, (0 : Int32), (0 : Int32))
abbrev rm_X9_refuse : Room := { frames := 0, cells := 0, slots := 0, locals := 0 }
set_option maxHeartbeats 4000000 in
set_option maxRecDepth 100000 in
theorem c_X9_refuse (l : Launch) (G : zG) (sz : Nat) (a_this : Nat) (a_this_text : Nat) (a_this_stars : Nat) (a_this_purses : Nat) (a_this_leases : Nat) (a_this_s : Nat) (a_this_kept : Nat) (a_this_isKept : Nat) (a_this_offers : Nat) (a_this_seen : Nat) (v_thrown : Int32) (v_trace : Int64) (v_typed : Int32) (v_next : Int32) (v_token : Int32) (v_place : Int32) (v_value : Int32) (v_fault : Int32) (v_squares : Int32) (v_starMany : Int32) (v_tenants : Int32) (v_draftSquares : Int32) (v_draftStars : Int32) (v_draftTenants : Int32) (v_draftLeases : Int32) (v_offerMany : Int32) (v_seenMany : Int32) (R0 : Int32) (R1 : Int32) (R2 : Int32) (hf : f_X9_refuse v_thrown v_offerMany = some (R0, R1, R2)) : Met l yX9_refuse wsX9_refuse rm_X9_refuse (va_Pc [.ref a_this] (zB G [(a_this, .inr (9, [.int v_thrown, .long v_trace, .ref a_this_text, .int v_typed, .int v_next, .int v_token, .int v_place, .int v_value, .int v_fault, .int v_squares, .ref a_this_stars, .ref a_this_purses, .ref a_this_leases, .int v_starMany, .int v_tenants, .int v_draftSquares, .int v_draftStars, .int v_draftTenants, .int v_draftLeases, .ref a_this_s, .ref a_this_kept, .ref a_this_isKept, .ref a_this_offers, .int v_offerMany, .ref a_this_seen, .int v_seenMany]))] sz)) (zQ G (some (.int R0)) [(a_this, .inr (9, [.int R1, .long v_trace, .ref a_this_text, .int v_typed, .int v_next, .int v_token, .int v_place, .int v_value, .int v_fault, .int v_squares, .ref a_this_stars, .ref a_this_purses, .ref a_this_leases, .int v_starMany, .int v_tenants, .int v_draftSquares, .int v_draftStars, .int v_draftTenants, .int v_draftLeases, .ref a_this_s, .ref a_this_kept, .ref a_this_isKept, .ref a_this_offers, .int R2, .ref a_this_seen, .int v_seenMany]))] (va_A [(a_this, .inr (9, [.int v_thrown, .long v_trace, .ref a_this_text, .int v_typed, .int v_next, .int v_token, .int v_place, .int v_value, .int v_fault, .int v_squares, .ref a_this_stars, .ref a_this_purses, .ref a_this_leases, .int v_starMany, .int v_tenants, .int v_draftSquares, .int v_draftStars, .int v_draftTenants, .int v_draftLeases, .ref a_this_s, .ref a_this_kept, .ref a_this_isKept, .ref a_this_offers, .int v_offerMany, .ref a_this_seen, .int v_seenMany]))] sz)) 0 0 (va_A [(a_this, .inr (9, [.int v_thrown, .long v_trace, .ref a_this_text, .int v_typed, .int v_next, .int v_token, .int v_place, .int v_value, .int v_fault, .int v_squares, .ref a_this_stars, .ref a_this_purses, .ref a_this_leases, .int v_starMany, .int v_tenants, .int v_draftSquares, .int v_draftStars, .int v_draftTenants, .int v_draftLeases, .ref a_this_s, .ref a_this_kept, .ref a_this_isKept, .ref a_this_offers, .int v_offerMany, .ref a_this_seen, .int v_seenMany]))] sz) := by
  refine Met.ofW (cc := cX9_refuse) (maxL := 2) (ret := (some .int)) (by decide) rfl ?_
  intro p e s m args below meth c s₁ B hml hv
  obtain ⟨hargs, hsz, hP, hD0, hE⟩ := hv
  have hx := B.exec
  have hb := B.bytes
  have hr := B.returns
  have hts := atoms_spec (ws := wsX9_refuse) B.pre
  have hown : s.vm.findClass RX9 = some m.cls := findClass_of_methodNamed B.named
  have hlocks := B.notSynchronized
  have hK := hE.1
  have hC : CallFix p m c cX9_refuse 2 s args wsX9_refuse RX9 := ⟨hx, hb, hml, hown, hts⟩
  have inX9 : ∀ w ∈ wsX90, w ∈ wsX9_refuse := by decide +kernel
  have lk42 := hts (.fieldLink RX9 42 "SkyLeasesModel" "thrown" "I") (by decide +kernel)
  have lk124 := hts (.fieldLink RX9 124 "SkyLeasesModel" "offerMany" "I") (by decide +kernel)
  subst hsz
  have hD := hD0.self (sz := s.heap.size)
  generalize hAe : va_A [(a_this, .inr (9, [.int v_thrown, .long v_trace, .ref a_this_text, .int v_typed, .int v_next, .int v_token, .int v_place, .int v_value, .int v_fault, .int v_squares, .ref a_this_stars, .ref a_this_purses, .ref a_this_leases, .int v_starMany, .int v_tenants, .int v_draftSquares, .int v_draftStars, .int v_draftTenants, .int v_draftLeases, .ref a_this_s, .ref a_this_kept, .ref a_this_isKept, .ref a_this_offers, .int v_offerMany, .ref a_this_seen, .int v_seenMany]))] s.heap.size = A at hD ⊢
  have hA : ∀ q : Nat, s.heap.size ≤ q → A q := fun q h => by rw [← hAe]; exact Or.inr h
  have hS : va_S A s.heap s.heap [] := va_S.rf
  have hP : va_P G.1 vwCl [(a_this, .inr (9, [.int v_thrown, .long v_trace, .ref a_this_text, .int v_typed, .int v_next, .int v_token, .int v_place, .int v_value, .int v_fault, .int v_squares, .ref a_this_stars, .ref a_this_purses, .ref a_this_leases, .int v_starMany, .int v_tenants, .int v_draftSquares, .int v_draftStars, .int v_draftTenants, .int v_draftLeases, .ref a_this_s, .ref a_this_kept, .ref a_this_isKept, .ref a_this_offers, .int v_offerMany, .ref a_this_seen, .int v_seenMany]))] s.heap := hP
  have hl := lv_entry ([.ref a_this]) (n := 2) (Nat.le_of_ble_eq_true rfl)
  have hent : entryFrame m args 2 = F0 m 0 ((lg_sl ([.ref a_this]) ++ List.replicate (2 - (lg_sl ([.ref a_this])).length) Slot.unset).toArray) [] := by rw [hargs]; exact lg_entry_eq m [.ref a_this] 2
  refine W.eq hent ?_
  clear hent
  generalize (lg_sl ([.ref a_this]) ++ List.replicate (2 - (lg_sl ([.ref a_this])).length) Slot.unset).toArray = ls at hl ⊢
  have hl : lv_has ls 2 [(0, .ref a_this)] := hl
  generalize hQ : MQ below _ args s 0 0 _ = QQ
  change W p l e rm_X9_refuse s m args below meth c s.heap [] 0 0 QQ _
  have hSH := hS
  unfold f_X9_refuse at hf
  refine lv_aload_n hx hb dX9_refuse_0 rfl (lv_at hl 0 rfl) ?_
  refine lv_iconst (v := (0 : Int32)) hx hb dX9_refuse_1 (by decide) ?_
  refine va_put (D := G.1) (ci := 9) (v := .int (0 : Int32)) (ty := .int) (C := RX9) (T := TX9) (N := 26) hx hb hts inX9 tyX9 tyX9_ok nmX9 hown hK hP hD hS 0 rfl rfl 0 (by decide) lk42 (fun _ h9 => h9) rfl (by decide +kernel) rfl rfl (Nat.le_of_ble_eq_true rfl) dX9_refuse_2 (fun H locs hP hD hS => ?_)
  have hP : va_P G.1 vwCl [(a_this, .inr (9, [.int (0 : Int32), .long v_trace, .ref a_this_text, .int v_typed, .int v_next, .int v_token, .int v_place, .int v_value, .int v_fault, .int v_squares, .ref a_this_stars, .ref a_this_purses, .ref a_this_leases, .int v_starMany, .int v_tenants, .int v_draftSquares, .int v_draftStars, .int v_draftTenants, .int v_draftLeases, .ref a_this_s, .ref a_this_kept, .ref a_this_isKept, .ref a_this_offers, .int v_offerMany, .ref a_this_seen, .int v_seenMany]))] H := hP
  have hD : va_D A [(a_this, .inr (9, [.int (0 : Int32), .long v_trace, .ref a_this_text, .int v_typed, .int v_next, .int v_token, .int v_place, .int v_value, .int v_fault, .int v_squares, .ref a_this_stars, .ref a_this_purses, .ref a_this_leases, .int v_starMany, .int v_tenants, .int v_draftSquares, .int v_draftStars, .int v_draftTenants, .int v_draftLeases, .ref a_this_s, .ref a_this_kept, .ref a_this_isKept, .ref a_this_offers, .int v_offerMany, .ref a_this_seen, .int v_seenMany]))] := hD
  refine lv_aload_n hx hb dX9_refuse_5 rfl (lv_at hl 0 rfl) ?_
  refine va_get (D := G.1) (ci := 9) (v := .int v_offerMany) (C := RX9) (T := TX9) (N := 26) hx hb hts inX9 hown hK hP 0 rfl rfl 23 (by decide) lk124 (fun _ h9 => h9) rfl dX9_refuse_6 ?_
  refine lv_istore_n (lv' := [(1, .int v_offerMany), (0, .ref a_this)]) hx hb dX9_refuse_9 rfl hl (by decide) rfl (fun ls hl => ?_)
  refine lv_aload_n hx hb dX9_refuse_10 rfl (lv_at hl 1 rfl) ?_
  refine lv_iconst (v := (0 : Int32)) hx hb dX9_refuse_11 (by decide) ?_
  refine va_put (D := G.1) (ci := 9) (v := .int (0 : Int32)) (ty := .int) (C := RX9) (T := TX9) (N := 26) hx hb hts inX9 tyX9 tyX9_ok nmX9 hown hK hP hD hS 0 rfl rfl 23 (by decide) lk124 (fun _ h9 => h9) rfl (by decide +kernel) rfl rfl (Nat.le_of_ble_eq_true rfl) dX9_refuse_12 (fun H locs hP hD hS => ?_)
  have hP : va_P G.1 vwCl [(a_this, .inr (9, [.int (0 : Int32), .long v_trace, .ref a_this_text, .int v_typed, .int v_next, .int v_token, .int v_place, .int v_value, .int v_fault, .int v_squares, .ref a_this_stars, .ref a_this_purses, .ref a_this_leases, .int v_starMany, .int v_tenants, .int v_draftSquares, .int v_draftStars, .int v_draftTenants, .int v_draftLeases, .ref a_this_s, .ref a_this_kept, .ref a_this_isKept, .ref a_this_offers, .int (0 : Int32), .ref a_this_seen, .int v_seenMany]))] H := hP
  have hD : va_D A [(a_this, .inr (9, [.int (0 : Int32), .long v_trace, .ref a_this_text, .int v_typed, .int v_next, .int v_token, .int v_place, .int v_value, .int v_fault, .int v_squares, .ref a_this_stars, .ref a_this_purses, .ref a_this_leases, .int v_starMany, .int v_tenants, .int v_draftSquares, .int v_draftStars, .int v_draftTenants, .int v_draftLeases, .ref a_this_s, .ref a_this_kept, .ref a_this_isKept, .ref a_this_offers, .int (0 : Int32), .ref a_this_seen, .int v_seenMany]))] := hD
  refine lv_iload_n hx hb dX9_refuse_15 rfl (lv_at hl 0 rfl) ?_
  obtain ⟨hr0, hr1, hr2⟩ := so3 hf
  subst hr0
  subst hr1
  subst hr2
  rw [← hQ]
  exact W.iret (v := v_offerMany) hx hb hr (fun t ht hW => ⟨⟨rfl, by rw [ht]; exact hP⟩, hS.F ht⟩) hS.2.2 dX9_refuse_16
def f_X9_offered  (v_squares : Int32) (v_offers : (Nat → Int32)) (g1 : Int32) (g2 : Int32) : Option (Int32) := gd (inB (((6 : Int32) * g1) + (1 : Int32)) 48) (gd (inB (((6 : Int32) * g1) + (2 : Int32)) 48) (bd1 (f_X9_hasSquare (v_squares) ((v_offers ((((6 : Int32) * g1) + (1 : Int32))).toNatClampNeg)) ((v_offers ((((6 : Int32) * g1) + (2 : Int32))).toNatClampNeg)) (g2)) fun r7 => gd (bzB r7) (some (r7))))
abbrev rm_X9_offered : Room := { frames := 1, cells := 0, slots := 0, locals := 23 }
set_option maxHeartbeats 4000000 in
set_option maxRecDepth 100000 in
theorem c_X9_offered (l : Launch) (G : zG) (a_this : Nat) (a_this_offers : Nat) (a_this_text : Nat) (a_this_stars : Nat) (a_this_purses : Nat) (a_this_leases : Nat) (a_this_s : Nat) (a_this_kept : Nat) (a_this_isKept : Nat) (a_this_seen : Nat) (v_thrown : Int32) (v_trace : Int64) (v_typed : Int32) (v_next : Int32) (v_token : Int32) (v_place : Int32) (v_value : Int32) (v_fault : Int32) (v_squares : Int32) (v_starMany : Int32) (v_tenants : Int32) (v_draftSquares : Int32) (v_draftStars : Int32) (v_draftTenants : Int32) (v_draftLeases : Int32) (v_offerMany : Int32) (v_seenMany : Int32) (v_offers : (Nat → Int32)) (g1 : Int32) (g2 : Int32) (R0 : Int32) (hf : f_X9_offered v_squares v_offers g1 g2 = some R0) : Met l yX9_offered wsX9_offered rm_X9_offered (va_Pc [.ref a_this, .int g1, .int g2] (zR G [(a_this, .inr (9, [.int v_thrown, .long v_trace, .ref a_this_text, .int v_typed, .int v_next, .int v_token, .int v_place, .int v_value, .int v_fault, .int v_squares, .ref a_this_stars, .ref a_this_purses, .ref a_this_leases, .int v_starMany, .int v_tenants, .int v_draftSquares, .int v_draftStars, .int v_draftTenants, .int v_draftLeases, .ref a_this_s, .ref a_this_kept, .ref a_this_isKept, .ref a_this_offers, .int v_offerMany, .ref a_this_seen, .int v_seenMany])), (a_this_offers, .inl (G.2.1, 48, .inl v_offers))])) (zSv (some (.int R0))) 0 0 (fun _ => False) := by
  refine Met.ofW (cc := cX9_offered) (maxL := 3) (ret := (some .boolean)) (by decide) rfl ?_
  intro p e s m args below meth c s₁ B hml hv
  obtain ⟨hargs, hP, hE⟩ := hv
  have hx := B.exec
  have hb := B.bytes
  have hr := B.returns
  have hts := atoms_spec (ws := wsX9_offered) B.pre
  have hown : s.vm.findClass RX9 = some m.cls := findClass_of_methodNamed B.named
  have hlocks := B.notSynchronized
  have hK := hE.1
  have hC : CallFix p m c cX9_offered 3 s args wsX9_offered RX9 := ⟨hx, hb, hml, hown, hts⟩
  have inX9 : ∀ w ∈ wsX90, w ∈ wsX9_offered := by decide +kernel
  have lk32 := hts (.fieldLink RX9 32 "SkyLeasesModel" "offers" "[I") (by decide +kernel)
  have hl := lv_entry ([.ref a_this, .int g1, .int g2]) (n := 3) (Nat.le_of_ble_eq_true rfl)
  have hent : entryFrame m args 3 = F0 m 0 ((lg_sl ([.ref a_this, .int g1, .int g2]) ++ List.replicate (3 - (lg_sl ([.ref a_this, .int g1, .int g2])).length) Slot.unset).toArray) [] := by rw [hargs]; exact lg_entry_eq m [.ref a_this, .int g1, .int g2] 3
  refine W.eq hent ?_
  clear hent
  generalize (lg_sl ([.ref a_this, .int g1, .int g2]) ++ List.replicate (3 - (lg_sl ([.ref a_this, .int g1, .int g2])).length) Slot.unset).toArray = ls at hl ⊢
  have hl : lv_has ls 3 [(0, .ref a_this), (1, .int g1), (2, .int g2)] := hl
  generalize hQ : MQ below _ args s 0 0 _ = QQ
  change W p l e rm_X9_offered s m args below meth c s.heap [] 0 0 QQ _
  unfold f_X9_offered at hf
  refine lv_aload_n hx hb dX9_offered_0 rfl (lv_at hl 0 rfl) ?_
  refine lv_aload_n hx hb dX9_offered_1 rfl (lv_at hl 0 rfl) ?_
  refine va_get (D := G.1) (ci := 9) (v := .ref a_this_offers) (C := RX9) (T := TX9) (N := 26) hx hb hts inX9 hown hK hP 0 rfl rfl 22 (by decide) lk32 (fun _ h9 => h9) rfl dX9_offered_2 ?_
  refine lv_bipush (v := (6 : Int32)) hx hb dX9_offered_5 (by decide) ?_
  refine lv_iload_n hx hb dX9_offered_7 rfl (lv_at hl 1 rfl) ?_
  refine lv_imul hx hb dX9_offered_8 ?_
  refine lv_iconst (v := (1 : Int32)) hx hb dX9_offered_9 (by decide) ?_
  refine lv_iadd hx hb dX9_offered_10 ?_
  obtain ⟨hg5, hf⟩ := gd_some hf
  refine va_iald hx hb hK hP 1 0 rfl rfl (inB_in hg5) dX9_offered_11 ?_
  refine lv_aload_n hx hb dX9_offered_12 rfl (lv_at hl 0 rfl) ?_
  refine va_get (D := G.1) (ci := 9) (v := .ref a_this_offers) (C := RX9) (T := TX9) (N := 26) hx hb hts inX9 hown hK hP 0 rfl rfl 22 (by decide) lk32 (fun _ h9 => h9) rfl dX9_offered_13 ?_
  refine lv_bipush (v := (6 : Int32)) hx hb dX9_offered_16 (by decide) ?_
  refine lv_iload_n hx hb dX9_offered_18 rfl (lv_at hl 1 rfl) ?_
  refine lv_imul hx hb dX9_offered_19 ?_
  refine lv_iconst (v := (2 : Int32)) hx hb dX9_offered_20 (by decide) ?_
  refine lv_iadd hx hb dX9_offered_21 ?_
  obtain ⟨hg6, hf⟩ := gd_some hf
  refine va_iald hx hb hK hP 1 0 rfl rfl (inB_in hg6) dX9_offered_22 ?_
  refine lv_iload_n hx hb dX9_offered_23 rfl (lv_at hl 2 rfl) ?_
  obtain ⟨r7, hu, hf⟩ := bd1_some hf
  refine zRi (va_runV (As := [.int (v_offers ((((6 : Int32) * g1) + (1 : Int32))).toNatClampNeg), .int (v_offers ((((6 : Int32) * g1) + (2 : Int32))).toNatClampNeg), .int g2]) (rest := []) hC (c_X9_hasSquare l G a_this a_this_text a_this_stars a_this_purses a_this_leases a_this_s a_this_kept a_this_isKept a_this_offers a_this_seen (v_thrown) (v_trace) (v_typed) (v_next) (v_token) (v_place) (v_value) (v_fault) (v_squares) (v_starMany) (v_tenants) (v_draftSquares) (v_draftStars) (v_draftTenants) (v_draftLeases) (v_offerMany) (v_seenMany) ((v_offers ((((6 : Int32) * g1) + (1 : Int32))).toNatClampNeg)) ((v_offers ((((6 : Int32) * g1) + (2 : Int32))).toNatClampNeg)) (g2) r7 hu) (cwV 3 hts gX9_offered_X9_hasSquare rfl rfl rfl hd_X9_hasSquare ⟨(Nat.le_of_ble_eq_true rfl), (Nat.le_of_ble_eq_true rfl)⟩) (zPV hE hP [0] rfl 0 rfl rfl) rfl rfl hl.1 rfl (lv_room (Nat.le_of_ble_eq_true rfl)) dX9_offered_24 ⟨Nat.zero_le _, Nat.zero_le _⟩) ?_
  obtain ⟨hg8, hf⟩ := gd_some hf
  have hr0 := so1 hf
  subst hr0
  rw [← hQ]
  exact W.zret (v := r7) hx hb hr (bzB_nar hg8) (fun t ht hW => ⟨rfl, ht⟩) (fun _ h => by cases h) dX9_offered_27
theorem hd_X9_offered : yX9_offered.cls = RX9 ∧ yX9_offered.cls ≠ "java/lang/invoke/MethodHandle" ∧ yX9_offered.cls ≠ "java/lang/invoke/VarHandle" ∧ (parseMethodDescriptor yX9_offered.desc).map (fun d => d.parameters.length) = some 2 := by decide +kernel
def f_X9_clash_b105  (k62 : Int32 → Int32 → Option (Int32))  (x5 : Int32) (t0 : Int32) : Option (Int32) := k62 (t0) ((x5 + (1 : Int32)))
def f_X9_clash_b100  (k62 : Int32 → Int32 → Option (Int32))  (x5 : Int32) : Option (Int32) := f_X9_clash_b105 k62 (x5) ((1 : Int32))
def f_X9_clash_b104  (k62 : Int32 → Int32 → Option (Int32))  (x5 : Int32) : Option (Int32) := f_X9_clash_b105 k62 (x5) ((0 : Int32))
def f_X9_clash_b62 (v_squares : Int32) (v_offers : (Nat → Int32))  (x1 : Int32) (x2 : Int32) (x3 : Int32) : Nat → Int32 → Int32 → Option (Int32)
  | 0, _, _ => none
  | n62 + 1, x4, x5 => if v_squares ≤ x5 then (gd (bzB x4) (some (x4))) else (if x4 = (0 : Int32) then (if x3 = (0 : Int32) then (f_X9_clash_b104 (f_X9_clash_b62 v_squares v_offers x1 x2 x3 n62) (x5)) else (bd1 (f_X9_offered (v_squares) (v_offers) (x1) (x5)) fun r19 => if r19 = (0 : Int32) then (f_X9_clash_b104 (f_X9_clash_b62 v_squares v_offers x1 x2 x3 n62) (x5)) else (bd1 (f_X9_offered (v_squares) (v_offers) (x2) (x5)) fun r21 => if r21 = (0 : Int32) then (f_X9_clash_b104 (f_X9_clash_b62 v_squares v_offers x1 x2 x3 n62) (x5)) else (f_X9_clash_b100 (f_X9_clash_b62 v_squares v_offers x1 x2 x3 n62) (x5))))) else (f_X9_clash_b100 (f_X9_clash_b62 v_squares v_offers x1 x2 x3 n62) (x5)))
def f_X9_clash_b55 (v_squares : Int32) (v_offers : (Nat → Int32))   (x1 : Int32) (x2 : Int32) (t0 : Int32) : Option (Int32) := f_X9_clash_b62 v_squares v_offers (x1) (x2) (t0) zF ((0 : Int32)) ((0 : Int32))
def f_X9_clash_b54 (v_squares : Int32) (v_offers : (Nat → Int32))   (x1 : Int32) (x2 : Int32) : Option (Int32) := f_X9_clash_b55 v_squares v_offers (x1) (x2) ((0 : Int32))
def f_X9_clash  (v_squares : Int32) (v_offers : (Nat → Int32)) (g1 : Int32) (g2 : Int32) : Option (Int32) := gd (inB (((6 : Int32) * g1) + (3 : Int32)) 48) (gd (inB (((6 : Int32) * g2) + (4 : Int32)) 48) (if (v_offers ((((6 : Int32) * g2) + (4 : Int32))).toNatClampNeg) < (v_offers ((((6 : Int32) * g1) + (3 : Int32))).toNatClampNeg) then (f_X9_clash_b54 v_squares v_offers (g1) (g2)) else (gd (inB (((6 : Int32) * g2) + (3 : Int32)) 48) (gd (inB (((6 : Int32) * g1) + (4 : Int32)) 48) (if (v_offers ((((6 : Int32) * g1) + (4 : Int32))).toNatClampNeg) < (v_offers ((((6 : Int32) * g2) + (3 : Int32))).toNatClampNeg) then (f_X9_clash_b54 v_squares v_offers (g1) (g2)) else (f_X9_clash_b55 v_squares v_offers (g1) (g2) ((1 : Int32))))))))
abbrev rm_X9_clash : Room := { frames := 2, cells := 0, slots := 0, locals := 45 }
set_option maxHeartbeats 4000000 in
set_option maxRecDepth 100000 in
theorem c_X9_clash (l : Launch) (G : zG) (a_this : Nat) (a_this_offers : Nat) (a_this_text : Nat) (a_this_stars : Nat) (a_this_purses : Nat) (a_this_leases : Nat) (a_this_s : Nat) (a_this_kept : Nat) (a_this_isKept : Nat) (a_this_seen : Nat) (v_thrown : Int32) (v_trace : Int64) (v_typed : Int32) (v_next : Int32) (v_token : Int32) (v_place : Int32) (v_value : Int32) (v_fault : Int32) (v_squares : Int32) (v_starMany : Int32) (v_tenants : Int32) (v_draftSquares : Int32) (v_draftStars : Int32) (v_draftTenants : Int32) (v_draftLeases : Int32) (v_offerMany : Int32) (v_seenMany : Int32) (v_offers : (Nat → Int32)) (g1 : Int32) (g2 : Int32) (R0 : Int32) (hf : f_X9_clash v_squares v_offers g1 g2 = some R0) : Met l yX9_clash wsX9_clash rm_X9_clash (va_Pc [.ref a_this, .int g1, .int g2] (zR G [(a_this, .inr (9, [.int v_thrown, .long v_trace, .ref a_this_text, .int v_typed, .int v_next, .int v_token, .int v_place, .int v_value, .int v_fault, .int v_squares, .ref a_this_stars, .ref a_this_purses, .ref a_this_leases, .int v_starMany, .int v_tenants, .int v_draftSquares, .int v_draftStars, .int v_draftTenants, .int v_draftLeases, .ref a_this_s, .ref a_this_kept, .ref a_this_isKept, .ref a_this_offers, .int v_offerMany, .ref a_this_seen, .int v_seenMany])), (a_this_offers, .inl (G.2.1, 48, .inl v_offers))])) (zSv (some (.int R0))) 0 0 (fun _ => False) := by
  refine Met.ofW (cc := cX9_clash) (maxL := 6) (ret := (some .boolean)) (by decide) rfl ?_
  intro p e s m args below meth c s₁ B hml hv
  obtain ⟨hargs, hP, hE⟩ := hv
  have hx := B.exec
  have hb := B.bytes
  have hr := B.returns
  have hts := atoms_spec (ws := wsX9_clash) B.pre
  have hown : s.vm.findClass RX9 = some m.cls := findClass_of_methodNamed B.named
  have hlocks := B.notSynchronized
  have hK := hE.1
  have hC : CallFix p m c cX9_clash 6 s args wsX9_clash RX9 := ⟨hx, hb, hml, hown, hts⟩
  have inX9 : ∀ w ∈ wsX90, w ∈ wsX9_clash := by decide +kernel
  have lk32 := hts (.fieldLink RX9 32 "SkyLeasesModel" "offers" "[I") (by decide +kernel)
  have lk38 := hts (.fieldLink RX9 38 "SkyLeasesModel" "squares" "I") (by decide +kernel)
  have hl := lv_entry ([.ref a_this, .int g1, .int g2]) (n := 6) (Nat.le_of_ble_eq_true rfl)
  have hent : entryFrame m args 6 = F0 m 0 ((lg_sl ([.ref a_this, .int g1, .int g2]) ++ List.replicate (6 - (lg_sl ([.ref a_this, .int g1, .int g2])).length) Slot.unset).toArray) [] := by rw [hargs]; exact lg_entry_eq m [.ref a_this, .int g1, .int g2] 6
  refine W.eq hent ?_
  clear hent
  generalize (lg_sl ([.ref a_this, .int g1, .int g2]) ++ List.replicate (6 - (lg_sl ([.ref a_this, .int g1, .int g2])).length) Slot.unset).toArray = ls at hl ⊢
  have hl : lv_has ls 6 [(0, .ref a_this), (1, .int g1), (2, .int g2)] := hl
  generalize hQ : MQ below _ args s 0 0 _ = QQ
  change W p l e rm_X9_clash s m args below meth c s.heap [] 0 0 QQ _
  have j105 : ∀ (x1 : Int32), ∀ (x2 : Int32), ∀ (x3 : Int32), ∀ (k62 : Int32 → Int32 → Option (Int32)), (∀ (x4 : Int32), ∀ (x5 : Int32), ∀ (ls : Array Slot), lv_has ls 6 [(0, .ref a_this), (1, .int x1), (2, .int x2), (3, .int x3), (4, .int x4), (5, .int x5)] → k62 x4 x5 = some R0 → W p l e rm_X9_clash s m args below meth c s.heap [] 0 0 QQ (F0 m 62 ls [])) → ∀ (x5 : Int32), ∀ (t0 : Int32), ∀ (ls : Array Slot), lv_has ls 6 [(0, .ref a_this), (1, .int x1), (2, .int x2), (3, .int x3), (5, .int x5)] → f_X9_clash_b105 k62 x5 t0 = some R0 → W p l e rm_X9_clash s m args below meth c s.heap [] 0 0 QQ (F0 m 105 ls [.int t0]) := by
    intro x1 x2 x3 k62 hk62 x5 t0 ls hl hf
    unfold f_X9_clash_b105 at hf
    refine lv_istore (lv' := [(4, .int t0), (0, .ref a_this), (1, .int x1), (2, .int x2), (3, .int x3), (5, .int x5)]) hx hb dX9_clash_105 hl (by decide) rfl (fun ls hl => ?_)
    refine lv_iinc (v := (x5 + (1 : Int32))) (lv' := [(5, .int (x5 + (1 : Int32))), (4, .int t0), (0, .ref a_this), (1, .int x1), (2, .int x2), (3, .int x3)]) hx hb dX9_clash_107 hl (k := 5) rfl rfl (by decide) rfl (fun ls hl => ?_)
    refine lv_goto (tgt := 62) hx hb dX9_clash_110 (by decide) ?_
    exact hk62 (t0) ((x5 + (1 : Int32))) ls (lv_sub hl [2, 3, 4, 5, 1, 0] rfl) hf
  have j100 : ∀ (x1 : Int32), ∀ (x2 : Int32), ∀ (x3 : Int32), ∀ (k62 : Int32 → Int32 → Option (Int32)), (∀ (x4 : Int32), ∀ (x5 : Int32), ∀ (ls : Array Slot), lv_has ls 6 [(0, .ref a_this), (1, .int x1), (2, .int x2), (3, .int x3), (4, .int x4), (5, .int x5)] → k62 x4 x5 = some R0 → W p l e rm_X9_clash s m args below meth c s.heap [] 0 0 QQ (F0 m 62 ls [])) → ∀ (x5 : Int32), ∀ (ls : Array Slot), lv_has ls 6 [(0, .ref a_this), (1, .int x1), (2, .int x2), (3, .int x3), (5, .int x5)] → f_X9_clash_b100 k62 x5 = some R0 → W p l e rm_X9_clash s m args below meth c s.heap [] 0 0 QQ (F0 m 100 ls []) := by
    intro x1 x2 x3 k62 hk62 x5 ls hl hf
    unfold f_X9_clash_b100 at hf
    refine lv_iconst (v := (1 : Int32)) hx hb dX9_clash_100 (by decide) ?_
    refine lv_goto (tgt := 105) hx hb dX9_clash_101 (by decide) ?_
    exact j105 (x1) (x2) (x3) k62 hk62 (x5) ((1 : Int32)) ls (lv_sub hl [0, 1, 2, 3, 4] rfl) hf
  have j104 : ∀ (x1 : Int32), ∀ (x2 : Int32), ∀ (x3 : Int32), ∀ (k62 : Int32 → Int32 → Option (Int32)), (∀ (x4 : Int32), ∀ (x5 : Int32), ∀ (ls : Array Slot), lv_has ls 6 [(0, .ref a_this), (1, .int x1), (2, .int x2), (3, .int x3), (4, .int x4), (5, .int x5)] → k62 x4 x5 = some R0 → W p l e rm_X9_clash s m args below meth c s.heap [] 0 0 QQ (F0 m 62 ls [])) → ∀ (x5 : Int32), ∀ (ls : Array Slot), lv_has ls 6 [(0, .ref a_this), (1, .int x1), (2, .int x2), (3, .int x3), (5, .int x5)] → f_X9_clash_b104 k62 x5 = some R0 → W p l e rm_X9_clash s m args below meth c s.heap [] 0 0 QQ (F0 m 104 ls []) := by
    intro x1 x2 x3 k62 hk62 x5 ls hl hf
    unfold f_X9_clash_b104 at hf
    refine lv_iconst (v := (0 : Int32)) hx hb dX9_clash_104 (by decide) ?_
    exact j105 (x1) (x2) (x3) k62 hk62 (x5) ((0 : Int32)) ls (lv_sub hl [0, 1, 2, 3, 4] rfl) hf
  have j62 : ∀ (x1 : Int32), ∀ (x2 : Int32), ∀ (x3 : Int32), ∀ (nn : Nat), ∀ (x4 : Int32), ∀ (x5 : Int32), ∀ (ls : Array Slot), lv_has ls 6 [(0, .ref a_this), (1, .int x1), (2, .int x2), (3, .int x3), (4, .int x4), (5, .int x5)] → f_X9_clash_b62 v_squares v_offers x1 x2 x3 nn x4 x5 = some R0 → W p l e rm_X9_clash s m args below meth c s.heap [] 0 0 QQ (F0 m 62 ls []) := by
    intro x1 x2 x3
    intro nn
    induction nn with
    | zero =>
      intro x4 x5 ls hl hf
      rw [f_X9_clash_b62] at hf
      cases hf
    | succ n62 ih =>
      intro x4 x5 ls hl hf
      rw [f_X9_clash_b62] at hf
      refine lv_iload hx hb dX9_clash_62 (lv_at hl 5 rfl) ?_
      refine lv_aload_n hx hb dX9_clash_64 rfl (lv_at hl 0 rfl) ?_
      refine va_get (D := G.1) (ci := 9) (v := .int v_squares) (C := RX9) (T := TX9) (N := 26) hx hb hts inX9 hown hK hP 0 rfl rfl 9 (by decide) lk38 (fun _ h9 => h9) rfl dX9_clash_65 ?_
      refine lv_icmp_ge (tgt := 113) hx hb dX9_clash_68 (by decide) (fun hc15 => ?_) (fun hc15 => ?_)
      · have hf := if_t hf hc15
        refine lv_iload hx hb dX9_clash_113 (lv_at hl 4 rfl) ?_
        obtain ⟨hg16, hf⟩ := gd_some hf
        have hr0 := so1 hf
        subst hr0
        rw [← hQ]
        exact W.zret (v := x4) hx hb hr (bzB_nar hg16) (fun t ht hW => ⟨rfl, ht⟩) (fun _ h => by cases h) dX9_clash_115
      · have hf := if_f hf hc15
        refine lv_iload hx hb dX9_clash_71 (lv_at hl 4 rfl) ?_
        refine lv_if_ne (tgt := 100) hx hb dX9_clash_73 (by decide) (fun hc17 => ?_) (fun hc17 => ?_)
        · have hf := if_f hf hc17
          exact j100 (x1) (x2) (x3) (f_X9_clash_b62 v_squares v_offers x1 x2 x3 n62) ih (x5) ls (lv_sub hl [0, 1, 2, 3, 5] rfl) hf
        · have hf := if_t hf hc17
          refine lv_iload_n hx hb dX9_clash_76 rfl (lv_at hl 3 rfl) ?_
          refine lv_if_eq (tgt := 104) hx hb dX9_clash_77 (by decide) (fun hc18 => ?_) (fun hc18 => ?_)
          · have hf := if_t hf hc18
            exact j104 (x1) (x2) (x3) (f_X9_clash_b62 v_squares v_offers x1 x2 x3 n62) ih (x5) ls (lv_sub hl [0, 1, 2, 3, 5] rfl) hf
          · have hf := if_f hf hc18
            refine lv_aload_n hx hb dX9_clash_80 rfl (lv_at hl 0 rfl) ?_
            refine lv_iload_n hx hb dX9_clash_81 rfl (lv_at hl 1 rfl) ?_
            refine lv_iload hx hb dX9_clash_82 (lv_at hl 5 rfl) ?_
            obtain ⟨r19, hu, hf⟩ := bd1_some hf
            refine zRi (va_runV (As := [.int x1, .int x5]) (rest := []) hC (c_X9_offered l G a_this a_this_offers a_this_text a_this_stars a_this_purses a_this_leases a_this_s a_this_kept a_this_isKept a_this_seen (v_thrown) (v_trace) (v_typed) (v_next) (v_token) (v_place) (v_value) (v_fault) (v_squares) (v_starMany) (v_tenants) (v_draftSquares) (v_draftStars) (v_draftTenants) (v_draftLeases) (v_offerMany) (v_seenMany) (v_offers) (x1) (x5) r19 hu) (cwV 2 hts gX9_clash_X9_offered rfl rfl rfl hd_X9_offered ⟨(Nat.le_of_ble_eq_true rfl), (Nat.le_of_ble_eq_true rfl)⟩) (zPV hE hP [0, 1] rfl 0 rfl rfl) rfl rfl hl.1 rfl (lv_room (Nat.le_of_ble_eq_true rfl)) dX9_clash_84 ⟨Nat.zero_le _, Nat.zero_le _⟩) ?_
            refine lv_if_eq (tgt := 104) hx hb dX9_clash_87 (by decide) (fun hc20 => ?_) (fun hc20 => ?_)
            · have hf := if_t hf hc20
              exact j104 (x1) (x2) (x3) (f_X9_clash_b62 v_squares v_offers x1 x2 x3 n62) ih (x5) ls (lv_sub hl [0, 1, 2, 3, 5] rfl) hf
            · have hf := if_f hf hc20
              refine lv_aload_n hx hb dX9_clash_90 rfl (lv_at hl 0 rfl) ?_
              refine lv_iload_n hx hb dX9_clash_91 rfl (lv_at hl 2 rfl) ?_
              refine lv_iload hx hb dX9_clash_92 (lv_at hl 5 rfl) ?_
              obtain ⟨r21, hu, hf⟩ := bd1_some hf
              refine zRi (va_runV (As := [.int x2, .int x5]) (rest := []) hC (c_X9_offered l G a_this a_this_offers a_this_text a_this_stars a_this_purses a_this_leases a_this_s a_this_kept a_this_isKept a_this_seen (v_thrown) (v_trace) (v_typed) (v_next) (v_token) (v_place) (v_value) (v_fault) (v_squares) (v_starMany) (v_tenants) (v_draftSquares) (v_draftStars) (v_draftTenants) (v_draftLeases) (v_offerMany) (v_seenMany) (v_offers) (x2) (x5) r21 hu) (cwV 2 hts gX9_clash_X9_offered rfl rfl rfl hd_X9_offered ⟨(Nat.le_of_ble_eq_true rfl), (Nat.le_of_ble_eq_true rfl)⟩) (zPV hE hP [0, 1] rfl 0 rfl rfl) rfl rfl hl.1 rfl (lv_room (Nat.le_of_ble_eq_true rfl)) dX9_clash_94 ⟨Nat.zero_le _, Nat.zero_le _⟩) ?_
              refine lv_if_eq (tgt := 104) hx hb dX9_clash_97 (by decide) (fun hc22 => ?_) (fun hc22 => ?_)
              · have hf := if_t hf hc22
                exact j104 (x1) (x2) (x3) (f_X9_clash_b62 v_squares v_offers x1 x2 x3 n62) ih (x5) ls (lv_sub hl [0, 1, 2, 3, 5] rfl) hf
              · have hf := if_f hf hc22
                exact j100 (x1) (x2) (x3) (f_X9_clash_b62 v_squares v_offers x1 x2 x3 n62) ih (x5) ls (lv_sub hl [0, 1, 2, 3, 5] rfl) hf
  have j55 : ∀ (x1 : Int32), ∀ (x2 : Int32), ∀ (t0 : Int32), ∀ (ls : Array Slot), lv_has ls 6 [(0, .ref a_this), (1, .int x1), (2, .int x2)] → f_X9_clash_b55 v_squares v_offers x1 x2 t0 = some R0 → W p l e rm_X9_clash s m args below meth c s.heap [] 0 0 QQ (F0 m 55 ls [.int t0]) := by
    intro x1 x2 t0 ls hl hf
    unfold f_X9_clash_b55 at hf
    refine lv_istore_n (lv' := [(3, .int t0), (0, .ref a_this), (1, .int x1), (2, .int x2)]) hx hb dX9_clash_55 rfl hl (by decide) rfl (fun ls hl => ?_)
    refine lv_iconst (v := (0 : Int32)) hx hb dX9_clash_56 (by decide) ?_
    refine lv_istore (lv' := [(4, .int (0 : Int32)), (3, .int t0), (0, .ref a_this), (1, .int x1), (2, .int x2)]) hx hb dX9_clash_57 hl (by decide) rfl (fun ls hl => ?_)
    refine lv_iconst (v := (0 : Int32)) hx hb dX9_clash_59 (by decide) ?_
    refine lv_istore (lv' := [(5, .int (0 : Int32)), (4, .int (0 : Int32)), (3, .int t0), (0, .ref a_this), (1, .int x1), (2, .int x2)]) hx hb dX9_clash_60 hl (by decide) rfl (fun ls hl => ?_)
    exact j62 (x1) (x2) (t0) zF ((0 : Int32)) ((0 : Int32)) ls (lv_sub hl [3, 4, 5, 2, 1, 0] rfl) hf
  have j54 : ∀ (x1 : Int32), ∀ (x2 : Int32), ∀ (ls : Array Slot), lv_has ls 6 [(0, .ref a_this), (1, .int x1), (2, .int x2)] → f_X9_clash_b54 v_squares v_offers x1 x2 = some R0 → W p l e rm_X9_clash s m args below meth c s.heap [] 0 0 QQ (F0 m 54 ls []) := by
    intro x1 x2 ls hl hf
    unfold f_X9_clash_b54 at hf
    refine lv_iconst (v := (0 : Int32)) hx hb dX9_clash_54 (by decide) ?_
    exact j55 (x1) (x2) ((0 : Int32)) ls (lv_sub hl [0, 1, 2] rfl) hf
  unfold f_X9_clash at hf
  refine lv_aload_n hx hb dX9_clash_0 rfl (lv_at hl 0 rfl) ?_
  refine va_get (D := G.1) (ci := 9) (v := .ref a_this_offers) (C := RX9) (T := TX9) (N := 26) hx hb hts inX9 hown hK hP 0 rfl rfl 22 (by decide) lk32 (fun _ h9 => h9) rfl dX9_clash_1 ?_
  refine lv_bipush (v := (6 : Int32)) hx hb dX9_clash_4 (by decide) ?_
  refine lv_iload_n hx hb dX9_clash_6 rfl (lv_at hl 1 rfl) ?_
  refine lv_imul hx hb dX9_clash_7 ?_
  refine lv_iconst (v := (3 : Int32)) hx hb dX9_clash_8 (by decide) ?_
  refine lv_iadd hx hb dX9_clash_9 ?_
  obtain ⟨hg23, hf⟩ := gd_some hf
  refine va_iald hx hb hK hP 1 0 rfl rfl (inB_in hg23) dX9_clash_10 ?_
  refine lv_aload_n hx hb dX9_clash_11 rfl (lv_at hl 0 rfl) ?_
  refine va_get (D := G.1) (ci := 9) (v := .ref a_this_offers) (C := RX9) (T := TX9) (N := 26) hx hb hts inX9 hown hK hP 0 rfl rfl 22 (by decide) lk32 (fun _ h9 => h9) rfl dX9_clash_12 ?_
  refine lv_bipush (v := (6 : Int32)) hx hb dX9_clash_15 (by decide) ?_
  refine lv_iload_n hx hb dX9_clash_17 rfl (lv_at hl 2 rfl) ?_
  refine lv_imul hx hb dX9_clash_18 ?_
  refine lv_iconst (v := (4 : Int32)) hx hb dX9_clash_19 (by decide) ?_
  refine lv_iadd hx hb dX9_clash_20 ?_
  obtain ⟨hg24, hf⟩ := gd_some hf
  refine va_iald hx hb hK hP 1 0 rfl rfl (inB_in hg24) dX9_clash_21 ?_
  refine lv_icmp_gt (tgt := 54) hx hb dX9_clash_22 (by decide) (fun hc25 => ?_) (fun hc25 => ?_)
  · have hf := if_t hf hc25
    exact j54 (g1) (g2) ls (lv_sub hl [0, 1, 2] rfl) hf
  · have hf := if_f hf hc25
    refine lv_aload_n hx hb dX9_clash_25 rfl (lv_at hl 0 rfl) ?_
    refine va_get (D := G.1) (ci := 9) (v := .ref a_this_offers) (C := RX9) (T := TX9) (N := 26) hx hb hts inX9 hown hK hP 0 rfl rfl 22 (by decide) lk32 (fun _ h9 => h9) rfl dX9_clash_26 ?_
    refine lv_bipush (v := (6 : Int32)) hx hb dX9_clash_29 (by decide) ?_
    refine lv_iload_n hx hb dX9_clash_31 rfl (lv_at hl 2 rfl) ?_
    refine lv_imul hx hb dX9_clash_32 ?_
    refine lv_iconst (v := (3 : Int32)) hx hb dX9_clash_33 (by decide) ?_
    refine lv_iadd hx hb dX9_clash_34 ?_
    obtain ⟨hg26, hf⟩ := gd_some hf
    refine va_iald hx hb hK hP 1 0 rfl rfl (inB_in hg26) dX9_clash_35 ?_
    refine lv_aload_n hx hb dX9_clash_36 rfl (lv_at hl 0 rfl) ?_
    refine va_get (D := G.1) (ci := 9) (v := .ref a_this_offers) (C := RX9) (T := TX9) (N := 26) hx hb hts inX9 hown hK hP 0 rfl rfl 22 (by decide) lk32 (fun _ h9 => h9) rfl dX9_clash_37 ?_
    refine lv_bipush (v := (6 : Int32)) hx hb dX9_clash_40 (by decide) ?_
    refine lv_iload_n hx hb dX9_clash_42 rfl (lv_at hl 1 rfl) ?_
    refine lv_imul hx hb dX9_clash_43 ?_
    refine lv_iconst (v := (4 : Int32)) hx hb dX9_clash_44 (by decide) ?_
    refine lv_iadd hx hb dX9_clash_45 ?_
    obtain ⟨hg27, hf⟩ := gd_some hf
    refine va_iald hx hb hK hP 1 0 rfl rfl (inB_in hg27) dX9_clash_46 ?_
    refine lv_icmp_gt (tgt := 54) hx hb dX9_clash_47 (by decide) (fun hc28 => ?_) (fun hc28 => ?_)
    · have hf := if_t hf hc28
      exact j54 (g1) (g2) ls (lv_sub hl [0, 1, 2] rfl) hf
    · have hf := if_f hf hc28
      refine lv_iconst (v := (1 : Int32)) hx hb dX9_clash_50 (by decide) ?_
      refine lv_goto (tgt := 55) hx hb dX9_clash_51 (by decide) ?_
      exact j55 (g1) (g2) ((1 : Int32)) ls (lv_sub hl [0, 1, 2] rfl) hf
def f_X9_isOffered  (v_offers : (Nat → Int32)) (g1 : Int32) (g2 : Int32) : Option (Int32) := gd (inB (((6 : Int32) * g1) + (3 : Int32)) 48) (gd (inB (((6 : Int32) * g1) + (4 : Int32)) 48) (bd1 (f_X9_in (g2) ((v_offers ((((6 : Int32) * g1) + (3 : Int32))).toNatClampNeg)) ((v_offers ((((6 : Int32) * g1) + (4 : Int32))).toNatClampNeg))) fun r7 => gd (bzB r7) (some (r7))))
abbrev rm_X9_isOffered : Room := { frames := 1, cells := 0, slots := 0, locals := 22 }
set_option maxHeartbeats 4000000 in
set_option maxRecDepth 100000 in
theorem c_X9_isOffered (l : Launch) (G : zG) (a_this : Nat) (a_this_offers : Nat) (a_this_text : Nat) (a_this_stars : Nat) (a_this_purses : Nat) (a_this_leases : Nat) (a_this_s : Nat) (a_this_kept : Nat) (a_this_isKept : Nat) (a_this_seen : Nat) (v_thrown : Int32) (v_trace : Int64) (v_typed : Int32) (v_next : Int32) (v_token : Int32) (v_place : Int32) (v_value : Int32) (v_fault : Int32) (v_squares : Int32) (v_starMany : Int32) (v_tenants : Int32) (v_draftSquares : Int32) (v_draftStars : Int32) (v_draftTenants : Int32) (v_draftLeases : Int32) (v_offerMany : Int32) (v_seenMany : Int32) (v_offers : (Nat → Int32)) (g1 : Int32) (g2 : Int32) (R0 : Int32) (hf : f_X9_isOffered v_offers g1 g2 = some R0) : Met l yX9_isOffered wsX9_isOffered rm_X9_isOffered (va_Pc [.ref a_this, .int g1, .int g2] (zR G [(a_this, .inr (9, [.int v_thrown, .long v_trace, .ref a_this_text, .int v_typed, .int v_next, .int v_token, .int v_place, .int v_value, .int v_fault, .int v_squares, .ref a_this_stars, .ref a_this_purses, .ref a_this_leases, .int v_starMany, .int v_tenants, .int v_draftSquares, .int v_draftStars, .int v_draftTenants, .int v_draftLeases, .ref a_this_s, .ref a_this_kept, .ref a_this_isKept, .ref a_this_offers, .int v_offerMany, .ref a_this_seen, .int v_seenMany])), (a_this_offers, .inl (G.2.1, 48, .inl v_offers))])) (zSv (some (.int R0))) 0 0 (fun _ => False) := by
  refine Met.ofW (cc := cX9_isOffered) (maxL := 3) (ret := (some .boolean)) (by decide) rfl ?_
  intro p e s m args below meth c s₁ B hml hv
  obtain ⟨hargs, hP, hE⟩ := hv
  have hx := B.exec
  have hb := B.bytes
  have hr := B.returns
  have hts := atoms_spec (ws := wsX9_isOffered) B.pre
  have hown : s.vm.findClass RX9 = some m.cls := findClass_of_methodNamed B.named
  have hlocks := B.notSynchronized
  have hK := hE.1
  have hC : CallFix p m c cX9_isOffered 3 s args wsX9_isOffered RX9 := ⟨hx, hb, hml, hown, hts⟩
  have inX9 : ∀ w ∈ wsX90, w ∈ wsX9_isOffered := by decide +kernel
  have lk32 := hts (.fieldLink RX9 32 "SkyLeasesModel" "offers" "[I") (by decide +kernel)
  have hl := lv_entry ([.ref a_this, .int g1, .int g2]) (n := 3) (Nat.le_of_ble_eq_true rfl)
  have hent : entryFrame m args 3 = F0 m 0 ((lg_sl ([.ref a_this, .int g1, .int g2]) ++ List.replicate (3 - (lg_sl ([.ref a_this, .int g1, .int g2])).length) Slot.unset).toArray) [] := by rw [hargs]; exact lg_entry_eq m [.ref a_this, .int g1, .int g2] 3
  refine W.eq hent ?_
  clear hent
  generalize (lg_sl ([.ref a_this, .int g1, .int g2]) ++ List.replicate (3 - (lg_sl ([.ref a_this, .int g1, .int g2])).length) Slot.unset).toArray = ls at hl ⊢
  have hl : lv_has ls 3 [(0, .ref a_this), (1, .int g1), (2, .int g2)] := hl
  generalize hQ : MQ below _ args s 0 0 _ = QQ
  change W p l e rm_X9_isOffered s m args below meth c s.heap [] 0 0 QQ _
  unfold f_X9_isOffered at hf
  refine lv_iload_n hx hb dX9_isOffered_0 rfl (lv_at hl 2 rfl) ?_
  refine lv_aload_n hx hb dX9_isOffered_1 rfl (lv_at hl 0 rfl) ?_
  refine va_get (D := G.1) (ci := 9) (v := .ref a_this_offers) (C := RX9) (T := TX9) (N := 26) hx hb hts inX9 hown hK hP 0 rfl rfl 22 (by decide) lk32 (fun _ h9 => h9) rfl dX9_isOffered_2 ?_
  refine lv_bipush (v := (6 : Int32)) hx hb dX9_isOffered_5 (by decide) ?_
  refine lv_iload_n hx hb dX9_isOffered_7 rfl (lv_at hl 1 rfl) ?_
  refine lv_imul hx hb dX9_isOffered_8 ?_
  refine lv_iconst (v := (3 : Int32)) hx hb dX9_isOffered_9 (by decide) ?_
  refine lv_iadd hx hb dX9_isOffered_10 ?_
  obtain ⟨hg5, hf⟩ := gd_some hf
  refine va_iald hx hb hK hP 1 0 rfl rfl (inB_in hg5) dX9_isOffered_11 ?_
  refine lv_aload_n hx hb dX9_isOffered_12 rfl (lv_at hl 0 rfl) ?_
  refine va_get (D := G.1) (ci := 9) (v := .ref a_this_offers) (C := RX9) (T := TX9) (N := 26) hx hb hts inX9 hown hK hP 0 rfl rfl 22 (by decide) lk32 (fun _ h9 => h9) rfl dX9_isOffered_13 ?_
  refine lv_bipush (v := (6 : Int32)) hx hb dX9_isOffered_16 (by decide) ?_
  refine lv_iload_n hx hb dX9_isOffered_18 rfl (lv_at hl 1 rfl) ?_
  refine lv_imul hx hb dX9_isOffered_19 ?_
  refine lv_iconst (v := (4 : Int32)) hx hb dX9_isOffered_20 (by decide) ?_
  refine lv_iadd hx hb dX9_isOffered_21 ?_
  obtain ⟨hg6, hf⟩ := gd_some hf
  refine va_iald hx hb hK hP 1 0 rfl rfl (inB_in hg6) dX9_isOffered_22 ?_
  obtain ⟨r7, hu, hf⟩ := bd1_some hf
  refine zRi (va_runS (As := [.int g2, .int (v_offers ((((6 : Int32) * g1) + (3 : Int32))).toNatClampNeg), .int (v_offers ((((6 : Int32) * g1) + (4 : Int32))).toNatClampNeg)]) (rest := []) hC (c_X9_in l G (g2) ((v_offers ((((6 : Int32) * g1) + (3 : Int32))).toNatClampNeg)) ((v_offers ((((6 : Int32) * g1) + (4 : Int32))).toNatClampNeg)) r7 hu) (va_cwS 3 hts gX9_isOffered_X9_in rfl rfl rfl hd_X9_in.2 ⟨(Nat.le_of_ble_eq_true rfl), (Nat.le_of_ble_eq_true rfl)⟩) (zPS hE hP [] rfl) rfl rfl hl.1 rfl (lv_room (Nat.le_of_ble_eq_true rfl)) dX9_isOffered_23 ⟨Nat.zero_le _, Nat.zero_le _⟩) ?_
  obtain ⟨hg8, hf⟩ := gd_some hf
  have hr0 := so1 hf
  subst hr0
  rw [← hQ]
  exact W.zret (v := r7) hx hb hr (bzB_nar hg8) (fun t ht hW => ⟨rfl, ht⟩) (fun _ h => by cases h) dX9_isOffered_26
theorem hd_X9_isOffered : yX9_isOffered.cls = RX9 ∧ yX9_isOffered.cls ≠ "java/lang/invoke/MethodHandle" ∧ yX9_isOffered.cls ≠ "java/lang/invoke/VarHandle" ∧ (parseMethodDescriptor yX9_isOffered.desc).map (fun d => d.parameters.length) = some 2 := by decide +kernel
def f_X9_hasStar_b93  (k58 : Int32 → Int32 → Option (Int32))  (x7 : Int32) (t0 : Int32) : Option (Int32) := k58 (t0) ((x7 + (1 : Int32)))
def f_X9_hasStar_b88  (k58 : Int32 → Int32 → Option (Int32))  (x7 : Int32) : Option (Int32) := f_X9_hasStar_b93 k58 (x7) ((1 : Int32))
def f_X9_hasStar_b101  (k9 : Int32 → Int32 → Int32 → Option (Int32))  (x4 : Int32) (x5 : Int32) (x6 : Int32) : Option (Int32) := k9 (x4) (x5) ((x6 + (1 : Int32)))
def f_X9_hasStar_b58 (v_squares : Int32) (v_starMany : Int32) (v_offers : (Nat → Int32)) (v_stars : (Nat → Int32)) (k9 : Int32 → Int32 → Int32 → Option (Int32)) (x3 : Int32) (x4 : Int32) (x6 : Int32) : Nat → Int32 → Int32 → Option (Int32)
  | 0, _, _ => none
  | n58 + 1, x5, x7 => if v_starMany ≤ x7 then (f_X9_hasStar_b101 k9 (x4) (x5) (x6)) else (if x5 = (0 : Int32) then (bd1 (f_X9_squareOf (v_squares) (v_stars) (x7) (x3)) fun r16 => bd1 (f_X9_offered (v_squares) (v_offers) (x6) (r16)) fun r17 => if r17 = (0 : Int32) then (f_X9_hasStar_b93 (f_X9_hasStar_b58 v_squares v_starMany v_offers v_stars k9 x3 x4 x6 n58) (x7) ((0 : Int32))) else (f_X9_hasStar_b88 (f_X9_hasStar_b58 v_squares v_starMany v_offers v_stars k9 x3 x4 x6 n58) (x7))) else (f_X9_hasStar_b88 (f_X9_hasStar_b58 v_squares v_starMany v_offers v_stars k9 x3 x4 x6 n58) (x7)))
def f_X9_hasStar_b9 (v_squares : Int32) (v_starMany : Int32) (v_offerMany : Int32) (v_offers : (Nat → Int32)) (v_stars : (Nat → Int32))  (x1 : Int32) (x2 : Int32) (x3 : Int32) : Nat → Int32 → Int32 → Int32 → Option (Int32)
  | 0, _, _, _ => none
  | n9 + 1, x4, x5, x6 => if v_offerMany ≤ x6 then (if x4 = (0 : Int32) then (some ((1 : Int32))) else (if x5 = (0 : Int32) then (some ((0 : Int32))) else (some ((1 : Int32))))) else (if ((x1 >>> (x6 &&& (31 : Int32))) &&& (1 : Int32)) = (1 : Int32) then (gd (inB ((6 : Int32) * x6) 48) (if (v_offers (((6 : Int32) * x6)).toNatClampNeg) = x2 then (bd1 (f_X9_isOffered (v_offers) (x6) (x3)) fun r25 => if r25 = (0 : Int32) then (f_X9_hasStar_b101 (f_X9_hasStar_b9 v_squares v_starMany v_offerMany v_offers v_stars x1 x2 x3 n9) (x4) (x5) (x6)) else (f_X9_hasStar_b58 v_squares v_starMany v_offers v_stars (f_X9_hasStar_b9 v_squares v_starMany v_offerMany v_offers v_stars x1 x2 x3 n9) (x3) ((1 : Int32)) (x6) zF (x5) ((0 : Int32)))) else (f_X9_hasStar_b101 (f_X9_hasStar_b9 v_squares v_starMany v_offerMany v_offers v_stars x1 x2 x3 n9) (x4) (x5) (x6)))) else (f_X9_hasStar_b101 (f_X9_hasStar_b9 v_squares v_starMany v_offerMany v_offers v_stars x1 x2 x3 n9) (x4) (x5) (x6)))
def f_X9_hasStar  (v_squares : Int32) (v_starMany : Int32) (v_offerMany : Int32) (v_offers : (Nat → Int32)) (v_stars : (Nat → Int32)) (g1 : Int32) (g2 : Int32) (g3 : Int32) : Option (Int32) := f_X9_hasStar_b9 v_squares v_starMany v_offerMany v_offers v_stars (g1) (g2) (g3) zF ((0 : Int32)) ((0 : Int32)) ((0 : Int32))
abbrev rm_X9_hasStar : Room := { frames := 2, cells := 0, slots := 0, locals := 45 }
set_option maxHeartbeats 4000000 in
set_option maxRecDepth 100000 in
theorem c_X9_hasStar (l : Launch) (G : zG) (a_this : Nat) (a_this_offers : Nat) (a_this_stars : Nat) (a_this_text : Nat) (a_this_purses : Nat) (a_this_leases : Nat) (a_this_s : Nat) (a_this_kept : Nat) (a_this_isKept : Nat) (a_this_seen : Nat) (v_thrown : Int32) (v_trace : Int64) (v_typed : Int32) (v_next : Int32) (v_token : Int32) (v_place : Int32) (v_value : Int32) (v_fault : Int32) (v_squares : Int32) (v_starMany : Int32) (v_tenants : Int32) (v_draftSquares : Int32) (v_draftStars : Int32) (v_draftTenants : Int32) (v_draftLeases : Int32) (v_offerMany : Int32) (v_seenMany : Int32) (v_offers : (Nat → Int32)) (v_stars : (Nat → Int32)) (g1 : Int32) (g2 : Int32) (g3 : Int32) (R0 : Int32) (hf : f_X9_hasStar v_squares v_starMany v_offerMany v_offers v_stars g1 g2 g3 = some R0) : Met l yX9_hasStar wsX9_hasStar rm_X9_hasStar (va_Pc [.ref a_this, .int g1, .int g2, .int g3] (zR G [(a_this, .inr (9, [.int v_thrown, .long v_trace, .ref a_this_text, .int v_typed, .int v_next, .int v_token, .int v_place, .int v_value, .int v_fault, .int v_squares, .ref a_this_stars, .ref a_this_purses, .ref a_this_leases, .int v_starMany, .int v_tenants, .int v_draftSquares, .int v_draftStars, .int v_draftTenants, .int v_draftLeases, .ref a_this_s, .ref a_this_kept, .ref a_this_isKept, .ref a_this_offers, .int v_offerMany, .ref a_this_seen, .int v_seenMany])), (a_this_offers, .inl (G.2.1, 48, .inl v_offers)), (a_this_stars, .inl (G.2.1, 48, .inl v_stars))])) (zSv (some (.int R0))) 0 0 (fun _ => False) := by
  refine Met.ofW (cc := cX9_hasStar) (maxL := 8) (ret := (some .boolean)) (by decide) rfl ?_
  intro p e s m args below meth c s₁ B hml hv
  obtain ⟨hargs, hP, hE⟩ := hv
  have hx := B.exec
  have hb := B.bytes
  have hr := B.returns
  have hts := atoms_spec (ws := wsX9_hasStar) B.pre
  have hown : s.vm.findClass RX9 = some m.cls := findClass_of_methodNamed B.named
  have hlocks := B.notSynchronized
  have hK := hE.1
  have hC : CallFix p m c cX9_hasStar 8 s args wsX9_hasStar RX9 := ⟨hx, hb, hml, hown, hts⟩
  have inX9 : ∀ w ∈ wsX90, w ∈ wsX9_hasStar := by decide +kernel
  have lk32 := hts (.fieldLink RX9 32 "SkyLeasesModel" "offers" "[I") (by decide +kernel)
  have lk118 := hts (.fieldLink RX9 118 "SkyLeasesModel" "starMany" "I") (by decide +kernel)
  have lk124 := hts (.fieldLink RX9 124 "SkyLeasesModel" "offerMany" "I") (by decide +kernel)
  have hl := lv_entry ([.ref a_this, .int g1, .int g2, .int g3]) (n := 8) (Nat.le_of_ble_eq_true rfl)
  have hent : entryFrame m args 8 = F0 m 0 ((lg_sl ([.ref a_this, .int g1, .int g2, .int g3]) ++ List.replicate (8 - (lg_sl ([.ref a_this, .int g1, .int g2, .int g3])).length) Slot.unset).toArray) [] := by rw [hargs]; exact lg_entry_eq m [.ref a_this, .int g1, .int g2, .int g3] 8
  refine W.eq hent ?_
  clear hent
  generalize (lg_sl ([.ref a_this, .int g1, .int g2, .int g3]) ++ List.replicate (8 - (lg_sl ([.ref a_this, .int g1, .int g2, .int g3])).length) Slot.unset).toArray = ls at hl ⊢
  have hl : lv_has ls 8 [(0, .ref a_this), (1, .int g1), (2, .int g2), (3, .int g3)] := hl
  generalize hQ : MQ below _ args s 0 0 _ = QQ
  change W p l e rm_X9_hasStar s m args below meth c s.heap [] 0 0 QQ _
  have j93 : ∀ (x1 : Int32), ∀ (x2 : Int32), ∀ (x3 : Int32), ∀ (x4 : Int32), ∀ (x6 : Int32), ∀ (k58 : Int32 → Int32 → Option (Int32)), (∀ (x5 : Int32), ∀ (x7 : Int32), ∀ (ls : Array Slot), lv_has ls 8 [(0, .ref a_this), (1, .int x1), (2, .int x2), (3, .int x3), (4, .int x4), (5, .int x5), (6, .int x6), (7, .int x7)] → k58 x5 x7 = some R0 → W p l e rm_X9_hasStar s m args below meth c s.heap [] 0 0 QQ (F0 m 58 ls [])) → ∀ (x7 : Int32), ∀ (t0 : Int32), ∀ (ls : Array Slot), lv_has ls 8 [(0, .ref a_this), (1, .int x1), (2, .int x2), (3, .int x3), (4, .int x4), (6, .int x6), (7, .int x7)] → f_X9_hasStar_b93 k58 x7 t0 = some R0 → W p l e rm_X9_hasStar s m args below meth c s.heap [] 0 0 QQ (F0 m 93 ls [.int t0]) := by
    intro x1 x2 x3 x4 x6 k58 hk58 x7 t0 ls hl hf
    unfold f_X9_hasStar_b93 at hf
    refine lv_istore (lv' := [(5, .int t0), (0, .ref a_this), (1, .int x1), (2, .int x2), (3, .int x3), (4, .int x4), (6, .int x6), (7, .int x7)]) hx hb dX9_hasStar_93 hl (by decide) rfl (fun ls hl => ?_)
    refine lv_iinc (v := (x7 + (1 : Int32))) (lv' := [(7, .int (x7 + (1 : Int32))), (5, .int t0), (0, .ref a_this), (1, .int x1), (2, .int x2), (3, .int x3), (4, .int x4), (6, .int x6)]) hx hb dX9_hasStar_95 hl (k := 7) rfl rfl (by decide) rfl (fun ls hl => ?_)
    refine lv_goto (tgt := 58) hx hb dX9_hasStar_98 (by decide) ?_
    exact hk58 (t0) ((x7 + (1 : Int32))) ls (lv_sub hl [2, 3, 4, 5, 6, 1, 7, 0] rfl) hf
  have j88 : ∀ (x1 : Int32), ∀ (x2 : Int32), ∀ (x3 : Int32), ∀ (x4 : Int32), ∀ (x6 : Int32), ∀ (k58 : Int32 → Int32 → Option (Int32)), (∀ (x5 : Int32), ∀ (x7 : Int32), ∀ (ls : Array Slot), lv_has ls 8 [(0, .ref a_this), (1, .int x1), (2, .int x2), (3, .int x3), (4, .int x4), (5, .int x5), (6, .int x6), (7, .int x7)] → k58 x5 x7 = some R0 → W p l e rm_X9_hasStar s m args below meth c s.heap [] 0 0 QQ (F0 m 58 ls [])) → ∀ (x7 : Int32), ∀ (ls : Array Slot), lv_has ls 8 [(0, .ref a_this), (1, .int x1), (2, .int x2), (3, .int x3), (4, .int x4), (6, .int x6), (7, .int x7)] → f_X9_hasStar_b88 k58 x7 = some R0 → W p l e rm_X9_hasStar s m args below meth c s.heap [] 0 0 QQ (F0 m 88 ls []) := by
    intro x1 x2 x3 x4 x6 k58 hk58 x7 ls hl hf
    unfold f_X9_hasStar_b88 at hf
    refine lv_iconst (v := (1 : Int32)) hx hb dX9_hasStar_88 (by decide) ?_
    refine lv_goto (tgt := 93) hx hb dX9_hasStar_89 (by decide) ?_
    exact j93 (x1) (x2) (x3) (x4) (x6) k58 hk58 (x7) ((1 : Int32)) ls (lv_sub hl [0, 1, 2, 3, 4, 5, 6] rfl) hf
  have j101 : ∀ (x1 : Int32), ∀ (x2 : Int32), ∀ (x3 : Int32), ∀ (k9 : Int32 → Int32 → Int32 → Option (Int32)), (∀ (x4 : Int32), ∀ (x5 : Int32), ∀ (x6 : Int32), ∀ (ls : Array Slot), lv_has ls 8 [(0, .ref a_this), (1, .int x1), (2, .int x2), (3, .int x3), (4, .int x4), (5, .int x5), (6, .int x6)] → k9 x4 x5 x6 = some R0 → W p l e rm_X9_hasStar s m args below meth c s.heap [] 0 0 QQ (F0 m 9 ls [])) → ∀ (x4 : Int32), ∀ (x5 : Int32), ∀ (x6 : Int32), ∀ (ls : Array Slot), lv_has ls 8 [(0, .ref a_this), (1, .int x1), (2, .int x2), (3, .int x3), (4, .int x4), (5, .int x5), (6, .int x6)] → f_X9_hasStar_b101 k9 x4 x5 x6 = some R0 → W p l e rm_X9_hasStar s m args below meth c s.heap [] 0 0 QQ (F0 m 101 ls []) := by
    intro x1 x2 x3 k9 hk9 x4 x5 x6 ls hl hf
    unfold f_X9_hasStar_b101 at hf
    refine lv_iinc (v := (x6 + (1 : Int32))) (lv' := [(6, .int (x6 + (1 : Int32))), (0, .ref a_this), (1, .int x1), (2, .int x2), (3, .int x3), (4, .int x4), (5, .int x5)]) hx hb dX9_hasStar_101 hl (k := 6) rfl rfl (by decide) rfl (fun ls hl => ?_)
    refine lv_goto (tgt := 9) hx hb dX9_hasStar_104 (by decide) ?_
    exact hk9 (x4) (x5) ((x6 + (1 : Int32))) ls (lv_sub hl [1, 2, 3, 4, 5, 6, 0] rfl) hf
  have j58 : ∀ (x1 : Int32), ∀ (x2 : Int32), ∀ (x3 : Int32), ∀ (k9 : Int32 → Int32 → Int32 → Option (Int32)), (∀ (x4 : Int32), ∀ (x5 : Int32), ∀ (x6 : Int32), ∀ (ls : Array Slot), lv_has ls 8 [(0, .ref a_this), (1, .int x1), (2, .int x2), (3, .int x3), (4, .int x4), (5, .int x5), (6, .int x6)] → k9 x4 x5 x6 = some R0 → W p l e rm_X9_hasStar s m args below meth c s.heap [] 0 0 QQ (F0 m 9 ls [])) → ∀ (x4 : Int32), ∀ (x6 : Int32), ∀ (nn : Nat), ∀ (x5 : Int32), ∀ (x7 : Int32), ∀ (ls : Array Slot), lv_has ls 8 [(0, .ref a_this), (1, .int x1), (2, .int x2), (3, .int x3), (4, .int x4), (5, .int x5), (6, .int x6), (7, .int x7)] → f_X9_hasStar_b58 v_squares v_starMany v_offers v_stars k9 x3 x4 x6 nn x5 x7 = some R0 → W p l e rm_X9_hasStar s m args below meth c s.heap [] 0 0 QQ (F0 m 58 ls []) := by
    intro x1 x2 x3 k9 hk9 x4 x6
    intro nn
    induction nn with
    | zero =>
      intro x5 x7 ls hl hf
      rw [f_X9_hasStar_b58] at hf
      cases hf
    | succ n58 ih =>
      intro x5 x7 ls hl hf
      rw [f_X9_hasStar_b58] at hf
      refine lv_iload hx hb dX9_hasStar_58 (lv_at hl 7 rfl) ?_
      refine lv_aload_n hx hb dX9_hasStar_60 rfl (lv_at hl 0 rfl) ?_
      refine va_get (D := G.1) (ci := 9) (v := .int v_starMany) (C := RX9) (T := TX9) (N := 26) hx hb hts inX9 hown hK hP 0 rfl rfl 13 (by decide) lk118 (fun _ h9 => h9) rfl dX9_hasStar_61 ?_
      refine lv_icmp_ge (tgt := 101) hx hb dX9_hasStar_64 (by decide) (fun hc14 => ?_) (fun hc14 => ?_)
      · have hf := if_t hf hc14
        exact j101 (x1) (x2) (x3) k9 hk9 (x4) (x5) (x6) ls (lv_sub hl [0, 1, 2, 3, 4, 5, 6] rfl) hf
      · have hf := if_f hf hc14
        refine lv_iload hx hb dX9_hasStar_67 (lv_at hl 5 rfl) ?_
        refine lv_if_ne (tgt := 88) hx hb dX9_hasStar_69 (by decide) (fun hc15 => ?_) (fun hc15 => ?_)
        · have hf := if_f hf hc15
          exact j88 (x1) (x2) (x3) (x4) (x6) (f_X9_hasStar_b58 v_squares v_starMany v_offers v_stars k9 x3 x4 x6 n58) ih (x7) ls (lv_sub hl [0, 1, 2, 3, 4, 6, 7] rfl) hf
        · have hf := if_t hf hc15
          refine lv_aload_n hx hb dX9_hasStar_72 rfl (lv_at hl 0 rfl) ?_
          refine lv_iload hx hb dX9_hasStar_73 (lv_at hl 6 rfl) ?_
          refine lv_aload_n hx hb dX9_hasStar_75 rfl (lv_at hl 0 rfl) ?_
          refine lv_iload hx hb dX9_hasStar_76 (lv_at hl 7 rfl) ?_
          refine lv_iload_n hx hb dX9_hasStar_78 rfl (lv_at hl 3 rfl) ?_
          obtain ⟨r16, hu, hf⟩ := bd1_some hf
          refine zRi (va_runV (As := [.int x7, .int x3]) (rest := [.int x6, .ref a_this]) hC (c_X9_squareOf l G a_this a_this_stars a_this_text a_this_purses a_this_leases a_this_s a_this_kept a_this_isKept a_this_offers a_this_seen (v_thrown) (v_trace) (v_typed) (v_next) (v_token) (v_place) (v_value) (v_fault) (v_squares) (v_starMany) (v_tenants) (v_draftSquares) (v_draftStars) (v_draftTenants) (v_draftLeases) (v_offerMany) (v_seenMany) (v_stars) (x7) (x3) r16 hu) (cwV 2 hts gX9_hasStar_X9_squareOf rfl rfl rfl hd_X9_squareOf ⟨(Nat.le_of_ble_eq_true rfl), (Nat.le_of_ble_eq_true rfl)⟩) (zPV hE hP [0, 2] rfl 0 rfl rfl) rfl rfl hl.1 rfl (lv_room (Nat.le_of_ble_eq_true rfl)) dX9_hasStar_79 ⟨Nat.zero_le _, Nat.zero_le _⟩) ?_
          obtain ⟨r17, hu, hf⟩ := bd1_some hf
          refine zRi (va_runV (As := [.int x6, .int r16]) (rest := []) hC (c_X9_offered l G a_this a_this_offers a_this_text a_this_stars a_this_purses a_this_leases a_this_s a_this_kept a_this_isKept a_this_seen (v_thrown) (v_trace) (v_typed) (v_next) (v_token) (v_place) (v_value) (v_fault) (v_squares) (v_starMany) (v_tenants) (v_draftSquares) (v_draftStars) (v_draftTenants) (v_draftLeases) (v_offerMany) (v_seenMany) (v_offers) (x6) (r16) r17 hu) (cwV 2 hts gX9_hasStar_X9_offered rfl rfl rfl hd_X9_offered ⟨(Nat.le_of_ble_eq_true rfl), (Nat.le_of_ble_eq_true rfl)⟩) (zPV hE hP [0, 1] rfl 0 rfl rfl) rfl rfl hl.1 rfl (lv_room (Nat.le_of_ble_eq_true rfl)) dX9_hasStar_82 ⟨Nat.zero_le _, Nat.zero_le _⟩) ?_
          refine lv_if_eq (tgt := 92) hx hb dX9_hasStar_85 (by decide) (fun hc18 => ?_) (fun hc18 => ?_)
          · have hf := if_t hf hc18
            refine lv_iconst (v := (0 : Int32)) hx hb dX9_hasStar_92 (by decide) ?_
            exact j93 (x1) (x2) (x3) (x4) (x6) (f_X9_hasStar_b58 v_squares v_starMany v_offers v_stars k9 x3 x4 x6 n58) ih (x7) ((0 : Int32)) ls (lv_sub hl [0, 1, 2, 3, 4, 6, 7] rfl) hf
          · have hf := if_f hf hc18
            exact j88 (x1) (x2) (x3) (x4) (x6) (f_X9_hasStar_b58 v_squares v_starMany v_offers v_stars k9 x3 x4 x6 n58) ih (x7) ls (lv_sub hl [0, 1, 2, 3, 4, 6, 7] rfl) hf
  have j9 : ∀ (x1 : Int32), ∀ (x2 : Int32), ∀ (x3 : Int32), ∀ (nn : Nat), ∀ (x4 : Int32), ∀ (x5 : Int32), ∀ (x6 : Int32), ∀ (ls : Array Slot), lv_has ls 8 [(0, .ref a_this), (1, .int x1), (2, .int x2), (3, .int x3), (4, .int x4), (5, .int x5), (6, .int x6)] → f_X9_hasStar_b9 v_squares v_starMany v_offerMany v_offers v_stars x1 x2 x3 nn x4 x5 x6 = some R0 → W p l e rm_X9_hasStar s m args below meth c s.heap [] 0 0 QQ (F0 m 9 ls []) := by
    intro x1 x2 x3
    intro nn
    induction nn with
    | zero =>
      intro x4 x5 x6 ls hl hf
      rw [f_X9_hasStar_b9] at hf
      cases hf
    | succ n9 ih =>
      intro x4 x5 x6 ls hl hf
      rw [f_X9_hasStar_b9] at hf
      refine lv_iload hx hb dX9_hasStar_9 (lv_at hl 6 rfl) ?_
      refine lv_aload_n hx hb dX9_hasStar_11 rfl (lv_at hl 0 rfl) ?_
      refine va_get (D := G.1) (ci := 9) (v := .int v_offerMany) (C := RX9) (T := TX9) (N := 26) hx hb hts inX9 hown hK hP 0 rfl rfl 23 (by decide) lk124 (fun _ h9 => h9) rfl dX9_hasStar_12 ?_
      refine lv_icmp_ge (tgt := 107) hx hb dX9_hasStar_15 (by decide) (fun hc19 => ?_) (fun hc19 => ?_)
      · have hf := if_t hf hc19
        refine lv_iload hx hb dX9_hasStar_107 (lv_at hl 4 rfl) ?_
        refine lv_if_eq (tgt := 117) hx hb dX9_hasStar_109 (by decide) (fun hc20 => ?_) (fun hc20 => ?_)
        · have hf := if_t hf hc20
          refine lv_iconst (v := (1 : Int32)) hx hb dX9_hasStar_117 (by decide) ?_
          refine lv_goto (tgt := 122) hx hb dX9_hasStar_118 (by decide) ?_
          have hr0 := so1 hf
          subst hr0
          rw [← hQ]
          exact W.zret (v := (1 : Int32)) hx hb hr rfl (fun t ht hW => ⟨rfl, ht⟩) (fun _ h => by cases h) dX9_hasStar_122
        · have hf := if_f hf hc20
          refine lv_iload hx hb dX9_hasStar_112 (lv_at hl 5 rfl) ?_
          refine lv_if_eq (tgt := 121) hx hb dX9_hasStar_114 (by decide) (fun hc21 => ?_) (fun hc21 => ?_)
          · have hf := if_t hf hc21
            refine lv_iconst (v := (0 : Int32)) hx hb dX9_hasStar_121 (by decide) ?_
            have hr0 := so1 hf
            subst hr0
            rw [← hQ]
            exact W.zret (v := (0 : Int32)) hx hb hr rfl (fun t ht hW => ⟨rfl, ht⟩) (fun _ h => by cases h) dX9_hasStar_122
          · have hf := if_f hf hc21
            refine lv_iconst (v := (1 : Int32)) hx hb dX9_hasStar_117 (by decide) ?_
            refine lv_goto (tgt := 122) hx hb dX9_hasStar_118 (by decide) ?_
            have hr0 := so1 hf
            subst hr0
            rw [← hQ]
            exact W.zret (v := (1 : Int32)) hx hb hr rfl (fun t ht hW => ⟨rfl, ht⟩) (fun _ h => by cases h) dX9_hasStar_122
      · have hf := if_f hf hc19
        refine lv_iload_n hx hb dX9_hasStar_18 rfl (lv_at hl 1 rfl) ?_
        refine lv_iload hx hb dX9_hasStar_19 (lv_at hl 6 rfl) ?_
        refine lv_ishr hx hb dX9_hasStar_21 ?_
        refine lv_iconst (v := (1 : Int32)) hx hb dX9_hasStar_22 (by decide) ?_
        refine lv_iand hx hb dX9_hasStar_23 ?_
        refine lv_iconst (v := (1 : Int32)) hx hb dX9_hasStar_24 (by decide) ?_
        refine lv_icmp_ne (tgt := 101) hx hb dX9_hasStar_25 (by decide) (fun hc22 => ?_) (fun hc22 => ?_)
        · have hf := if_f hf hc22
          exact j101 (x1) (x2) (x3) (f_X9_hasStar_b9 v_squares v_starMany v_offerMany v_offers v_stars x1 x2 x3 n9) ih (x4) (x5) (x6) ls (lv_sub hl [0, 1, 2, 3, 4, 5, 6] rfl) hf
        · have hf := if_t hf hc22
          refine lv_aload_n hx hb dX9_hasStar_28 rfl (lv_at hl 0 rfl) ?_
          refine va_get (D := G.1) (ci := 9) (v := .ref a_this_offers) (C := RX9) (T := TX9) (N := 26) hx hb hts inX9 hown hK hP 0 rfl rfl 22 (by decide) lk32 (fun _ h9 => h9) rfl dX9_hasStar_29 ?_
          refine lv_bipush (v := (6 : Int32)) hx hb dX9_hasStar_32 (by decide) ?_
          refine lv_iload hx hb dX9_hasStar_34 (lv_at hl 6 rfl) ?_
          refine lv_imul hx hb dX9_hasStar_36 ?_
          obtain ⟨hg23, hf⟩ := gd_some hf
          refine va_iald hx hb hK hP 1 0 rfl rfl (inB_in hg23) dX9_hasStar_37 ?_
          refine lv_iload_n hx hb dX9_hasStar_38 rfl (lv_at hl 2 rfl) ?_
          refine lv_icmp_ne (tgt := 101) hx hb dX9_hasStar_39 (by decide) (fun hc24 => ?_) (fun hc24 => ?_)
          · have hf := if_f hf hc24
            exact j101 (x1) (x2) (x3) (f_X9_hasStar_b9 v_squares v_starMany v_offerMany v_offers v_stars x1 x2 x3 n9) ih (x4) (x5) (x6) ls (lv_sub hl [0, 1, 2, 3, 4, 5, 6] rfl) hf
          · have hf := if_t hf hc24
            refine lv_aload_n hx hb dX9_hasStar_42 rfl (lv_at hl 0 rfl) ?_
            refine lv_iload hx hb dX9_hasStar_43 (lv_at hl 6 rfl) ?_
            refine lv_iload_n hx hb dX9_hasStar_45 rfl (lv_at hl 3 rfl) ?_
            obtain ⟨r25, hu, hf⟩ := bd1_some hf
            refine zRi (va_runV (As := [.int x6, .int x3]) (rest := []) hC (c_X9_isOffered l G a_this a_this_offers a_this_text a_this_stars a_this_purses a_this_leases a_this_s a_this_kept a_this_isKept a_this_seen (v_thrown) (v_trace) (v_typed) (v_next) (v_token) (v_place) (v_value) (v_fault) (v_squares) (v_starMany) (v_tenants) (v_draftSquares) (v_draftStars) (v_draftTenants) (v_draftLeases) (v_offerMany) (v_seenMany) (v_offers) (x6) (x3) r25 hu) (cwV 2 hts gX9_hasStar_X9_isOffered rfl rfl rfl hd_X9_isOffered ⟨(Nat.le_of_ble_eq_true rfl), (Nat.le_of_ble_eq_true rfl)⟩) (zPV hE hP [0, 1] rfl 0 rfl rfl) rfl rfl hl.1 rfl (lv_room (Nat.le_of_ble_eq_true rfl)) dX9_hasStar_46 ⟨Nat.zero_le _, Nat.zero_le _⟩) ?_
            refine lv_if_eq (tgt := 101) hx hb dX9_hasStar_49 (by decide) (fun hc26 => ?_) (fun hc26 => ?_)
            · have hf := if_t hf hc26
              exact j101 (x1) (x2) (x3) (f_X9_hasStar_b9 v_squares v_starMany v_offerMany v_offers v_stars x1 x2 x3 n9) ih (x4) (x5) (x6) ls (lv_sub hl [0, 1, 2, 3, 4, 5, 6] rfl) hf
            · have hf := if_f hf hc26
              refine lv_iconst (v := (1 : Int32)) hx hb dX9_hasStar_52 (by decide) ?_
              refine lv_istore (lv' := [(4, .int (1 : Int32)), (0, .ref a_this), (1, .int x1), (2, .int x2), (3, .int x3), (5, .int x5), (6, .int x6)]) hx hb dX9_hasStar_53 hl (by decide) rfl (fun ls hl => ?_)
              refine lv_iconst (v := (0 : Int32)) hx hb dX9_hasStar_55 (by decide) ?_
              refine lv_istore (lv' := [(7, .int (0 : Int32)), (4, .int (1 : Int32)), (0, .ref a_this), (1, .int x1), (2, .int x2), (3, .int x3), (5, .int x5), (6, .int x6)]) hx hb dX9_hasStar_56 hl (by decide) rfl (fun ls hl => ?_)
              exact j58 (x1) (x2) (x3) (f_X9_hasStar_b9 v_squares v_starMany v_offerMany v_offers v_stars x1 x2 x3 n9) ih ((1 : Int32)) (x6) zF (x5) ((0 : Int32)) ls (lv_sub hl [2, 3, 4, 5, 1, 6, 7, 0] rfl) hf
  unfold f_X9_hasStar at hf
  refine lv_iconst (v := (0 : Int32)) hx hb dX9_hasStar_0 (by decide) ?_
  refine lv_istore (lv' := [(4, .int (0 : Int32)), (0, .ref a_this), (1, .int g1), (2, .int g2), (3, .int g3)]) hx hb dX9_hasStar_1 hl (by decide) rfl (fun ls hl => ?_)
  refine lv_iconst (v := (0 : Int32)) hx hb dX9_hasStar_3 (by decide) ?_
  refine lv_istore (lv' := [(5, .int (0 : Int32)), (4, .int (0 : Int32)), (0, .ref a_this), (1, .int g1), (2, .int g2), (3, .int g3)]) hx hb dX9_hasStar_4 hl (by decide) rfl (fun ls hl => ?_)
  refine lv_iconst (v := (0 : Int32)) hx hb dX9_hasStar_6 (by decide) ?_
  refine lv_istore (lv' := [(6, .int (0 : Int32)), (5, .int (0 : Int32)), (4, .int (0 : Int32)), (0, .ref a_this), (1, .int g1), (2, .int g2), (3, .int g3)]) hx hb dX9_hasStar_7 hl (by decide) rfl (fun ls hl => ?_)
  exact j9 (g1) (g2) (g3) zF ((0 : Int32)) ((0 : Int32)) ((0 : Int32)) ls (lv_sub hl [3, 4, 5, 6, 2, 1, 0] rfl) hf
theorem hd_X9_clash : yX9_clash.cls = RX9 ∧ yX9_clash.cls ≠ "java/lang/invoke/MethodHandle" ∧ yX9_clash.cls ≠ "java/lang/invoke/VarHandle" ∧ (parseMethodDescriptor yX9_clash.desc).map (fun d => d.parameters.length) = some 2 := by decide +kernel
theorem hd_X9_hasStar : yX9_hasStar.cls = RX9 ∧ yX9_hasStar.cls ≠ "java/lang/invoke/MethodHandle" ∧ yX9_hasStar.cls ≠ "java/lang/invoke/VarHandle" ∧ (parseMethodDescriptor yX9_hasStar.desc).map (fun d => d.parameters.length) = some 3 := by decide +kernel
def f_X9_mayBeLet_b64  (k18 : Int32 → Int32 → Option (Int32))  (x6 : Int32) (t0 : Int32) : Option (Int32) := k18 (t0) ((x6 + (1 : Int32)))
def f_X9_mayBeLet_b59  (k18 : Int32 → Int32 → Option (Int32))  (x6 : Int32) : Option (Int32) := f_X9_mayBeLet_b64 k18 (x6) ((1 : Int32))
def f_X9_mayBeLet_b63  (k18 : Int32 → Int32 → Option (Int32))  (x6 : Int32) : Option (Int32) := f_X9_mayBeLet_b64 k18 (x6) ((0 : Int32))
def f_X9_mayBeLet_b18 (v_squares : Int32) (v_offers : (Nat → Int32)) (k6 : Int32 → Int32 → Option (Int32)) (x1 : Int32) (x5 : Int32) : Nat → Int32 → Int32 → Option (Int32)
  | 0, _, _ => none
  | n18 + 1, x4, x6 => if x5 ≤ x6 then (k6 (x4) ((x5 + (1 : Int32)))) else (if x4 = (0 : Int32) then (f_X9_mayBeLet_b63 (f_X9_mayBeLet_b18 v_squares v_offers k6 x1 x5 n18) (x6)) else (if ((x1 >>> (x5 &&& (31 : Int32))) &&& (1 : Int32)) = (0 : Int32) then (f_X9_mayBeLet_b59 (f_X9_mayBeLet_b18 v_squares v_offers k6 x1 x5 n18) (x6)) else (if ((x1 >>> (x6 &&& (31 : Int32))) &&& (1 : Int32)) = (0 : Int32) then (f_X9_mayBeLet_b59 (f_X9_mayBeLet_b18 v_squares v_offers k6 x1 x5 n18) (x6)) else (bd1 (f_X9_clash (v_squares) (v_offers) (x5) (x6)) fun r20 => if r20 = (0 : Int32) then (f_X9_mayBeLet_b59 (f_X9_mayBeLet_b18 v_squares v_offers k6 x1 x5 n18) (x6)) else (f_X9_mayBeLet_b63 (f_X9_mayBeLet_b18 v_squares v_offers k6 x1 x5 n18) (x6))))))
def f_X9_mayBeLet_b126  (k95 : Int32 → Int32 → Option (Int32))  (x6 : Int32) (t0 : Int32) : Option (Int32) := k95 (t0) ((x6 + (1 : Int32)))
def f_X9_mayBeLet_b125  (k95 : Int32 → Int32 → Option (Int32))  (x6 : Int32) : Option (Int32) := f_X9_mayBeLet_b126 k95 (x6) ((0 : Int32))
def f_X9_mayBeLet_b95 (v_squares : Int32) (v_starMany : Int32) (v_tenants : Int32) (v_offerMany : Int32) (v_offers : (Nat → Int32)) (v_stars : (Nat → Int32)) (k81 : Int32 → Int32 → Option (Int32)) (x1 : Int32) (x5 : Int32) : Nat → Int32 → Int32 → Option (Int32)
  | 0, _, _ => none
  | n95 + 1, x4, x6 => if v_tenants ≤ x6 then (k81 (x4) ((x5 + (1 : Int32)))) else (if x4 = (0 : Int32) then (f_X9_mayBeLet_b125 (f_X9_mayBeLet_b95 v_squares v_starMany v_tenants v_offerMany v_offers v_stars k81 x1 x5 n95) (x6)) else (bd1 (f_X9_hasStar (v_squares) (v_starMany) (v_offerMany) (v_offers) (v_stars) (x1) (x6) (x5)) fun r24 => if r24 = (0 : Int32) then (f_X9_mayBeLet_b125 (f_X9_mayBeLet_b95 v_squares v_starMany v_tenants v_offerMany v_offers v_stars k81 x1 x5 n95) (x6)) else (f_X9_mayBeLet_b126 (f_X9_mayBeLet_b95 v_squares v_starMany v_tenants v_offerMany v_offers v_stars k81 x1 x5 n95) (x6) ((1 : Int32)))))
def f_X9_mayBeLet_b81 (v_squares : Int32) (v_starMany : Int32) (v_tenants : Int32) (v_offerMany : Int32) (v_offers : (Nat → Int32)) (v_stars : (Nat → Int32))  (x1 : Int32) (x3 : Int32) : Nat → Int32 → Int32 → Option (Int32)
  | 0, _, _ => none
  | n81 + 1, x4, x5 => if x3 < x5 then (gd (bzB x4) (some (x4))) else (if x4 = (0 : Int32) then (gd (bzB x4) (some (x4))) else (f_X9_mayBeLet_b95 v_squares v_starMany v_tenants v_offerMany v_offers v_stars (f_X9_mayBeLet_b81 v_squares v_starMany v_tenants v_offerMany v_offers v_stars x1 x3 n81) (x1) (x5) zF (x4) ((0 : Int32))))
def f_X9_mayBeLet_b6 (v_squares : Int32) (v_starMany : Int32) (v_tenants : Int32) (v_offerMany : Int32) (v_offers : (Nat → Int32)) (v_stars : (Nat → Int32))  (x1 : Int32) (x2 : Int32) (x3 : Int32) : Nat → Int32 → Int32 → Option (Int32)
  | 0, _, _ => none
  | n6 + 1, x4, x5 => if v_offerMany ≤ x5 then (f_X9_mayBeLet_b81 v_squares v_starMany v_tenants v_offerMany v_offers v_stars (x1) (x3) zF (x4) (x2)) else (f_X9_mayBeLet_b18 v_squares v_offers (f_X9_mayBeLet_b6 v_squares v_starMany v_tenants v_offerMany v_offers v_stars x1 x2 x3 n6) (x1) (x5) zF (x4) ((0 : Int32)))
def f_X9_mayBeLet  (v_squares : Int32) (v_starMany : Int32) (v_tenants : Int32) (v_offerMany : Int32) (v_offers : (Nat → Int32)) (v_stars : (Nat → Int32)) (g1 : Int32) (g2 : Int32) (g3 : Int32) : Option (Int32) := f_X9_mayBeLet_b6 v_squares v_starMany v_tenants v_offerMany v_offers v_stars (g1) (g2) (g3) zF ((1 : Int32)) ((0 : Int32))
abbrev rm_X9_mayBeLet : Room := { frames := 3, cells := 0, slots := 0, locals := 72 }
set_option maxHeartbeats 4000000 in
set_option maxRecDepth 100000 in
theorem c_X9_mayBeLet (l : Launch) (G : zG) (a_this : Nat) (a_this_offers : Nat) (a_this_stars : Nat) (a_this_text : Nat) (a_this_purses : Nat) (a_this_leases : Nat) (a_this_s : Nat) (a_this_kept : Nat) (a_this_isKept : Nat) (a_this_seen : Nat) (v_thrown : Int32) (v_trace : Int64) (v_typed : Int32) (v_next : Int32) (v_token : Int32) (v_place : Int32) (v_value : Int32) (v_fault : Int32) (v_squares : Int32) (v_starMany : Int32) (v_tenants : Int32) (v_draftSquares : Int32) (v_draftStars : Int32) (v_draftTenants : Int32) (v_draftLeases : Int32) (v_offerMany : Int32) (v_seenMany : Int32) (v_offers : (Nat → Int32)) (v_stars : (Nat → Int32)) (g1 : Int32) (g2 : Int32) (g3 : Int32) (R0 : Int32) (hf : f_X9_mayBeLet v_squares v_starMany v_tenants v_offerMany v_offers v_stars g1 g2 g3 = some R0) : Met l yX9_mayBeLet wsX9_mayBeLet rm_X9_mayBeLet (va_Pc [.ref a_this, .int g1, .int g2, .int g3] (zR G [(a_this, .inr (9, [.int v_thrown, .long v_trace, .ref a_this_text, .int v_typed, .int v_next, .int v_token, .int v_place, .int v_value, .int v_fault, .int v_squares, .ref a_this_stars, .ref a_this_purses, .ref a_this_leases, .int v_starMany, .int v_tenants, .int v_draftSquares, .int v_draftStars, .int v_draftTenants, .int v_draftLeases, .ref a_this_s, .ref a_this_kept, .ref a_this_isKept, .ref a_this_offers, .int v_offerMany, .ref a_this_seen, .int v_seenMany])), (a_this_offers, .inl (G.2.1, 48, .inl v_offers)), (a_this_stars, .inl (G.2.1, 48, .inl v_stars))])) (zSv (some (.int R0))) 0 0 (fun _ => False) := by
  refine Met.ofW (cc := cX9_mayBeLet) (maxL := 7) (ret := (some .boolean)) (by decide) rfl ?_
  intro p e s m args below meth c s₁ B hml hv
  obtain ⟨hargs, hP, hE⟩ := hv
  have hx := B.exec
  have hb := B.bytes
  have hr := B.returns
  have hts := atoms_spec (ws := wsX9_mayBeLet) B.pre
  have hown : s.vm.findClass RX9 = some m.cls := findClass_of_methodNamed B.named
  have hlocks := B.notSynchronized
  have hK := hE.1
  have hC : CallFix p m c cX9_mayBeLet 7 s args wsX9_mayBeLet RX9 := ⟨hx, hb, hml, hown, hts⟩
  have inX9 : ∀ w ∈ wsX90, w ∈ wsX9_mayBeLet := by decide +kernel
  have lk121 := hts (.fieldLink RX9 121 "SkyLeasesModel" "tenants" "I") (by decide +kernel)
  have lk124 := hts (.fieldLink RX9 124 "SkyLeasesModel" "offerMany" "I") (by decide +kernel)
  have hl := lv_entry ([.ref a_this, .int g1, .int g2, .int g3]) (n := 7) (Nat.le_of_ble_eq_true rfl)
  have hent : entryFrame m args 7 = F0 m 0 ((lg_sl ([.ref a_this, .int g1, .int g2, .int g3]) ++ List.replicate (7 - (lg_sl ([.ref a_this, .int g1, .int g2, .int g3])).length) Slot.unset).toArray) [] := by rw [hargs]; exact lg_entry_eq m [.ref a_this, .int g1, .int g2, .int g3] 7
  refine W.eq hent ?_
  clear hent
  generalize (lg_sl ([.ref a_this, .int g1, .int g2, .int g3]) ++ List.replicate (7 - (lg_sl ([.ref a_this, .int g1, .int g2, .int g3])).length) Slot.unset).toArray = ls at hl ⊢
  have hl : lv_has ls 7 [(0, .ref a_this), (1, .int g1), (2, .int g2), (3, .int g3)] := hl
  generalize hQ : MQ below _ args s 0 0 _ = QQ
  change W p l e rm_X9_mayBeLet s m args below meth c s.heap [] 0 0 QQ _
  have j64 : ∀ (x1 : Int32), ∀ (x2 : Int32), ∀ (x3 : Int32), ∀ (x5 : Int32), ∀ (k18 : Int32 → Int32 → Option (Int32)), (∀ (x4 : Int32), ∀ (x6 : Int32), ∀ (ls : Array Slot), lv_has ls 7 [(0, .ref a_this), (1, .int x1), (2, .int x2), (3, .int x3), (4, .int x4), (5, .int x5), (6, .int x6)] → k18 x4 x6 = some R0 → W p l e rm_X9_mayBeLet s m args below meth c s.heap [] 0 0 QQ (F0 m 18 ls [])) → ∀ (x6 : Int32), ∀ (t0 : Int32), ∀ (ls : Array Slot), lv_has ls 7 [(0, .ref a_this), (1, .int x1), (2, .int x2), (3, .int x3), (5, .int x5), (6, .int x6)] → f_X9_mayBeLet_b64 k18 x6 t0 = some R0 → W p l e rm_X9_mayBeLet s m args below meth c s.heap [] 0 0 QQ (F0 m 64 ls [.int t0]) := by
    intro x1 x2 x3 x5 k18 hk18 x6 t0 ls hl hf
    unfold f_X9_mayBeLet_b64 at hf
    refine lv_istore (lv' := [(4, .int t0), (0, .ref a_this), (1, .int x1), (2, .int x2), (3, .int x3), (5, .int x5), (6, .int x6)]) hx hb dX9_mayBeLet_64 hl (by decide) rfl (fun ls hl => ?_)
    refine lv_iinc (v := (x6 + (1 : Int32))) (lv' := [(6, .int (x6 + (1 : Int32))), (4, .int t0), (0, .ref a_this), (1, .int x1), (2, .int x2), (3, .int x3), (5, .int x5)]) hx hb dX9_mayBeLet_66 hl (k := 6) rfl rfl (by decide) rfl (fun ls hl => ?_)
    refine lv_goto (tgt := 18) hx hb dX9_mayBeLet_69 (by decide) ?_
    exact hk18 (t0) ((x6 + (1 : Int32))) ls (lv_sub hl [2, 3, 4, 5, 1, 6, 0] rfl) hf
  have j59 : ∀ (x1 : Int32), ∀ (x2 : Int32), ∀ (x3 : Int32), ∀ (x5 : Int32), ∀ (k18 : Int32 → Int32 → Option (Int32)), (∀ (x4 : Int32), ∀ (x6 : Int32), ∀ (ls : Array Slot), lv_has ls 7 [(0, .ref a_this), (1, .int x1), (2, .int x2), (3, .int x3), (4, .int x4), (5, .int x5), (6, .int x6)] → k18 x4 x6 = some R0 → W p l e rm_X9_mayBeLet s m args below meth c s.heap [] 0 0 QQ (F0 m 18 ls [])) → ∀ (x6 : Int32), ∀ (ls : Array Slot), lv_has ls 7 [(0, .ref a_this), (1, .int x1), (2, .int x2), (3, .int x3), (5, .int x5), (6, .int x6)] → f_X9_mayBeLet_b59 k18 x6 = some R0 → W p l e rm_X9_mayBeLet s m args below meth c s.heap [] 0 0 QQ (F0 m 59 ls []) := by
    intro x1 x2 x3 x5 k18 hk18 x6 ls hl hf
    unfold f_X9_mayBeLet_b59 at hf
    refine lv_iconst (v := (1 : Int32)) hx hb dX9_mayBeLet_59 (by decide) ?_
    refine lv_goto (tgt := 64) hx hb dX9_mayBeLet_60 (by decide) ?_
    exact j64 (x1) (x2) (x3) (x5) k18 hk18 (x6) ((1 : Int32)) ls (lv_sub hl [0, 1, 2, 3, 4, 5] rfl) hf
  have j63 : ∀ (x1 : Int32), ∀ (x2 : Int32), ∀ (x3 : Int32), ∀ (x5 : Int32), ∀ (k18 : Int32 → Int32 → Option (Int32)), (∀ (x4 : Int32), ∀ (x6 : Int32), ∀ (ls : Array Slot), lv_has ls 7 [(0, .ref a_this), (1, .int x1), (2, .int x2), (3, .int x3), (4, .int x4), (5, .int x5), (6, .int x6)] → k18 x4 x6 = some R0 → W p l e rm_X9_mayBeLet s m args below meth c s.heap [] 0 0 QQ (F0 m 18 ls [])) → ∀ (x6 : Int32), ∀ (ls : Array Slot), lv_has ls 7 [(0, .ref a_this), (1, .int x1), (2, .int x2), (3, .int x3), (5, .int x5), (6, .int x6)] → f_X9_mayBeLet_b63 k18 x6 = some R0 → W p l e rm_X9_mayBeLet s m args below meth c s.heap [] 0 0 QQ (F0 m 63 ls []) := by
    intro x1 x2 x3 x5 k18 hk18 x6 ls hl hf
    unfold f_X9_mayBeLet_b63 at hf
    refine lv_iconst (v := (0 : Int32)) hx hb dX9_mayBeLet_63 (by decide) ?_
    exact j64 (x1) (x2) (x3) (x5) k18 hk18 (x6) ((0 : Int32)) ls (lv_sub hl [0, 1, 2, 3, 4, 5] rfl) hf
  have j18 : ∀ (x1 : Int32), ∀ (x2 : Int32), ∀ (x3 : Int32), ∀ (k6 : Int32 → Int32 → Option (Int32)), (∀ (x4 : Int32), ∀ (x5 : Int32), ∀ (ls : Array Slot), lv_has ls 7 [(0, .ref a_this), (1, .int x1), (2, .int x2), (3, .int x3), (4, .int x4), (5, .int x5)] → k6 x4 x5 = some R0 → W p l e rm_X9_mayBeLet s m args below meth c s.heap [] 0 0 QQ (F0 m 6 ls [])) → ∀ (x5 : Int32), ∀ (nn : Nat), ∀ (x4 : Int32), ∀ (x6 : Int32), ∀ (ls : Array Slot), lv_has ls 7 [(0, .ref a_this), (1, .int x1), (2, .int x2), (3, .int x3), (4, .int x4), (5, .int x5), (6, .int x6)] → f_X9_mayBeLet_b18 v_squares v_offers k6 x1 x5 nn x4 x6 = some R0 → W p l e rm_X9_mayBeLet s m args below meth c s.heap [] 0 0 QQ (F0 m 18 ls []) := by
    intro x1 x2 x3 k6 hk6 x5
    intro nn
    induction nn with
    | zero =>
      intro x4 x6 ls hl hf
      rw [f_X9_mayBeLet_b18] at hf
      cases hf
    | succ n18 ih =>
      intro x4 x6 ls hl hf
      rw [f_X9_mayBeLet_b18] at hf
      refine lv_iload hx hb dX9_mayBeLet_18 (lv_at hl 6 rfl) ?_
      refine lv_iload hx hb dX9_mayBeLet_20 (lv_at hl 5 rfl) ?_
      refine lv_icmp_ge (tgt := 72) hx hb dX9_mayBeLet_22 (by decide) (fun hc16 => ?_) (fun hc16 => ?_)
      · have hf := if_t hf hc16
        refine lv_iinc (v := (x5 + (1 : Int32))) (lv' := [(5, .int (x5 + (1 : Int32))), (0, .ref a_this), (1, .int x1), (2, .int x2), (3, .int x3), (4, .int x4), (6, .int x6)]) hx hb dX9_mayBeLet_72 hl (k := 5) rfl rfl (by decide) rfl (fun ls hl => ?_)
        refine lv_goto (tgt := 6) hx hb dX9_mayBeLet_75 (by decide) ?_
        exact hk6 (x4) ((x5 + (1 : Int32))) ls (lv_sub hl [1, 2, 3, 4, 5, 0] rfl) hf
      · have hf := if_f hf hc16
        refine lv_iload hx hb dX9_mayBeLet_25 (lv_at hl 4 rfl) ?_
        refine lv_if_eq (tgt := 63) hx hb dX9_mayBeLet_27 (by decide) (fun hc17 => ?_) (fun hc17 => ?_)
        · have hf := if_t hf hc17
          exact j63 (x1) (x2) (x3) (x5) (f_X9_mayBeLet_b18 v_squares v_offers k6 x1 x5 n18) ih (x6) ls (lv_sub hl [0, 1, 2, 3, 5, 6] rfl) hf
        · have hf := if_f hf hc17
          refine lv_iload_n hx hb dX9_mayBeLet_30 rfl (lv_at hl 1 rfl) ?_
          refine lv_iload hx hb dX9_mayBeLet_31 (lv_at hl 5 rfl) ?_
          refine lv_ishr hx hb dX9_mayBeLet_33 ?_
          refine lv_iconst (v := (1 : Int32)) hx hb dX9_mayBeLet_34 (by decide) ?_
          refine lv_iand hx hb dX9_mayBeLet_35 ?_
          refine lv_if_eq (tgt := 59) hx hb dX9_mayBeLet_36 (by decide) (fun hc18 => ?_) (fun hc18 => ?_)
          · have hf := if_t hf hc18
            exact j59 (x1) (x2) (x3) (x5) (f_X9_mayBeLet_b18 v_squares v_offers k6 x1 x5 n18) ih (x6) ls (lv_sub hl [0, 1, 2, 3, 5, 6] rfl) hf
          · have hf := if_f hf hc18
            refine lv_iload_n hx hb dX9_mayBeLet_39 rfl (lv_at hl 1 rfl) ?_
            refine lv_iload hx hb dX9_mayBeLet_40 (lv_at hl 6 rfl) ?_
            refine lv_ishr hx hb dX9_mayBeLet_42 ?_
            refine lv_iconst (v := (1 : Int32)) hx hb dX9_mayBeLet_43 (by decide) ?_
            refine lv_iand hx hb dX9_mayBeLet_44 ?_
            refine lv_if_eq (tgt := 59) hx hb dX9_mayBeLet_45 (by decide) (fun hc19 => ?_) (fun hc19 => ?_)
            · have hf := if_t hf hc19
              exact j59 (x1) (x2) (x3) (x5) (f_X9_mayBeLet_b18 v_squares v_offers k6 x1 x5 n18) ih (x6) ls (lv_sub hl [0, 1, 2, 3, 5, 6] rfl) hf
            · have hf := if_f hf hc19
              refine lv_aload_n hx hb dX9_mayBeLet_48 rfl (lv_at hl 0 rfl) ?_
              refine lv_iload hx hb dX9_mayBeLet_49 (lv_at hl 5 rfl) ?_
              refine lv_iload hx hb dX9_mayBeLet_51 (lv_at hl 6 rfl) ?_
              obtain ⟨r20, hu, hf⟩ := bd1_some hf
              refine zRi (va_runV (As := [.int x5, .int x6]) (rest := []) hC (c_X9_clash l G a_this a_this_offers a_this_text a_this_stars a_this_purses a_this_leases a_this_s a_this_kept a_this_isKept a_this_seen (v_thrown) (v_trace) (v_typed) (v_next) (v_token) (v_place) (v_value) (v_fault) (v_squares) (v_starMany) (v_tenants) (v_draftSquares) (v_draftStars) (v_draftTenants) (v_draftLeases) (v_offerMany) (v_seenMany) (v_offers) (x5) (x6) r20 hu) (cwV 2 hts gX9_mayBeLet_X9_clash rfl rfl rfl hd_X9_clash ⟨(Nat.le_of_ble_eq_true rfl), (Nat.le_of_ble_eq_true rfl)⟩) (zPV hE hP [0, 1] rfl 0 rfl rfl) rfl rfl hl.1 rfl (lv_room (Nat.le_of_ble_eq_true rfl)) dX9_mayBeLet_53 ⟨Nat.zero_le _, Nat.zero_le _⟩) ?_
              refine lv_if_ne (tgt := 63) hx hb dX9_mayBeLet_56 (by decide) (fun hc21 => ?_) (fun hc21 => ?_)
              · have hf := if_f hf hc21
                exact j63 (x1) (x2) (x3) (x5) (f_X9_mayBeLet_b18 v_squares v_offers k6 x1 x5 n18) ih (x6) ls (lv_sub hl [0, 1, 2, 3, 5, 6] rfl) hf
              · have hf := if_t hf hc21
                exact j59 (x1) (x2) (x3) (x5) (f_X9_mayBeLet_b18 v_squares v_offers k6 x1 x5 n18) ih (x6) ls (lv_sub hl [0, 1, 2, 3, 5, 6] rfl) hf
  have j126 : ∀ (x1 : Int32), ∀ (x3 : Int32), ∀ (x5 : Int32), ∀ (k95 : Int32 → Int32 → Option (Int32)), (∀ (x4 : Int32), ∀ (x6 : Int32), ∀ (ls : Array Slot), lv_has ls 7 [(0, .ref a_this), (1, .int x1), (3, .int x3), (4, .int x4), (5, .int x5), (6, .int x6)] → k95 x4 x6 = some R0 → W p l e rm_X9_mayBeLet s m args below meth c s.heap [] 0 0 QQ (F0 m 95 ls [])) → ∀ (x6 : Int32), ∀ (t0 : Int32), ∀ (ls : Array Slot), lv_has ls 7 [(0, .ref a_this), (1, .int x1), (3, .int x3), (5, .int x5), (6, .int x6)] → f_X9_mayBeLet_b126 k95 x6 t0 = some R0 → W p l e rm_X9_mayBeLet s m args below meth c s.heap [] 0 0 QQ (F0 m 126 ls [.int t0]) := by
    intro x1 x3 x5 k95 hk95 x6 t0 ls hl hf
    unfold f_X9_mayBeLet_b126 at hf
    refine lv_istore (lv' := [(4, .int t0), (0, .ref a_this), (1, .int x1), (3, .int x3), (5, .int x5), (6, .int x6)]) hx hb dX9_mayBeLet_126 hl (by decide) rfl (fun ls hl => ?_)
    refine lv_iinc (v := (x6 + (1 : Int32))) (lv' := [(6, .int (x6 + (1 : Int32))), (4, .int t0), (0, .ref a_this), (1, .int x1), (3, .int x3), (5, .int x5)]) hx hb dX9_mayBeLet_128 hl (k := 5) rfl rfl (by decide) rfl (fun ls hl => ?_)
    refine lv_goto (tgt := 95) hx hb dX9_mayBeLet_131 (by decide) ?_
    exact hk95 (t0) ((x6 + (1 : Int32))) ls (lv_sub hl [2, 3, 4, 1, 5, 0] rfl) hf
  have j125 : ∀ (x1 : Int32), ∀ (x3 : Int32), ∀ (x5 : Int32), ∀ (k95 : Int32 → Int32 → Option (Int32)), (∀ (x4 : Int32), ∀ (x6 : Int32), ∀ (ls : Array Slot), lv_has ls 7 [(0, .ref a_this), (1, .int x1), (3, .int x3), (4, .int x4), (5, .int x5), (6, .int x6)] → k95 x4 x6 = some R0 → W p l e rm_X9_mayBeLet s m args below meth c s.heap [] 0 0 QQ (F0 m 95 ls [])) → ∀ (x6 : Int32), ∀ (ls : Array Slot), lv_has ls 7 [(0, .ref a_this), (1, .int x1), (3, .int x3), (5, .int x5), (6, .int x6)] → f_X9_mayBeLet_b125 k95 x6 = some R0 → W p l e rm_X9_mayBeLet s m args below meth c s.heap [] 0 0 QQ (F0 m 125 ls []) := by
    intro x1 x3 x5 k95 hk95 x6 ls hl hf
    unfold f_X9_mayBeLet_b125 at hf
    refine lv_iconst (v := (0 : Int32)) hx hb dX9_mayBeLet_125 (by decide) ?_
    exact j126 (x1) (x3) (x5) k95 hk95 (x6) ((0 : Int32)) ls (lv_sub hl [0, 1, 2, 3, 4] rfl) hf
  have j95 : ∀ (x1 : Int32), ∀ (x3 : Int32), ∀ (k81 : Int32 → Int32 → Option (Int32)), (∀ (x4 : Int32), ∀ (x5 : Int32), ∀ (ls : Array Slot), lv_has ls 7 [(0, .ref a_this), (1, .int x1), (3, .int x3), (4, .int x4), (5, .int x5)] → k81 x4 x5 = some R0 → W p l e rm_X9_mayBeLet s m args below meth c s.heap [] 0 0 QQ (F0 m 81 ls [])) → ∀ (x5 : Int32), ∀ (nn : Nat), ∀ (x4 : Int32), ∀ (x6 : Int32), ∀ (ls : Array Slot), lv_has ls 7 [(0, .ref a_this), (1, .int x1), (3, .int x3), (4, .int x4), (5, .int x5), (6, .int x6)] → f_X9_mayBeLet_b95 v_squares v_starMany v_tenants v_offerMany v_offers v_stars k81 x1 x5 nn x4 x6 = some R0 → W p l e rm_X9_mayBeLet s m args below meth c s.heap [] 0 0 QQ (F0 m 95 ls []) := by
    intro x1 x3 k81 hk81 x5
    intro nn
    induction nn with
    | zero =>
      intro x4 x6 ls hl hf
      rw [f_X9_mayBeLet_b95] at hf
      cases hf
    | succ n95 ih =>
      intro x4 x6 ls hl hf
      rw [f_X9_mayBeLet_b95] at hf
      refine lv_iload hx hb dX9_mayBeLet_95 (lv_at hl 5 rfl) ?_
      refine lv_aload_n hx hb dX9_mayBeLet_97 rfl (lv_at hl 0 rfl) ?_
      refine va_get (D := G.1) (ci := 9) (v := .int v_tenants) (C := RX9) (T := TX9) (N := 26) hx hb hts inX9 hown hK hP 0 rfl rfl 14 (by decide) lk121 (fun _ h9 => h9) rfl dX9_mayBeLet_98 ?_
      refine lv_icmp_ge (tgt := 134) hx hb dX9_mayBeLet_101 (by decide) (fun hc22 => ?_) (fun hc22 => ?_)
      · have hf := if_t hf hc22
        refine lv_iinc (v := (x5 + (1 : Int32))) (lv' := [(5, .int (x5 + (1 : Int32))), (0, .ref a_this), (1, .int x1), (3, .int x3), (4, .int x4), (6, .int x6)]) hx hb dX9_mayBeLet_134 hl (k := 4) rfl rfl (by decide) rfl (fun ls hl => ?_)
        refine lv_goto (tgt := 81) hx hb dX9_mayBeLet_137 (by decide) ?_
        exact hk81 (x4) ((x5 + (1 : Int32))) ls (lv_sub hl [1, 2, 3, 4, 0] rfl) hf
      · have hf := if_f hf hc22
        refine lv_iload hx hb dX9_mayBeLet_104 (lv_at hl 3 rfl) ?_
        refine lv_if_eq (tgt := 125) hx hb dX9_mayBeLet_106 (by decide) (fun hc23 => ?_) (fun hc23 => ?_)
        · have hf := if_t hf hc23
          exact j125 (x1) (x3) (x5) (f_X9_mayBeLet_b95 v_squares v_starMany v_tenants v_offerMany v_offers v_stars k81 x1 x5 n95) ih (x6) ls (lv_sub hl [0, 1, 2, 4, 5] rfl) hf
        · have hf := if_f hf hc23
          refine lv_aload_n hx hb dX9_mayBeLet_109 rfl (lv_at hl 0 rfl) ?_
          refine lv_iload_n hx hb dX9_mayBeLet_110 rfl (lv_at hl 1 rfl) ?_
          refine lv_iload hx hb dX9_mayBeLet_111 (lv_at hl 5 rfl) ?_
          refine lv_iload hx hb dX9_mayBeLet_113 (lv_at hl 4 rfl) ?_
          obtain ⟨r24, hu, hf⟩ := bd1_some hf
          refine zRi (va_runV (As := [.int x1, .int x6, .int x5]) (rest := []) hC (c_X9_hasStar l G a_this a_this_offers a_this_stars a_this_text a_this_purses a_this_leases a_this_s a_this_kept a_this_isKept a_this_seen (v_thrown) (v_trace) (v_typed) (v_next) (v_token) (v_place) (v_value) (v_fault) (v_squares) (v_starMany) (v_tenants) (v_draftSquares) (v_draftStars) (v_draftTenants) (v_draftLeases) (v_offerMany) (v_seenMany) (v_offers) (v_stars) (x1) (x6) (x5) r24 hu) (cwV 3 hts gX9_mayBeLet_X9_hasStar rfl rfl rfl hd_X9_hasStar ⟨(Nat.le_of_ble_eq_true rfl), (Nat.le_of_ble_eq_true rfl)⟩) (zPV hE hP [0, 1, 2] rfl 0 rfl rfl) rfl rfl hl.1 rfl (lv_room (Nat.le_of_ble_eq_true rfl)) dX9_mayBeLet_115 ⟨Nat.zero_le _, Nat.zero_le _⟩) ?_
          refine lv_if_eq (tgt := 125) hx hb dX9_mayBeLet_118 (by decide) (fun hc25 => ?_) (fun hc25 => ?_)
          · have hf := if_t hf hc25
            exact j125 (x1) (x3) (x5) (f_X9_mayBeLet_b95 v_squares v_starMany v_tenants v_offerMany v_offers v_stars k81 x1 x5 n95) ih (x6) ls (lv_sub hl [0, 1, 2, 4, 5] rfl) hf
          · have hf := if_f hf hc25
            refine lv_iconst (v := (1 : Int32)) hx hb dX9_mayBeLet_121 (by decide) ?_
            refine lv_goto (tgt := 126) hx hb dX9_mayBeLet_122 (by decide) ?_
            exact j126 (x1) (x3) (x5) (f_X9_mayBeLet_b95 v_squares v_starMany v_tenants v_offerMany v_offers v_stars k81 x1 x5 n95) ih (x6) ((1 : Int32)) ls (lv_sub hl [0, 1, 2, 4, 5] rfl) hf
  have j81 : ∀ (x1 : Int32), ∀ (x3 : Int32), ∀ (nn : Nat), ∀ (x4 : Int32), ∀ (x5 : Int32), ∀ (ls : Array Slot), lv_has ls 7 [(0, .ref a_this), (1, .int x1), (3, .int x3), (4, .int x4), (5, .int x5)] → f_X9_mayBeLet_b81 v_squares v_starMany v_tenants v_offerMany v_offers v_stars x1 x3 nn x4 x5 = some R0 → W p l e rm_X9_mayBeLet s m args below meth c s.heap [] 0 0 QQ (F0 m 81 ls []) := by
    intro x1 x3
    intro nn
    induction nn with
    | zero =>
      intro x4 x5 ls hl hf
      rw [f_X9_mayBeLet_b81] at hf
      cases hf
    | succ n81 ih =>
      intro x4 x5 ls hl hf
      rw [f_X9_mayBeLet_b81] at hf
      refine lv_iload hx hb dX9_mayBeLet_81 (lv_at hl 4 rfl) ?_
      refine lv_iload_n hx hb dX9_mayBeLet_83 rfl (lv_at hl 2 rfl) ?_
      refine lv_icmp_gt (tgt := 140) hx hb dX9_mayBeLet_84 (by decide) (fun hc26 => ?_) (fun hc26 => ?_)
      · have hf := if_t hf hc26
        refine lv_iload hx hb dX9_mayBeLet_140 (lv_at hl 3 rfl) ?_
        obtain ⟨hg27, hf⟩ := gd_some hf
        have hr0 := so1 hf
        subst hr0
        rw [← hQ]
        exact W.zret (v := x4) hx hb hr (bzB_nar hg27) (fun t ht hW => ⟨rfl, ht⟩) (fun _ h => by cases h) dX9_mayBeLet_142
      · have hf := if_f hf hc26
        refine lv_iload hx hb dX9_mayBeLet_87 (lv_at hl 3 rfl) ?_
        refine lv_if_eq (tgt := 140) hx hb dX9_mayBeLet_89 (by decide) (fun hc28 => ?_) (fun hc28 => ?_)
        · have hf := if_t hf hc28
          refine lv_iload hx hb dX9_mayBeLet_140 (lv_at hl 3 rfl) ?_
          obtain ⟨hg29, hf⟩ := gd_some hf
          have hr0 := so1 hf
          subst hr0
          rw [← hQ]
          exact W.zret (v := x4) hx hb hr (bzB_nar hg29) (fun t ht hW => ⟨rfl, ht⟩) (fun _ h => by cases h) dX9_mayBeLet_142
        · have hf := if_f hf hc28
          refine lv_iconst (v := (0 : Int32)) hx hb dX9_mayBeLet_92 (by decide) ?_
          refine lv_istore (lv' := [(6, .int (0 : Int32)), (0, .ref a_this), (1, .int x1), (3, .int x3), (4, .int x4), (5, .int x5)]) hx hb dX9_mayBeLet_93 hl (by decide) rfl (fun ls hl => ?_)
          exact j95 (x1) (x3) (f_X9_mayBeLet_b81 v_squares v_starMany v_tenants v_offerMany v_offers v_stars x1 x3 n81) ih (x5) zF (x4) ((0 : Int32)) ls (lv_sub hl [1, 2, 3, 4, 5, 0] rfl) hf
  have j6 : ∀ (x1 : Int32), ∀ (x2 : Int32), ∀ (x3 : Int32), ∀ (nn : Nat), ∀ (x4 : Int32), ∀ (x5 : Int32), ∀ (ls : Array Slot), lv_has ls 7 [(0, .ref a_this), (1, .int x1), (2, .int x2), (3, .int x3), (4, .int x4), (5, .int x5)] → f_X9_mayBeLet_b6 v_squares v_starMany v_tenants v_offerMany v_offers v_stars x1 x2 x3 nn x4 x5 = some R0 → W p l e rm_X9_mayBeLet s m args below meth c s.heap [] 0 0 QQ (F0 m 6 ls []) := by
    intro x1 x2 x3
    intro nn
    induction nn with
    | zero =>
      intro x4 x5 ls hl hf
      rw [f_X9_mayBeLet_b6] at hf
      cases hf
    | succ n6 ih =>
      intro x4 x5 ls hl hf
      rw [f_X9_mayBeLet_b6] at hf
      refine lv_iload hx hb dX9_mayBeLet_6 (lv_at hl 5 rfl) ?_
      refine lv_aload_n hx hb dX9_mayBeLet_8 rfl (lv_at hl 0 rfl) ?_
      refine va_get (D := G.1) (ci := 9) (v := .int v_offerMany) (C := RX9) (T := TX9) (N := 26) hx hb hts inX9 hown hK hP 0 rfl rfl 23 (by decide) lk124 (fun _ h9 => h9) rfl dX9_mayBeLet_9 ?_
      refine lv_icmp_ge (tgt := 78) hx hb dX9_mayBeLet_12 (by decide) (fun hc30 => ?_) (fun hc30 => ?_)
      · have hf := if_t hf hc30
        refine lv_iload_n hx hb dX9_mayBeLet_78 rfl (lv_at hl 2 rfl) ?_
        refine lv_istore (lv' := [(5, .int x2), (0, .ref a_this), (1, .int x1), (2, .int x2), (3, .int x3), (4, .int x4)]) hx hb dX9_mayBeLet_79 hl (by decide) rfl (fun ls hl => ?_)
        exact j81 (x1) (x3) zF (x4) (x2) ls (lv_sub hl [1, 2, 4, 5, 0] rfl) hf
      · have hf := if_f hf hc30
        refine lv_iconst (v := (0 : Int32)) hx hb dX9_mayBeLet_15 (by decide) ?_
        refine lv_istore (lv' := [(6, .int (0 : Int32)), (0, .ref a_this), (1, .int x1), (2, .int x2), (3, .int x3), (4, .int x4), (5, .int x5)]) hx hb dX9_mayBeLet_16 hl (by decide) rfl (fun ls hl => ?_)
        exact j18 (x1) (x2) (x3) (f_X9_mayBeLet_b6 v_squares v_starMany v_tenants v_offerMany v_offers v_stars x1 x2 x3 n6) ih (x5) zF (x4) ((0 : Int32)) ls (lv_sub hl [1, 2, 3, 4, 5, 6, 0] rfl) hf
  unfold f_X9_mayBeLet at hf
  refine lv_iconst (v := (1 : Int32)) hx hb dX9_mayBeLet_0 (by decide) ?_
  refine lv_istore (lv' := [(4, .int (1 : Int32)), (0, .ref a_this), (1, .int g1), (2, .int g2), (3, .int g3)]) hx hb dX9_mayBeLet_1 hl (by decide) rfl (fun ls hl => ?_)
  refine lv_iconst (v := (0 : Int32)) hx hb dX9_mayBeLet_3 (by decide) ?_
  refine lv_istore (lv' := [(5, .int (0 : Int32)), (4, .int (1 : Int32)), (0, .ref a_this), (1, .int g1), (2, .int g2), (3, .int g3)]) hx hb dX9_mayBeLet_4 hl (by decide) rfl (fun ls hl => ?_)
  exact j6 (g1) (g2) (g3) zF ((1 : Int32)) ((0 : Int32)) ls (lv_sub hl [2, 3, 4, 5, 1, 0] rfl) hf
theorem hd_X9_mayBeLet : yX9_mayBeLet.cls = RX9 ∧ yX9_mayBeLet.cls ≠ "java/lang/invoke/MethodHandle" ∧ yX9_mayBeLet.cls ≠ "java/lang/invoke/VarHandle" ∧ (parseMethodDescriptor yX9_mayBeLet.desc).map (fun d => d.parameters.length) = some 3 := by decide +kernel
def f_X9_letting_b97  (k59 : Int32 → Int32 → Option (Int32 × Int32))  (x8 : Int32) (t0 : Int32) (t1 : Int32) : Option (Int32 × Int32) := k59 ((t0 + t1)) ((x8 + (1 : Int32)))
def f_X9_letting_b132  (k42 : Int32 → Int32 → Int32 → Option (Int32 × Int32))  (x4 : Int32) (x5 : Int32) (x6 : Int32) : Option (Int32 × Int32) := k42 (x4) (x5) ((x6 + (1 : Int32)))
def f_X9_letting_b59 (v_squares : Int32) (v_starMany : Int32) (v_tenants : Int32) (v_offerMany : Int32) (v_offers : (Nat → Int32)) (v_stars : (Nat → Int32)) (k42 : Int32 → Int32 → Int32 → Option (Int32 × Int32)) (x1 : Int32) (x2 : Int32) (x4 : Int32) (x5 : Int32) (x6 : Int32) : Nat → Int32 → Int32 → Option (Int32 × Int32)
  | 0, _, _ => none
  | n59 + 1, x7, x8 => if v_offerMany ≤ x8 then (if x7 ≤ x5 then (f_X9_letting_b132 k42 (x4) (x5) (x6)) else (bd1 (f_X9_mayBeLet (v_squares) (v_starMany) (v_tenants) (v_offerMany) (v_offers) (v_stars) (x6) (x1) (x2)) fun r17 => if r17 = (0 : Int32) then (f_X9_letting_b132 k42 (x4) (x5) (x6)) else (f_X9_letting_b132 k42 (x6) (x7) (x6)))) else (if ((x6 >>> (x8 &&& (31 : Int32))) &&& (1 : Int32)) = (1 : Int32) then (gd (inB (((6 : Int32) * x8) + (5 : Int32)) 48) (f_X9_letting_b97 (f_X9_letting_b59 v_squares v_starMany v_tenants v_offerMany v_offers v_stars k42 x1 x2 x4 x5 x6 n59) (x8) (x7) ((v_offers ((((6 : Int32) * x8) + (5 : Int32))).toNatClampNeg)))) else (f_X9_letting_b97 (f_X9_letting_b59 v_squares v_starMany v_tenants v_offerMany v_offers v_stars k42 x1 x2 x4 x5 x6 n59) (x8) (x7) ((0 : Int32))))
def f_X9_letting_b42 (v_squares : Int32) (v_starMany : Int32) (v_tenants : Int32) (v_offerMany : Int32) (v_offers : (Nat → Int32)) (v_stars : (Nat → Int32))  (x1 : Int32) (x2 : Int32) (x3 : Int32) (v_thrown : Int32) : Nat → Int32 → Int32 → Int32 → Option (Int32 × Int32)
  | 0, _, _, _ => none
  | n42 + 1, x4, x5, x6 => if ((1 : Int32) <<< (v_offerMany &&& (31 : Int32))) ≤ x6 then (if x3 = (0 : Int32) then (some (x5, v_thrown)) else (some (x4, v_thrown))) else (f_X9_letting_b59 v_squares v_starMany v_tenants v_offerMany v_offers v_stars (f_X9_letting_b42 v_squares v_starMany v_tenants v_offerMany v_offers v_stars x1 x2 x3 v_thrown n42) (x1) (x2) (x4) (x5) (x6) zF ((0 : Int32)) ((0 : Int32)))
def f_X9_letting  (v_thrown : Int32) (v_squares : Int32) (v_starMany : Int32) (v_tenants : Int32) (v_offerMany : Int32) (v_offers : (Nat → Int32)) (v_stars : (Nat → Int32)) (g1 : Int32) (g2 : Int32) (g3 : Int32) : Option (Int32 × Int32) := bd1 (f_X9_isNight (g1)) fun r23 => if r23 = (0 : Int32) then (some ((-1 : Int32), (0 : Int32))) else (bd1 (f_X9_in (g2) (g1) ((99 : Int32))) fun r25 => if r25 = (0 : Int32) then (some ((-1 : Int32), (0 : Int32))) else (bd1 (f_X9_in (g3) ((0 : Int32)) ((1 : Int32))) fun r27 => if r27 = (0 : Int32) then (some ((-1 : Int32), (0 : Int32))) else (f_X9_letting_b42 v_squares v_starMany v_tenants v_offerMany v_offers v_stars (g1) (g2) (g3) ((0 : Int32)) zF ((0 : Int32)) ((0 : Int32)) ((1 : Int32)))))
abbrev rm_X9_letting : Room := { frames := 4, cells := 0, slots := 0, locals := 98 }
set_option maxHeartbeats 4000000 in
set_option maxRecDepth 100000 in
theorem c_X9_letting (l : Launch) (G : zG) (sz : Nat) (a_this : Nat) (a_this_offers : Nat) (a_this_stars : Nat) (a_this_text : Nat) (a_this_purses : Nat) (a_this_leases : Nat) (a_this_s : Nat) (a_this_kept : Nat) (a_this_isKept : Nat) (a_this_seen : Nat) (v_thrown : Int32) (v_trace : Int64) (v_typed : Int32) (v_next : Int32) (v_token : Int32) (v_place : Int32) (v_value : Int32) (v_fault : Int32) (v_squares : Int32) (v_starMany : Int32) (v_tenants : Int32) (v_draftSquares : Int32) (v_draftStars : Int32) (v_draftTenants : Int32) (v_draftLeases : Int32) (v_offerMany : Int32) (v_seenMany : Int32) (v_offers : (Nat → Int32)) (v_stars : (Nat → Int32)) (g1 : Int32) (g2 : Int32) (g3 : Int32) (R0 : Int32) (R1 : Int32) (hf : f_X9_letting v_thrown v_squares v_starMany v_tenants v_offerMany v_offers v_stars g1 g2 g3 = some (R0, R1)) : Met l yX9_letting wsX9_letting rm_X9_letting (va_Pc [.ref a_this, .int g1, .int g2, .int g3] (zB G [(a_this, .inr (9, [.int v_thrown, .long v_trace, .ref a_this_text, .int v_typed, .int v_next, .int v_token, .int v_place, .int v_value, .int v_fault, .int v_squares, .ref a_this_stars, .ref a_this_purses, .ref a_this_leases, .int v_starMany, .int v_tenants, .int v_draftSquares, .int v_draftStars, .int v_draftTenants, .int v_draftLeases, .ref a_this_s, .ref a_this_kept, .ref a_this_isKept, .ref a_this_offers, .int v_offerMany, .ref a_this_seen, .int v_seenMany])), (a_this_offers, .inl (G.2.1, 48, .inl v_offers)), (a_this_stars, .inl (G.2.1, 48, .inl v_stars))] sz)) (zQ G (some (.int R0)) [(a_this, .inr (9, [.int R1, .long v_trace, .ref a_this_text, .int v_typed, .int v_next, .int v_token, .int v_place, .int v_value, .int v_fault, .int v_squares, .ref a_this_stars, .ref a_this_purses, .ref a_this_leases, .int v_starMany, .int v_tenants, .int v_draftSquares, .int v_draftStars, .int v_draftTenants, .int v_draftLeases, .ref a_this_s, .ref a_this_kept, .ref a_this_isKept, .ref a_this_offers, .int v_offerMany, .ref a_this_seen, .int v_seenMany])), (a_this_offers, .inl (G.2.1, 48, .inl v_offers)), (a_this_stars, .inl (G.2.1, 48, .inl v_stars))] (va_A [(a_this, .inr (9, [.int v_thrown, .long v_trace, .ref a_this_text, .int v_typed, .int v_next, .int v_token, .int v_place, .int v_value, .int v_fault, .int v_squares, .ref a_this_stars, .ref a_this_purses, .ref a_this_leases, .int v_starMany, .int v_tenants, .int v_draftSquares, .int v_draftStars, .int v_draftTenants, .int v_draftLeases, .ref a_this_s, .ref a_this_kept, .ref a_this_isKept, .ref a_this_offers, .int v_offerMany, .ref a_this_seen, .int v_seenMany])), (a_this_offers, .inl (G.2.1, 48, .inl v_offers)), (a_this_stars, .inl (G.2.1, 48, .inl v_stars))] sz)) 0 0 (va_A [(a_this, .inr (9, [.int v_thrown, .long v_trace, .ref a_this_text, .int v_typed, .int v_next, .int v_token, .int v_place, .int v_value, .int v_fault, .int v_squares, .ref a_this_stars, .ref a_this_purses, .ref a_this_leases, .int v_starMany, .int v_tenants, .int v_draftSquares, .int v_draftStars, .int v_draftTenants, .int v_draftLeases, .ref a_this_s, .ref a_this_kept, .ref a_this_isKept, .ref a_this_offers, .int v_offerMany, .ref a_this_seen, .int v_seenMany])), (a_this_offers, .inl (G.2.1, 48, .inl v_offers)), (a_this_stars, .inl (G.2.1, 48, .inl v_stars))] sz) := by
  refine Met.ofW (cc := cX9_letting) (maxL := 9) (ret := (some .int)) (by decide) rfl ?_
  intro p e s m args below meth c s₁ B hml hv
  obtain ⟨hargs, hsz, hP, hD0, hE⟩ := hv
  have hx := B.exec
  have hb := B.bytes
  have hr := B.returns
  have hts := atoms_spec (ws := wsX9_letting) B.pre
  have hown : s.vm.findClass RX9 = some m.cls := findClass_of_methodNamed B.named
  have hlocks := B.notSynchronized
  have hK := hE.1
  have hC : CallFix p m c cX9_letting 9 s args wsX9_letting RX9 := ⟨hx, hb, hml, hown, hts⟩
  have inX9 : ∀ w ∈ wsX90, w ∈ wsX9_letting := by decide +kernel
  have lk32 := hts (.fieldLink RX9 32 "SkyLeasesModel" "offers" "[I") (by decide +kernel)
  have lk42 := hts (.fieldLink RX9 42 "SkyLeasesModel" "thrown" "I") (by decide +kernel)
  have lk124 := hts (.fieldLink RX9 124 "SkyLeasesModel" "offerMany" "I") (by decide +kernel)
  subst hsz
  have hD := hD0.self (sz := s.heap.size)
  generalize hAe : va_A [(a_this, .inr (9, [.int v_thrown, .long v_trace, .ref a_this_text, .int v_typed, .int v_next, .int v_token, .int v_place, .int v_value, .int v_fault, .int v_squares, .ref a_this_stars, .ref a_this_purses, .ref a_this_leases, .int v_starMany, .int v_tenants, .int v_draftSquares, .int v_draftStars, .int v_draftTenants, .int v_draftLeases, .ref a_this_s, .ref a_this_kept, .ref a_this_isKept, .ref a_this_offers, .int v_offerMany, .ref a_this_seen, .int v_seenMany])), (a_this_offers, .inl (G.2.1, 48, .inl v_offers)), (a_this_stars, .inl (G.2.1, 48, .inl v_stars))] s.heap.size = A at hD ⊢
  have hA : ∀ q : Nat, s.heap.size ≤ q → A q := fun q h => by rw [← hAe]; exact Or.inr h
  have hS : va_S A s.heap s.heap [] := va_S.rf
  have hP : va_P G.1 vwCl [(a_this, .inr (9, [.int v_thrown, .long v_trace, .ref a_this_text, .int v_typed, .int v_next, .int v_token, .int v_place, .int v_value, .int v_fault, .int v_squares, .ref a_this_stars, .ref a_this_purses, .ref a_this_leases, .int v_starMany, .int v_tenants, .int v_draftSquares, .int v_draftStars, .int v_draftTenants, .int v_draftLeases, .ref a_this_s, .ref a_this_kept, .ref a_this_isKept, .ref a_this_offers, .int v_offerMany, .ref a_this_seen, .int v_seenMany])), (a_this_offers, .inl (G.2.1, 48, .inl v_offers)), (a_this_stars, .inl (G.2.1, 48, .inl v_stars))] s.heap := hP
  have hl := lv_entry ([.ref a_this, .int g1, .int g2, .int g3]) (n := 9) (Nat.le_of_ble_eq_true rfl)
  have hent : entryFrame m args 9 = F0 m 0 ((lg_sl ([.ref a_this, .int g1, .int g2, .int g3]) ++ List.replicate (9 - (lg_sl ([.ref a_this, .int g1, .int g2, .int g3])).length) Slot.unset).toArray) [] := by rw [hargs]; exact lg_entry_eq m [.ref a_this, .int g1, .int g2, .int g3] 9
  refine W.eq hent ?_
  clear hent
  generalize (lg_sl ([.ref a_this, .int g1, .int g2, .int g3]) ++ List.replicate (9 - (lg_sl ([.ref a_this, .int g1, .int g2, .int g3])).length) Slot.unset).toArray = ls at hl ⊢
  have hl : lv_has ls 9 [(0, .ref a_this), (1, .int g1), (2, .int g2), (3, .int g3)] := hl
  generalize hQ : MQ below _ args s 0 0 _ = QQ
  change W p l e rm_X9_letting s m args below meth c s.heap [] 0 0 QQ _
  have j97 : ∀ (x1 : Int32), ∀ (x2 : Int32), ∀ (x3 : Int32), ∀ (x4 : Int32), ∀ (x5 : Int32), ∀ (x6 : Int32), ∀ (v_thrown : Int32), ∀ (k59 : Int32 → Int32 → Option (Int32 × Int32)), (∀ (x7 : Int32), ∀ (x8 : Int32), ∀ (ls : Array Slot), lv_has ls 9 [(0, .ref a_this), (1, .int x1), (2, .int x2), (3, .int x3), (4, .int x4), (5, .int x5), (6, .int x6), (7, .int x7), (8, .int x8)] → ∀ (H : Heap) (locs : List Loc), va_P G.1 vwCl [(a_this, .inr (9, [.int v_thrown, .long v_trace, .ref a_this_text, .int v_typed, .int v_next, .int v_token, .int v_place, .int v_value, .int v_fault, .int v_squares, .ref a_this_stars, .ref a_this_purses, .ref a_this_leases, .int v_starMany, .int v_tenants, .int v_draftSquares, .int v_draftStars, .int v_draftTenants, .int v_draftLeases, .ref a_this_s, .ref a_this_kept, .ref a_this_isKept, .ref a_this_offers, .int v_offerMany, .ref a_this_seen, .int v_seenMany])), (a_this_offers, .inl (G.2.1, 48, .inl v_offers)), (a_this_stars, .inl (G.2.1, 48, .inl v_stars))] H → va_D A [(a_this, .inr (9, [.int v_thrown, .long v_trace, .ref a_this_text, .int v_typed, .int v_next, .int v_token, .int v_place, .int v_value, .int v_fault, .int v_squares, .ref a_this_stars, .ref a_this_purses, .ref a_this_leases, .int v_starMany, .int v_tenants, .int v_draftSquares, .int v_draftStars, .int v_draftTenants, .int v_draftLeases, .ref a_this_s, .ref a_this_kept, .ref a_this_isKept, .ref a_this_offers, .int v_offerMany, .ref a_this_seen, .int v_seenMany])), (a_this_offers, .inl (G.2.1, 48, .inl v_offers)), (a_this_stars, .inl (G.2.1, 48, .inl v_stars))] → va_S A s.heap H locs → k59 x7 x8 = some (R0, R1) → W p l e rm_X9_letting s m args below meth c H locs 0 0 QQ (F0 m 59 ls [])) → ∀ (x8 : Int32), ∀ (t0 : Int32), ∀ (t1 : Int32), ∀ (ls : Array Slot), lv_has ls 9 [(0, .ref a_this), (1, .int x1), (2, .int x2), (3, .int x3), (4, .int x4), (5, .int x5), (6, .int x6), (8, .int x8)] → ∀ (H : Heap) (locs : List Loc), va_P G.1 vwCl [(a_this, .inr (9, [.int v_thrown, .long v_trace, .ref a_this_text, .int v_typed, .int v_next, .int v_token, .int v_place, .int v_value, .int v_fault, .int v_squares, .ref a_this_stars, .ref a_this_purses, .ref a_this_leases, .int v_starMany, .int v_tenants, .int v_draftSquares, .int v_draftStars, .int v_draftTenants, .int v_draftLeases, .ref a_this_s, .ref a_this_kept, .ref a_this_isKept, .ref a_this_offers, .int v_offerMany, .ref a_this_seen, .int v_seenMany])), (a_this_offers, .inl (G.2.1, 48, .inl v_offers)), (a_this_stars, .inl (G.2.1, 48, .inl v_stars))] H → va_D A [(a_this, .inr (9, [.int v_thrown, .long v_trace, .ref a_this_text, .int v_typed, .int v_next, .int v_token, .int v_place, .int v_value, .int v_fault, .int v_squares, .ref a_this_stars, .ref a_this_purses, .ref a_this_leases, .int v_starMany, .int v_tenants, .int v_draftSquares, .int v_draftStars, .int v_draftTenants, .int v_draftLeases, .ref a_this_s, .ref a_this_kept, .ref a_this_isKept, .ref a_this_offers, .int v_offerMany, .ref a_this_seen, .int v_seenMany])), (a_this_offers, .inl (G.2.1, 48, .inl v_offers)), (a_this_stars, .inl (G.2.1, 48, .inl v_stars))] → va_S A s.heap H locs → f_X9_letting_b97 k59 x8 t0 t1 = some (R0, R1) → W p l e rm_X9_letting s m args below meth c H locs 0 0 QQ (F0 m 97 ls [.int t1, .int t0]) := by
    intro x1 x2 x3 x4 x5 x6 v_thrown k59 hk59 x8 t0 t1 ls hl H locs hP hD hS hf
    unfold f_X9_letting_b97 at hf
    refine lv_iadd hx hb dX9_letting_97 ?_
    refine lv_istore (lv' := [(7, .int (t0 + t1)), (0, .ref a_this), (1, .int x1), (2, .int x2), (3, .int x3), (4, .int x4), (5, .int x5), (6, .int x6), (8, .int x8)]) hx hb dX9_letting_98 hl (by decide) rfl (fun ls hl => ?_)
    refine lv_iinc (v := (x8 + (1 : Int32))) (lv' := [(8, .int (x8 + (1 : Int32))), (7, .int (t0 + t1)), (0, .ref a_this), (1, .int x1), (2, .int x2), (3, .int x3), (4, .int x4), (5, .int x5), (6, .int x6)]) hx hb dX9_letting_100 hl (k := 8) rfl rfl (by decide) rfl (fun ls hl => ?_)
    refine lv_goto (tgt := 59) hx hb dX9_letting_103 (by decide) ?_
    exact hk59 ((t0 + t1)) ((x8 + (1 : Int32))) ls (lv_sub hl [2, 3, 4, 5, 6, 7, 8, 1, 0] rfl) _ _ hP hD hS hf
  have j132 : ∀ (x1 : Int32), ∀ (x2 : Int32), ∀ (x3 : Int32), ∀ (v_thrown : Int32), ∀ (k42 : Int32 → Int32 → Int32 → Option (Int32 × Int32)), (∀ (x4 : Int32), ∀ (x5 : Int32), ∀ (x6 : Int32), ∀ (ls : Array Slot), lv_has ls 9 [(0, .ref a_this), (1, .int x1), (2, .int x2), (3, .int x3), (4, .int x4), (5, .int x5), (6, .int x6)] → ∀ (H : Heap) (locs : List Loc), va_P G.1 vwCl [(a_this, .inr (9, [.int v_thrown, .long v_trace, .ref a_this_text, .int v_typed, .int v_next, .int v_token, .int v_place, .int v_value, .int v_fault, .int v_squares, .ref a_this_stars, .ref a_this_purses, .ref a_this_leases, .int v_starMany, .int v_tenants, .int v_draftSquares, .int v_draftStars, .int v_draftTenants, .int v_draftLeases, .ref a_this_s, .ref a_this_kept, .ref a_this_isKept, .ref a_this_offers, .int v_offerMany, .ref a_this_seen, .int v_seenMany])), (a_this_offers, .inl (G.2.1, 48, .inl v_offers)), (a_this_stars, .inl (G.2.1, 48, .inl v_stars))] H → va_D A [(a_this, .inr (9, [.int v_thrown, .long v_trace, .ref a_this_text, .int v_typed, .int v_next, .int v_token, .int v_place, .int v_value, .int v_fault, .int v_squares, .ref a_this_stars, .ref a_this_purses, .ref a_this_leases, .int v_starMany, .int v_tenants, .int v_draftSquares, .int v_draftStars, .int v_draftTenants, .int v_draftLeases, .ref a_this_s, .ref a_this_kept, .ref a_this_isKept, .ref a_this_offers, .int v_offerMany, .ref a_this_seen, .int v_seenMany])), (a_this_offers, .inl (G.2.1, 48, .inl v_offers)), (a_this_stars, .inl (G.2.1, 48, .inl v_stars))] → va_S A s.heap H locs → k42 x4 x5 x6 = some (R0, R1) → W p l e rm_X9_letting s m args below meth c H locs 0 0 QQ (F0 m 42 ls [])) → ∀ (x4 : Int32), ∀ (x5 : Int32), ∀ (x6 : Int32), ∀ (ls : Array Slot), lv_has ls 9 [(0, .ref a_this), (1, .int x1), (2, .int x2), (3, .int x3), (4, .int x4), (5, .int x5), (6, .int x6)] → ∀ (H : Heap) (locs : List Loc), va_P G.1 vwCl [(a_this, .inr (9, [.int v_thrown, .long v_trace, .ref a_this_text, .int v_typed, .int v_next, .int v_token, .int v_place, .int v_value, .int v_fault, .int v_squares, .ref a_this_stars, .ref a_this_purses, .ref a_this_leases, .int v_starMany, .int v_tenants, .int v_draftSquares, .int v_draftStars, .int v_draftTenants, .int v_draftLeases, .ref a_this_s, .ref a_this_kept, .ref a_this_isKept, .ref a_this_offers, .int v_offerMany, .ref a_this_seen, .int v_seenMany])), (a_this_offers, .inl (G.2.1, 48, .inl v_offers)), (a_this_stars, .inl (G.2.1, 48, .inl v_stars))] H → va_D A [(a_this, .inr (9, [.int v_thrown, .long v_trace, .ref a_this_text, .int v_typed, .int v_next, .int v_token, .int v_place, .int v_value, .int v_fault, .int v_squares, .ref a_this_stars, .ref a_this_purses, .ref a_this_leases, .int v_starMany, .int v_tenants, .int v_draftSquares, .int v_draftStars, .int v_draftTenants, .int v_draftLeases, .ref a_this_s, .ref a_this_kept, .ref a_this_isKept, .ref a_this_offers, .int v_offerMany, .ref a_this_seen, .int v_seenMany])), (a_this_offers, .inl (G.2.1, 48, .inl v_offers)), (a_this_stars, .inl (G.2.1, 48, .inl v_stars))] → va_S A s.heap H locs → f_X9_letting_b132 k42 x4 x5 x6 = some (R0, R1) → W p l e rm_X9_letting s m args below meth c H locs 0 0 QQ (F0 m 132 ls []) := by
    intro x1 x2 x3 v_thrown k42 hk42 x4 x5 x6 ls hl H locs hP hD hS hf
    unfold f_X9_letting_b132 at hf
    refine lv_iinc (v := (x6 + (1 : Int32))) (lv' := [(6, .int (x6 + (1 : Int32))), (0, .ref a_this), (1, .int x1), (2, .int x2), (3, .int x3), (4, .int x4), (5, .int x5)]) hx hb dX9_letting_132 hl (k := 6) rfl rfl (by decide) rfl (fun ls hl => ?_)
    refine lv_goto (tgt := 42) hx hb dX9_letting_135 (by decide) ?_
    exact hk42 (x4) (x5) ((x6 + (1 : Int32))) ls (lv_sub hl [1, 2, 3, 4, 5, 6, 0] rfl) _ _ hP hD hS hf
  have j59 : ∀ (x1 : Int32), ∀ (x2 : Int32), ∀ (x3 : Int32), ∀ (v_thrown : Int32), ∀ (k42 : Int32 → Int32 → Int32 → Option (Int32 × Int32)), (∀ (x4 : Int32), ∀ (x5 : Int32), ∀ (x6 : Int32), ∀ (ls : Array Slot), lv_has ls 9 [(0, .ref a_this), (1, .int x1), (2, .int x2), (3, .int x3), (4, .int x4), (5, .int x5), (6, .int x6)] → ∀ (H : Heap) (locs : List Loc), va_P G.1 vwCl [(a_this, .inr (9, [.int v_thrown, .long v_trace, .ref a_this_text, .int v_typed, .int v_next, .int v_token, .int v_place, .int v_value, .int v_fault, .int v_squares, .ref a_this_stars, .ref a_this_purses, .ref a_this_leases, .int v_starMany, .int v_tenants, .int v_draftSquares, .int v_draftStars, .int v_draftTenants, .int v_draftLeases, .ref a_this_s, .ref a_this_kept, .ref a_this_isKept, .ref a_this_offers, .int v_offerMany, .ref a_this_seen, .int v_seenMany])), (a_this_offers, .inl (G.2.1, 48, .inl v_offers)), (a_this_stars, .inl (G.2.1, 48, .inl v_stars))] H → va_D A [(a_this, .inr (9, [.int v_thrown, .long v_trace, .ref a_this_text, .int v_typed, .int v_next, .int v_token, .int v_place, .int v_value, .int v_fault, .int v_squares, .ref a_this_stars, .ref a_this_purses, .ref a_this_leases, .int v_starMany, .int v_tenants, .int v_draftSquares, .int v_draftStars, .int v_draftTenants, .int v_draftLeases, .ref a_this_s, .ref a_this_kept, .ref a_this_isKept, .ref a_this_offers, .int v_offerMany, .ref a_this_seen, .int v_seenMany])), (a_this_offers, .inl (G.2.1, 48, .inl v_offers)), (a_this_stars, .inl (G.2.1, 48, .inl v_stars))] → va_S A s.heap H locs → k42 x4 x5 x6 = some (R0, R1) → W p l e rm_X9_letting s m args below meth c H locs 0 0 QQ (F0 m 42 ls [])) → ∀ (x4 : Int32), ∀ (x5 : Int32), ∀ (x6 : Int32), ∀ (nn : Nat), ∀ (x7 : Int32), ∀ (x8 : Int32), ∀ (ls : Array Slot), lv_has ls 9 [(0, .ref a_this), (1, .int x1), (2, .int x2), (3, .int x3), (4, .int x4), (5, .int x5), (6, .int x6), (7, .int x7), (8, .int x8)] → ∀ (H : Heap) (locs : List Loc), va_P G.1 vwCl [(a_this, .inr (9, [.int v_thrown, .long v_trace, .ref a_this_text, .int v_typed, .int v_next, .int v_token, .int v_place, .int v_value, .int v_fault, .int v_squares, .ref a_this_stars, .ref a_this_purses, .ref a_this_leases, .int v_starMany, .int v_tenants, .int v_draftSquares, .int v_draftStars, .int v_draftTenants, .int v_draftLeases, .ref a_this_s, .ref a_this_kept, .ref a_this_isKept, .ref a_this_offers, .int v_offerMany, .ref a_this_seen, .int v_seenMany])), (a_this_offers, .inl (G.2.1, 48, .inl v_offers)), (a_this_stars, .inl (G.2.1, 48, .inl v_stars))] H → va_D A [(a_this, .inr (9, [.int v_thrown, .long v_trace, .ref a_this_text, .int v_typed, .int v_next, .int v_token, .int v_place, .int v_value, .int v_fault, .int v_squares, .ref a_this_stars, .ref a_this_purses, .ref a_this_leases, .int v_starMany, .int v_tenants, .int v_draftSquares, .int v_draftStars, .int v_draftTenants, .int v_draftLeases, .ref a_this_s, .ref a_this_kept, .ref a_this_isKept, .ref a_this_offers, .int v_offerMany, .ref a_this_seen, .int v_seenMany])), (a_this_offers, .inl (G.2.1, 48, .inl v_offers)), (a_this_stars, .inl (G.2.1, 48, .inl v_stars))] → va_S A s.heap H locs → f_X9_letting_b59 v_squares v_starMany v_tenants v_offerMany v_offers v_stars k42 x1 x2 x4 x5 x6 nn x7 x8 = some (R0, R1) → W p l e rm_X9_letting s m args below meth c H locs 0 0 QQ (F0 m 59 ls []) := by
    intro x1 x2 x3 v_thrown k42 hk42 x4 x5 x6
    intro nn
    induction nn with
    | zero =>
      intro x7 x8 ls hl H locs hP hD hS hf
      rw [f_X9_letting_b59] at hf
      cases hf
    | succ n59 ih =>
      intro x7 x8 ls hl H locs hP hD hS hf
      rw [f_X9_letting_b59] at hf
      refine lv_iload hx hb dX9_letting_59 (lv_at hl 8 rfl) ?_
      refine lv_aload_n hx hb dX9_letting_61 rfl (lv_at hl 0 rfl) ?_
      refine va_get (D := G.1) (ci := 9) (v := .int v_offerMany) (C := RX9) (T := TX9) (N := 26) hx hb hts inX9 hown hK hP 0 rfl rfl 23 (by decide) lk124 (fun _ h9 => h9) rfl dX9_letting_62 ?_
      refine lv_icmp_ge (tgt := 106) hx hb dX9_letting_65 (by decide) (fun hc15 => ?_) (fun hc15 => ?_)
      · have hf := if_t hf hc15
        refine lv_iload hx hb dX9_letting_106 (lv_at hl 7 rfl) ?_
        refine lv_iload hx hb dX9_letting_108 (lv_at hl 5 rfl) ?_
        refine lv_icmp_le (tgt := 132) hx hb dX9_letting_110 (by decide) (fun hc16 => ?_) (fun hc16 => ?_)
        · have hf := if_t hf hc16
          exact j132 (x1) (x2) (x3) (v_thrown) k42 hk42 (x4) (x5) (x6) ls (lv_sub hl [0, 1, 2, 3, 4, 5, 6] rfl) _ _ hP hD hS hf
        · have hf := if_f hf hc16
          refine lv_aload_n hx hb dX9_letting_113 rfl (lv_at hl 0 rfl) ?_
          refine lv_iload hx hb dX9_letting_114 (lv_at hl 6 rfl) ?_
          refine lv_iload_n hx hb dX9_letting_116 rfl (lv_at hl 1 rfl) ?_
          refine lv_iload_n hx hb dX9_letting_117 rfl (lv_at hl 2 rfl) ?_
          obtain ⟨r17, hu, hf⟩ := bd1_some hf
          refine zRi (va_runV (As := [.int x6, .int x1, .int x2]) (rest := []) hC (c_X9_mayBeLet l G a_this a_this_offers a_this_stars a_this_text a_this_purses a_this_leases a_this_s a_this_kept a_this_isKept a_this_seen (v_thrown) (v_trace) (v_typed) (v_next) (v_token) (v_place) (v_value) (v_fault) (v_squares) (v_starMany) (v_tenants) (v_draftSquares) (v_draftStars) (v_draftTenants) (v_draftLeases) (v_offerMany) (v_seenMany) (v_offers) (v_stars) (x6) (x1) (x2) r17 hu) (cwV 3 hts gX9_letting_X9_mayBeLet rfl rfl rfl hd_X9_mayBeLet ⟨(Nat.le_of_ble_eq_true rfl), (Nat.le_of_ble_eq_true rfl)⟩) (zPV hE hP [0, 1, 2] rfl 0 rfl rfl) rfl rfl hl.1 rfl (lv_room (Nat.le_of_ble_eq_true rfl)) dX9_letting_118 ⟨Nat.zero_le _, Nat.zero_le _⟩) ?_
          refine lv_if_eq (tgt := 132) hx hb dX9_letting_121 (by decide) (fun hc18 => ?_) (fun hc18 => ?_)
          · have hf := if_t hf hc18
            exact j132 (x1) (x2) (x3) (v_thrown) k42 hk42 (x4) (x5) (x6) ls (lv_sub hl [0, 1, 2, 3, 4, 5, 6] rfl) _ _ hP hD hS hf
          · have hf := if_f hf hc18
            refine lv_iload hx hb dX9_letting_124 (lv_at hl 7 rfl) ?_
            refine lv_istore (lv' := [(5, .int x7), (0, .ref a_this), (1, .int x1), (2, .int x2), (3, .int x3), (4, .int x4), (6, .int x6), (7, .int x7), (8, .int x8)]) hx hb dX9_letting_126 hl (by decide) rfl (fun ls hl => ?_)
            refine lv_iload hx hb dX9_letting_128 (lv_at hl 6 rfl) ?_
            refine lv_istore (lv' := [(4, .int x6), (5, .int x7), (0, .ref a_this), (1, .int x1), (2, .int x2), (3, .int x3), (6, .int x6), (7, .int x7), (8, .int x8)]) hx hb dX9_letting_130 hl (by decide) rfl (fun ls hl => ?_)
            exact j132 (x1) (x2) (x3) (v_thrown) k42 hk42 (x6) (x7) (x6) ls (lv_sub hl [2, 3, 4, 5, 0, 1, 6] rfl) _ _ hP hD hS hf
      · have hf := if_f hf hc15
        refine lv_iload hx hb dX9_letting_68 (lv_at hl 7 rfl) ?_
        refine lv_iload hx hb dX9_letting_70 (lv_at hl 6 rfl) ?_
        refine lv_iload hx hb dX9_letting_72 (lv_at hl 8 rfl) ?_
        refine lv_ishr hx hb dX9_letting_74 ?_
        refine lv_iconst (v := (1 : Int32)) hx hb dX9_letting_75 (by decide) ?_
        refine lv_iand hx hb dX9_letting_76 ?_
        refine lv_iconst (v := (1 : Int32)) hx hb dX9_letting_77 (by decide) ?_
        refine lv_icmp_ne (tgt := 96) hx hb dX9_letting_78 (by decide) (fun hc19 => ?_) (fun hc19 => ?_)
        · have hf := if_f hf hc19
          refine lv_iconst (v := (0 : Int32)) hx hb dX9_letting_96 (by decide) ?_
          exact j97 (x1) (x2) (x3) (x4) (x5) (x6) (v_thrown) (f_X9_letting_b59 v_squares v_starMany v_tenants v_offerMany v_offers v_stars k42 x1 x2 x4 x5 x6 n59) ih (x8) (x7) ((0 : Int32)) ls (lv_sub hl [0, 1, 2, 3, 4, 5, 6, 8] rfl) _ _ hP hD hS hf
        · have hf := if_t hf hc19
          refine lv_aload_n hx hb dX9_letting_81 rfl (lv_at hl 0 rfl) ?_
          refine va_get (D := G.1) (ci := 9) (v := .ref a_this_offers) (C := RX9) (T := TX9) (N := 26) hx hb hts inX9 hown hK hP 0 rfl rfl 22 (by decide) lk32 (fun _ h9 => h9) rfl dX9_letting_82 ?_
          refine lv_bipush (v := (6 : Int32)) hx hb dX9_letting_85 (by decide) ?_
          refine lv_iload hx hb dX9_letting_87 (lv_at hl 8 rfl) ?_
          refine lv_imul hx hb dX9_letting_89 ?_
          refine lv_iconst (v := (5 : Int32)) hx hb dX9_letting_90 (by decide) ?_
          refine lv_iadd hx hb dX9_letting_91 ?_
          obtain ⟨hg20, hf⟩ := gd_some hf
          refine va_iald hx hb hK hP 1 0 rfl rfl (inB_in hg20) dX9_letting_92 ?_
          refine lv_goto (tgt := 97) hx hb dX9_letting_93 (by decide) ?_
          exact j97 (x1) (x2) (x3) (x4) (x5) (x6) (v_thrown) (f_X9_letting_b59 v_squares v_starMany v_tenants v_offerMany v_offers v_stars k42 x1 x2 x4 x5 x6 n59) ih (x8) (x7) ((v_offers ((((6 : Int32) * x8) + (5 : Int32))).toNatClampNeg)) ls (lv_sub hl [0, 1, 2, 3, 4, 5, 6, 8] rfl) _ _ hP hD hS hf
  have j42 : ∀ (x1 : Int32), ∀ (x2 : Int32), ∀ (x3 : Int32), ∀ (v_thrown : Int32), ∀ (nn : Nat), ∀ (x4 : Int32), ∀ (x5 : Int32), ∀ (x6 : Int32), ∀ (ls : Array Slot), lv_has ls 9 [(0, .ref a_this), (1, .int x1), (2, .int x2), (3, .int x3), (4, .int x4), (5, .int x5), (6, .int x6)] → ∀ (H : Heap) (locs : List Loc), va_P G.1 vwCl [(a_this, .inr (9, [.int v_thrown, .long v_trace, .ref a_this_text, .int v_typed, .int v_next, .int v_token, .int v_place, .int v_value, .int v_fault, .int v_squares, .ref a_this_stars, .ref a_this_purses, .ref a_this_leases, .int v_starMany, .int v_tenants, .int v_draftSquares, .int v_draftStars, .int v_draftTenants, .int v_draftLeases, .ref a_this_s, .ref a_this_kept, .ref a_this_isKept, .ref a_this_offers, .int v_offerMany, .ref a_this_seen, .int v_seenMany])), (a_this_offers, .inl (G.2.1, 48, .inl v_offers)), (a_this_stars, .inl (G.2.1, 48, .inl v_stars))] H → va_D A [(a_this, .inr (9, [.int v_thrown, .long v_trace, .ref a_this_text, .int v_typed, .int v_next, .int v_token, .int v_place, .int v_value, .int v_fault, .int v_squares, .ref a_this_stars, .ref a_this_purses, .ref a_this_leases, .int v_starMany, .int v_tenants, .int v_draftSquares, .int v_draftStars, .int v_draftTenants, .int v_draftLeases, .ref a_this_s, .ref a_this_kept, .ref a_this_isKept, .ref a_this_offers, .int v_offerMany, .ref a_this_seen, .int v_seenMany])), (a_this_offers, .inl (G.2.1, 48, .inl v_offers)), (a_this_stars, .inl (G.2.1, 48, .inl v_stars))] → va_S A s.heap H locs → f_X9_letting_b42 v_squares v_starMany v_tenants v_offerMany v_offers v_stars x1 x2 x3 v_thrown nn x4 x5 x6 = some (R0, R1) → W p l e rm_X9_letting s m args below meth c H locs 0 0 QQ (F0 m 42 ls []) := by
    intro x1 x2 x3 v_thrown
    intro nn
    induction nn with
    | zero =>
      intro x4 x5 x6 ls hl H locs hP hD hS hf
      rw [f_X9_letting_b42] at hf
      cases hf
    | succ n42 ih =>
      intro x4 x5 x6 ls hl H locs hP hD hS hf
      rw [f_X9_letting_b42] at hf
      refine lv_iload hx hb dX9_letting_42 (lv_at hl 6 rfl) ?_
      refine lv_iconst (v := (1 : Int32)) hx hb dX9_letting_44 (by decide) ?_
      refine lv_aload_n hx hb dX9_letting_45 rfl (lv_at hl 0 rfl) ?_
      refine va_get (D := G.1) (ci := 9) (v := .int v_offerMany) (C := RX9) (T := TX9) (N := 26) hx hb hts inX9 hown hK hP 0 rfl rfl 23 (by decide) lk124 (fun _ h9 => h9) rfl dX9_letting_46 ?_
      refine lv_ishl hx hb dX9_letting_49 ?_
      refine lv_icmp_ge (tgt := 138) hx hb dX9_letting_50 (by decide) (fun hc21 => ?_) (fun hc21 => ?_)
      · have hf := if_t hf hc21
        refine lv_iload_n hx hb dX9_letting_138 rfl (lv_at hl 3 rfl) ?_
        refine lv_if_ne (tgt := 147) hx hb dX9_letting_139 (by decide) (fun hc22 => ?_) (fun hc22 => ?_)
        · have hf := if_f hf hc22
          refine lv_iload hx hb dX9_letting_147 (lv_at hl 4 rfl) ?_
          obtain ⟨hr0, hr1⟩ := so2 hf
          subst hr0
          subst hr1
          rw [← hQ]
          exact W.iret (v := x4) hx hb hr (fun t ht hW => ⟨⟨rfl, by rw [ht]; exact hP⟩, hS.F ht⟩) hS.2.2 dX9_letting_149
        · have hf := if_t hf hc22
          refine lv_iload hx hb dX9_letting_142 (lv_at hl 5 rfl) ?_
          refine lv_goto (tgt := 149) hx hb dX9_letting_144 (by decide) ?_
          obtain ⟨hr0, hr1⟩ := so2 hf
          subst hr0
          subst hr1
          rw [← hQ]
          exact W.iret (v := x5) hx hb hr (fun t ht hW => ⟨⟨rfl, by rw [ht]; exact hP⟩, hS.F ht⟩) hS.2.2 dX9_letting_149
      · have hf := if_f hf hc21
        refine lv_iconst (v := (0 : Int32)) hx hb dX9_letting_53 (by decide) ?_
        refine lv_istore (lv' := [(7, .int (0 : Int32)), (0, .ref a_this), (1, .int x1), (2, .int x2), (3, .int x3), (4, .int x4), (5, .int x5), (6, .int x6)]) hx hb dX9_letting_54 hl (by decide) rfl (fun ls hl => ?_)
        refine lv_iconst (v := (0 : Int32)) hx hb dX9_letting_56 (by decide) ?_
        refine lv_istore (lv' := [(8, .int (0 : Int32)), (7, .int (0 : Int32)), (0, .ref a_this), (1, .int x1), (2, .int x2), (3, .int x3), (4, .int x4), (5, .int x5), (6, .int x6)]) hx hb dX9_letting_57 hl (by decide) rfl (fun ls hl => ?_)
        exact j59 (x1) (x2) (x3) (v_thrown) (f_X9_letting_b42 v_squares v_starMany v_tenants v_offerMany v_offers v_stars x1 x2 x3 v_thrown n42) ih (x4) (x5) (x6) zF ((0 : Int32)) ((0 : Int32)) ls (lv_sub hl [2, 3, 4, 5, 6, 7, 8, 1, 0] rfl) _ _ hP hD hS hf
  have hSH := hS
  unfold f_X9_letting at hf
  refine lv_aload_n hx hb dX9_letting_0 rfl (lv_at hl 0 rfl) ?_
  refine lv_iconst (v := (0 : Int32)) hx hb dX9_letting_1 (by decide) ?_
  refine va_put (D := G.1) (ci := 9) (v := .int (0 : Int32)) (ty := .int) (C := RX9) (T := TX9) (N := 26) hx hb hts inX9 tyX9 tyX9_ok nmX9 hown hK hP hD hS 0 rfl rfl 0 (by decide) lk42 (fun _ h9 => h9) rfl (by decide +kernel) rfl rfl (Nat.le_of_ble_eq_true rfl) dX9_letting_2 (fun H locs hP hD hS => ?_)
  have hP : va_P G.1 vwCl [(a_this, .inr (9, [.int (0 : Int32), .long v_trace, .ref a_this_text, .int v_typed, .int v_next, .int v_token, .int v_place, .int v_value, .int v_fault, .int v_squares, .ref a_this_stars, .ref a_this_purses, .ref a_this_leases, .int v_starMany, .int v_tenants, .int v_draftSquares, .int v_draftStars, .int v_draftTenants, .int v_draftLeases, .ref a_this_s, .ref a_this_kept, .ref a_this_isKept, .ref a_this_offers, .int v_offerMany, .ref a_this_seen, .int v_seenMany])), (a_this_offers, .inl (G.2.1, 48, .inl v_offers)), (a_this_stars, .inl (G.2.1, 48, .inl v_stars))] H := hP
  have hD : va_D A [(a_this, .inr (9, [.int (0 : Int32), .long v_trace, .ref a_this_text, .int v_typed, .int v_next, .int v_token, .int v_place, .int v_value, .int v_fault, .int v_squares, .ref a_this_stars, .ref a_this_purses, .ref a_this_leases, .int v_starMany, .int v_tenants, .int v_draftSquares, .int v_draftStars, .int v_draftTenants, .int v_draftLeases, .ref a_this_s, .ref a_this_kept, .ref a_this_isKept, .ref a_this_offers, .int v_offerMany, .ref a_this_seen, .int v_seenMany])), (a_this_offers, .inl (G.2.1, 48, .inl v_offers)), (a_this_stars, .inl (G.2.1, 48, .inl v_stars))] := hD
  refine lv_iload_n hx hb dX9_letting_5 rfl (lv_at hl 1 rfl) ?_
  obtain ⟨r23, hu, hf⟩ := bd1_some hf
  refine zRi (va_runS (As := [.int g1]) (rest := []) hC (c_X9_isNight l G (g1) r23 hu) (va_cwS 1 hts gX9_letting_X9_isNight rfl rfl rfl hd_X9_isNight.2 ⟨(Nat.le_of_ble_eq_true rfl), (Nat.le_of_ble_eq_true rfl)⟩) (zPS hE hP [] rfl) rfl rfl hl.1 rfl (lv_room (Nat.le_of_ble_eq_true rfl)) dX9_letting_6 ⟨Nat.zero_le _, Nat.zero_le _⟩) ?_
  refine lv_if_eq (tgt := 31) hx hb dX9_letting_9 (by decide) (fun hc24 => ?_) (fun hc24 => ?_)
  · have hf := if_t hf hc24
    refine lv_iconst (v := (-1 : Int32)) hx hb dX9_letting_31 (by decide) ?_
    obtain ⟨hr0, hr1⟩ := so2 hf
    subst hr0
    subst hr1
    rw [← hQ]
    exact W.iret (v := (-1 : Int32)) hx hb hr (fun t ht hW => ⟨⟨rfl, by rw [ht]; exact hP⟩, hS.F ht⟩) hS.2.2 dX9_letting_32
  · have hf := if_f hf hc24
    refine lv_iload_n hx hb dX9_letting_12 rfl (lv_at hl 2 rfl) ?_
    refine lv_iload_n hx hb dX9_letting_13 rfl (lv_at hl 1 rfl) ?_
    refine lv_bipush (v := (99 : Int32)) hx hb dX9_letting_14 (by decide) ?_
    obtain ⟨r25, hu, hf⟩ := bd1_some hf
    refine zRi (va_runS (As := [.int g2, .int g1, .int (99 : Int32)]) (rest := []) hC (c_X9_in l G (g2) (g1) ((99 : Int32)) r25 hu) (va_cwS 3 hts gX9_letting_X9_in rfl rfl rfl hd_X9_in.2 ⟨(Nat.le_of_ble_eq_true rfl), (Nat.le_of_ble_eq_true rfl)⟩) (zPS hE hP [] rfl) rfl rfl hl.1 rfl (lv_room (Nat.le_of_ble_eq_true rfl)) dX9_letting_16 ⟨Nat.zero_le _, Nat.zero_le _⟩) ?_
    refine lv_if_eq (tgt := 31) hx hb dX9_letting_19 (by decide) (fun hc26 => ?_) (fun hc26 => ?_)
    · have hf := if_t hf hc26
      refine lv_iconst (v := (-1 : Int32)) hx hb dX9_letting_31 (by decide) ?_
      obtain ⟨hr0, hr1⟩ := so2 hf
      subst hr0
      subst hr1
      rw [← hQ]
      exact W.iret (v := (-1 : Int32)) hx hb hr (fun t ht hW => ⟨⟨rfl, by rw [ht]; exact hP⟩, hS.F ht⟩) hS.2.2 dX9_letting_32
    · have hf := if_f hf hc26
      refine lv_iload_n hx hb dX9_letting_22 rfl (lv_at hl 3 rfl) ?_
      refine lv_iconst (v := (0 : Int32)) hx hb dX9_letting_23 (by decide) ?_
      refine lv_iconst (v := (1 : Int32)) hx hb dX9_letting_24 (by decide) ?_
      obtain ⟨r27, hu, hf⟩ := bd1_some hf
      refine zRi (va_runS (As := [.int g3, .int (0 : Int32), .int (1 : Int32)]) (rest := []) hC (c_X9_in l G (g3) ((0 : Int32)) ((1 : Int32)) r27 hu) (va_cwS 3 hts gX9_letting_X9_in rfl rfl rfl hd_X9_in.2 ⟨(Nat.le_of_ble_eq_true rfl), (Nat.le_of_ble_eq_true rfl)⟩) (zPS hE hP [] rfl) rfl rfl hl.1 rfl (lv_room (Nat.le_of_ble_eq_true rfl)) dX9_letting_25 ⟨Nat.zero_le _, Nat.zero_le _⟩) ?_
      refine lv_if_ne (tgt := 33) hx hb dX9_letting_28 (by decide) (fun hc28 => ?_) (fun hc28 => ?_)
      · have hf := if_f hf hc28
        refine lv_iconst (v := (0 : Int32)) hx hb dX9_letting_33 (by decide) ?_
        refine lv_istore (lv' := [(4, .int (0 : Int32)), (0, .ref a_this), (1, .int g1), (2, .int g2), (3, .int g3)]) hx hb dX9_letting_34 hl (by decide) rfl (fun ls hl => ?_)
        refine lv_iconst (v := (0 : Int32)) hx hb dX9_letting_36 (by decide) ?_
        refine lv_istore (lv' := [(5, .int (0 : Int32)), (4, .int (0 : Int32)), (0, .ref a_this), (1, .int g1), (2, .int g2), (3, .int g3)]) hx hb dX9_letting_37 hl (by decide) rfl (fun ls hl => ?_)
        refine lv_iconst (v := (1 : Int32)) hx hb dX9_letting_39 (by decide) ?_
        refine lv_istore (lv' := [(6, .int (1 : Int32)), (5, .int (0 : Int32)), (4, .int (0 : Int32)), (0, .ref a_this), (1, .int g1), (2, .int g2), (3, .int g3)]) hx hb dX9_letting_40 hl (by decide) rfl (fun ls hl => ?_)
        exact j42 (g1) (g2) (g3) ((0 : Int32)) zF ((0 : Int32)) ((0 : Int32)) ((1 : Int32)) ls (lv_sub hl [3, 4, 5, 6, 2, 1, 0] rfl) _ _ hP hD hS hf
      · have hf := if_t hf hc28
        refine lv_iconst (v := (-1 : Int32)) hx hb dX9_letting_31 (by decide) ?_
        obtain ⟨hr0, hr1⟩ := so2 hf
        subst hr0
        subst hr1
        rw [← hQ]
        exact W.iret (v := (-1 : Int32)) hx hb hr (fun t ht hW => ⟨⟨rfl, by rw [ht]; exact hP⟩, hS.F ht⟩) hS.2.2 dX9_letting_32
def f_X9_saw  (v_thrown : Int32) (v_squares : Int32) (v_starMany : Int32) (v_seenMany : Int32) (v_seen : (Nat → Int32)) (g1 : Int32) (g2 : Int32) : Option (Int32 × Int32 × Int32 × (Nat → Int32)) := bd1 (f_X9_isStar (v_starMany) (g1)) fun r10 => if r10 = (0 : Int32) then (some ((-1 : Int32), (0 : Int32), v_seenMany, v_seen)) else (bd1 (f_X9_isSquare (v_squares) (g2)) fun r12 => if r12 = (0 : Int32) then (some ((-1 : Int32), (0 : Int32), v_seenMany, v_seen)) else (if v_seenMany = (8 : Int32) then (some ((-3 : Int32), (0 : Int32), v_seenMany, v_seen)) else (gd (inB ((2 : Int32) * v_seenMany) 16) (nm (upd v_seen (((2 : Int32) * v_seenMany)).toNatClampNeg g1) fun y16 => gd (inB (((2 : Int32) * v_seenMany) + (1 : Int32)) 16) (nm (upd y16 ((((2 : Int32) * v_seenMany) + (1 : Int32))).toNatClampNeg g2) fun y18 => some ((v_seenMany + (1 : Int32)), (0 : Int32), (v_seenMany + (1 : Int32)), y18))))))
abbrev rm_X9_saw : Room := { frames := 2, cells := 0, slots := 0, locals := 43 }
set_option maxHeartbeats 4000000 in
set_option maxRecDepth 100000 in
theorem c_X9_saw (l : Launch) (G : zG) (sz : Nat) (a_this : Nat) (a_this_seen : Nat) (a_this_text : Nat) (a_this_stars : Nat) (a_this_purses : Nat) (a_this_leases : Nat) (a_this_s : Nat) (a_this_kept : Nat) (a_this_isKept : Nat) (a_this_offers : Nat) (v_thrown : Int32) (v_trace : Int64) (v_typed : Int32) (v_next : Int32) (v_token : Int32) (v_place : Int32) (v_value : Int32) (v_fault : Int32) (v_squares : Int32) (v_starMany : Int32) (v_tenants : Int32) (v_draftSquares : Int32) (v_draftStars : Int32) (v_draftTenants : Int32) (v_draftLeases : Int32) (v_offerMany : Int32) (v_seenMany : Int32) (v_seen : (Nat → Int32)) (g1 : Int32) (g2 : Int32) (R0 : Int32) (R1 : Int32) (R2 : Int32) (R3 : (Nat → Int32)) (hf : f_X9_saw v_thrown v_squares v_starMany v_seenMany v_seen g1 g2 = some (R0, R1, R2, R3)) : Met l yX9_saw wsX9_saw rm_X9_saw (va_Pc [.ref a_this, .int g1, .int g2] (zB G [(a_this, .inr (9, [.int v_thrown, .long v_trace, .ref a_this_text, .int v_typed, .int v_next, .int v_token, .int v_place, .int v_value, .int v_fault, .int v_squares, .ref a_this_stars, .ref a_this_purses, .ref a_this_leases, .int v_starMany, .int v_tenants, .int v_draftSquares, .int v_draftStars, .int v_draftTenants, .int v_draftLeases, .ref a_this_s, .ref a_this_kept, .ref a_this_isKept, .ref a_this_offers, .int v_offerMany, .ref a_this_seen, .int v_seenMany])), (a_this_seen, .inl (G.2.1, 16, .inl v_seen))] sz)) (zQ G (some (.int R0)) [(a_this, .inr (9, [.int R1, .long v_trace, .ref a_this_text, .int v_typed, .int v_next, .int v_token, .int v_place, .int v_value, .int v_fault, .int v_squares, .ref a_this_stars, .ref a_this_purses, .ref a_this_leases, .int v_starMany, .int v_tenants, .int v_draftSquares, .int v_draftStars, .int v_draftTenants, .int v_draftLeases, .ref a_this_s, .ref a_this_kept, .ref a_this_isKept, .ref a_this_offers, .int v_offerMany, .ref a_this_seen, .int R2])), (a_this_seen, .inl (G.2.1, 16, .inl R3))] (va_A [(a_this, .inr (9, [.int v_thrown, .long v_trace, .ref a_this_text, .int v_typed, .int v_next, .int v_token, .int v_place, .int v_value, .int v_fault, .int v_squares, .ref a_this_stars, .ref a_this_purses, .ref a_this_leases, .int v_starMany, .int v_tenants, .int v_draftSquares, .int v_draftStars, .int v_draftTenants, .int v_draftLeases, .ref a_this_s, .ref a_this_kept, .ref a_this_isKept, .ref a_this_offers, .int v_offerMany, .ref a_this_seen, .int v_seenMany])), (a_this_seen, .inl (G.2.1, 16, .inl v_seen))] sz)) 0 0 (va_A [(a_this, .inr (9, [.int v_thrown, .long v_trace, .ref a_this_text, .int v_typed, .int v_next, .int v_token, .int v_place, .int v_value, .int v_fault, .int v_squares, .ref a_this_stars, .ref a_this_purses, .ref a_this_leases, .int v_starMany, .int v_tenants, .int v_draftSquares, .int v_draftStars, .int v_draftTenants, .int v_draftLeases, .ref a_this_s, .ref a_this_kept, .ref a_this_isKept, .ref a_this_offers, .int v_offerMany, .ref a_this_seen, .int v_seenMany])), (a_this_seen, .inl (G.2.1, 16, .inl v_seen))] sz) := by
  refine Met.ofW (cc := cX9_saw) (maxL := 3) (ret := (some .int)) (by decide) rfl ?_
  intro p e s m args below meth c s₁ B hml hv
  obtain ⟨hargs, hsz, hP, hD0, hE⟩ := hv
  have hx := B.exec
  have hb := B.bytes
  have hr := B.returns
  have hts := atoms_spec (ws := wsX9_saw) B.pre
  have hown : s.vm.findClass RX9 = some m.cls := findClass_of_methodNamed B.named
  have hlocks := B.notSynchronized
  have hK := hE.1
  have hC : CallFix p m c cX9_saw 3 s args wsX9_saw RX9 := ⟨hx, hb, hml, hown, hts⟩
  have inX9 : ∀ w ∈ wsX90, w ∈ wsX9_saw := by decide +kernel
  have lk35 := hts (.fieldLink RX9 35 "SkyLeasesModel" "seen" "[I") (by decide +kernel)
  have lk42 := hts (.fieldLink RX9 42 "SkyLeasesModel" "thrown" "I") (by decide +kernel)
  have lk127 := hts (.fieldLink RX9 127 "SkyLeasesModel" "seenMany" "I") (by decide +kernel)
  subst hsz
  have hD := hD0.self (sz := s.heap.size)
  generalize hAe : va_A [(a_this, .inr (9, [.int v_thrown, .long v_trace, .ref a_this_text, .int v_typed, .int v_next, .int v_token, .int v_place, .int v_value, .int v_fault, .int v_squares, .ref a_this_stars, .ref a_this_purses, .ref a_this_leases, .int v_starMany, .int v_tenants, .int v_draftSquares, .int v_draftStars, .int v_draftTenants, .int v_draftLeases, .ref a_this_s, .ref a_this_kept, .ref a_this_isKept, .ref a_this_offers, .int v_offerMany, .ref a_this_seen, .int v_seenMany])), (a_this_seen, .inl (G.2.1, 16, .inl v_seen))] s.heap.size = A at hD ⊢
  have hA : ∀ q : Nat, s.heap.size ≤ q → A q := fun q h => by rw [← hAe]; exact Or.inr h
  have hS : va_S A s.heap s.heap [] := va_S.rf
  have hP : va_P G.1 vwCl [(a_this, .inr (9, [.int v_thrown, .long v_trace, .ref a_this_text, .int v_typed, .int v_next, .int v_token, .int v_place, .int v_value, .int v_fault, .int v_squares, .ref a_this_stars, .ref a_this_purses, .ref a_this_leases, .int v_starMany, .int v_tenants, .int v_draftSquares, .int v_draftStars, .int v_draftTenants, .int v_draftLeases, .ref a_this_s, .ref a_this_kept, .ref a_this_isKept, .ref a_this_offers, .int v_offerMany, .ref a_this_seen, .int v_seenMany])), (a_this_seen, .inl (G.2.1, 16, .inl v_seen))] s.heap := hP
  have hl := lv_entry ([.ref a_this, .int g1, .int g2]) (n := 3) (Nat.le_of_ble_eq_true rfl)
  have hent : entryFrame m args 3 = F0 m 0 ((lg_sl ([.ref a_this, .int g1, .int g2]) ++ List.replicate (3 - (lg_sl ([.ref a_this, .int g1, .int g2])).length) Slot.unset).toArray) [] := by rw [hargs]; exact lg_entry_eq m [.ref a_this, .int g1, .int g2] 3
  refine W.eq hent ?_
  clear hent
  generalize (lg_sl ([.ref a_this, .int g1, .int g2]) ++ List.replicate (3 - (lg_sl ([.ref a_this, .int g1, .int g2])).length) Slot.unset).toArray = ls at hl ⊢
  have hl : lv_has ls 3 [(0, .ref a_this), (1, .int g1), (2, .int g2)] := hl
  generalize hQ : MQ below _ args s 0 0 _ = QQ
  change W p l e rm_X9_saw s m args below meth c s.heap [] 0 0 QQ _
  have hSH := hS
  unfold f_X9_saw at hf
  refine lv_aload_n hx hb dX9_saw_0 rfl (lv_at hl 0 rfl) ?_
  refine lv_iconst (v := (0 : Int32)) hx hb dX9_saw_1 (by decide) ?_
  refine va_put (D := G.1) (ci := 9) (v := .int (0 : Int32)) (ty := .int) (C := RX9) (T := TX9) (N := 26) hx hb hts inX9 tyX9 tyX9_ok nmX9 hown hK hP hD hS 0 rfl rfl 0 (by decide) lk42 (fun _ h9 => h9) rfl (by decide +kernel) rfl rfl (Nat.le_of_ble_eq_true rfl) dX9_saw_2 (fun H locs hP hD hS => ?_)
  have hP : va_P G.1 vwCl [(a_this, .inr (9, [.int (0 : Int32), .long v_trace, .ref a_this_text, .int v_typed, .int v_next, .int v_token, .int v_place, .int v_value, .int v_fault, .int v_squares, .ref a_this_stars, .ref a_this_purses, .ref a_this_leases, .int v_starMany, .int v_tenants, .int v_draftSquares, .int v_draftStars, .int v_draftTenants, .int v_draftLeases, .ref a_this_s, .ref a_this_kept, .ref a_this_isKept, .ref a_this_offers, .int v_offerMany, .ref a_this_seen, .int v_seenMany])), (a_this_seen, .inl (G.2.1, 16, .inl v_seen))] H := hP
  have hD : va_D A [(a_this, .inr (9, [.int (0 : Int32), .long v_trace, .ref a_this_text, .int v_typed, .int v_next, .int v_token, .int v_place, .int v_value, .int v_fault, .int v_squares, .ref a_this_stars, .ref a_this_purses, .ref a_this_leases, .int v_starMany, .int v_tenants, .int v_draftSquares, .int v_draftStars, .int v_draftTenants, .int v_draftLeases, .ref a_this_s, .ref a_this_kept, .ref a_this_isKept, .ref a_this_offers, .int v_offerMany, .ref a_this_seen, .int v_seenMany])), (a_this_seen, .inl (G.2.1, 16, .inl v_seen))] := hD
  refine lv_aload_n hx hb dX9_saw_5 rfl (lv_at hl 0 rfl) ?_
  refine lv_iload_n hx hb dX9_saw_6 rfl (lv_at hl 1 rfl) ?_
  obtain ⟨r10, hu, hf⟩ := bd1_some hf
  refine zRi (va_runV (As := [.int g1]) (rest := []) hC (c_X9_isStar l G a_this a_this_text a_this_stars a_this_purses a_this_leases a_this_s a_this_kept a_this_isKept a_this_offers a_this_seen ((0 : Int32)) (v_trace) (v_typed) (v_next) (v_token) (v_place) (v_value) (v_fault) (v_squares) (v_starMany) (v_tenants) (v_draftSquares) (v_draftStars) (v_draftTenants) (v_draftLeases) (v_offerMany) (v_seenMany) (g1) r10 hu) (cwV 1 hts gX9_saw_X9_isStar rfl rfl rfl hd_X9_isStar ⟨(Nat.le_of_ble_eq_true rfl), (Nat.le_of_ble_eq_true rfl)⟩) (zPV hE hP [0] rfl 0 rfl rfl) rfl rfl hl.1 rfl (lv_room (Nat.le_of_ble_eq_true rfl)) dX9_saw_7 ⟨Nat.zero_le _, Nat.zero_le _⟩) ?_
  refine lv_if_eq (tgt := 21) hx hb dX9_saw_10 (by decide) (fun hc11 => ?_) (fun hc11 => ?_)
  · have hf := if_t hf hc11
    refine lv_iconst (v := (-1 : Int32)) hx hb dX9_saw_21 (by decide) ?_
    obtain ⟨hr0, hr1, hr2, hr3⟩ := so4 hf
    subst hr0
    subst hr1
    subst hr2
    subst hr3
    rw [← hQ]
    exact W.iret (v := (-1 : Int32)) hx hb hr (fun t ht hW => ⟨⟨rfl, by rw [ht]; exact hP⟩, hS.F ht⟩) hS.2.2 dX9_saw_22
  · have hf := if_f hf hc11
    refine lv_aload_n hx hb dX9_saw_13 rfl (lv_at hl 0 rfl) ?_
    refine lv_iload_n hx hb dX9_saw_14 rfl (lv_at hl 2 rfl) ?_
    obtain ⟨r12, hu, hf⟩ := bd1_some hf
    refine zRi (va_runV (As := [.int g2]) (rest := []) hC (c_X9_isSquare l G a_this a_this_text a_this_stars a_this_purses a_this_leases a_this_s a_this_kept a_this_isKept a_this_offers a_this_seen ((0 : Int32)) (v_trace) (v_typed) (v_next) (v_token) (v_place) (v_value) (v_fault) (v_squares) (v_starMany) (v_tenants) (v_draftSquares) (v_draftStars) (v_draftTenants) (v_draftLeases) (v_offerMany) (v_seenMany) (g2) r12 hu) (cwV 1 hts gX9_saw_X9_isSquare rfl rfl rfl hd_X9_isSquare ⟨(Nat.le_of_ble_eq_true rfl), (Nat.le_of_ble_eq_true rfl)⟩) (zPV hE hP [0] rfl 0 rfl rfl) rfl rfl hl.1 rfl (lv_room (Nat.le_of_ble_eq_true rfl)) dX9_saw_15 ⟨Nat.zero_le _, Nat.zero_le _⟩) ?_
    refine lv_if_ne (tgt := 23) hx hb dX9_saw_18 (by decide) (fun hc13 => ?_) (fun hc13 => ?_)
    · have hf := if_f hf hc13
      refine lv_aload_n hx hb dX9_saw_23 rfl (lv_at hl 0 rfl) ?_
      refine va_get (D := G.1) (ci := 9) (v := .int v_seenMany) (C := RX9) (T := TX9) (N := 26) hx hb hts inX9 hown hK hP 0 rfl rfl 25 (by decide) lk127 (fun _ h9 => h9) rfl dX9_saw_24 ?_
      refine lv_bipush (v := (8 : Int32)) hx hb dX9_saw_27 (by decide) ?_
      refine lv_icmp_ne (tgt := 35) hx hb dX9_saw_29 (by decide) (fun hc14 => ?_) (fun hc14 => ?_)
      · have hf := if_f hf hc14
        refine lv_aload_n hx hb dX9_saw_35 rfl (lv_at hl 0 rfl) ?_
        refine va_get (D := G.1) (ci := 9) (v := .ref a_this_seen) (C := RX9) (T := TX9) (N := 26) hx hb hts inX9 hown hK hP 0 rfl rfl 24 (by decide) lk35 (fun _ h9 => h9) rfl dX9_saw_36 ?_
        refine lv_iconst (v := (2 : Int32)) hx hb dX9_saw_39 (by decide) ?_
        refine lv_aload_n hx hb dX9_saw_40 rfl (lv_at hl 0 rfl) ?_
        refine va_get (D := G.1) (ci := 9) (v := .int v_seenMany) (C := RX9) (T := TX9) (N := 26) hx hb hts inX9 hown hK hP 0 rfl rfl 25 (by decide) lk127 (fun _ h9 => h9) rfl dX9_saw_41 ?_
        refine lv_imul hx hb dX9_saw_44 ?_
        refine lv_iload_n hx hb dX9_saw_45 rfl (lv_at hl 1 rfl) ?_
        obtain ⟨hg15, hf⟩ := gd_some hf
        refine z_iast hx hb hK hP hD hS 1 0 rfl rfl (inB_in hg15) dX9_saw_46 (fun gg => [(a_this, .inr (9, [.int (0 : Int32), .long v_trace, .ref a_this_text, .int v_typed, .int v_next, .int v_token, .int v_place, .int v_value, .int v_fault, .int v_squares, .ref a_this_stars, .ref a_this_purses, .ref a_this_leases, .int v_starMany, .int v_tenants, .int v_draftSquares, .int v_draftStars, .int v_draftTenants, .int v_draftLeases, .ref a_this_s, .ref a_this_kept, .ref a_this_isKept, .ref a_this_offers, .int v_offerMany, .ref a_this_seen, .int v_seenMany])), (a_this_seen, .inl (G.2.1, 16, .inl gg))]) (fun gg => rfl) (fun y16 H locs ey16 hP hD hS => ?_)
        have hf := nm_to hf ey16
        have hP : va_P G.1 vwCl [(a_this, .inr (9, [.int (0 : Int32), .long v_trace, .ref a_this_text, .int v_typed, .int v_next, .int v_token, .int v_place, .int v_value, .int v_fault, .int v_squares, .ref a_this_stars, .ref a_this_purses, .ref a_this_leases, .int v_starMany, .int v_tenants, .int v_draftSquares, .int v_draftStars, .int v_draftTenants, .int v_draftLeases, .ref a_this_s, .ref a_this_kept, .ref a_this_isKept, .ref a_this_offers, .int v_offerMany, .ref a_this_seen, .int v_seenMany])), (a_this_seen, .inl (G.2.1, 16, .inl y16))] H := hP
        have hD : va_D A [(a_this, .inr (9, [.int (0 : Int32), .long v_trace, .ref a_this_text, .int v_typed, .int v_next, .int v_token, .int v_place, .int v_value, .int v_fault, .int v_squares, .ref a_this_stars, .ref a_this_purses, .ref a_this_leases, .int v_starMany, .int v_tenants, .int v_draftSquares, .int v_draftStars, .int v_draftTenants, .int v_draftLeases, .ref a_this_s, .ref a_this_kept, .ref a_this_isKept, .ref a_this_offers, .int v_offerMany, .ref a_this_seen, .int v_seenMany])), (a_this_seen, .inl (G.2.1, 16, .inl y16))] := hD
        refine lv_aload_n hx hb dX9_saw_47 rfl (lv_at hl 0 rfl) ?_
        refine va_get (D := G.1) (ci := 9) (v := .ref a_this_seen) (C := RX9) (T := TX9) (N := 26) hx hb hts inX9 hown hK hP 0 rfl rfl 24 (by decide) lk35 (fun _ h9 => h9) rfl dX9_saw_48 ?_
        refine lv_iconst (v := (2 : Int32)) hx hb dX9_saw_51 (by decide) ?_
        refine lv_aload_n hx hb dX9_saw_52 rfl (lv_at hl 0 rfl) ?_
        refine va_get (D := G.1) (ci := 9) (v := .int v_seenMany) (C := RX9) (T := TX9) (N := 26) hx hb hts inX9 hown hK hP 0 rfl rfl 25 (by decide) lk127 (fun _ h9 => h9) rfl dX9_saw_53 ?_
        refine lv_imul hx hb dX9_saw_56 ?_
        refine lv_iconst (v := (1 : Int32)) hx hb dX9_saw_57 (by decide) ?_
        refine lv_iadd hx hb dX9_saw_58 ?_
        refine lv_iload_n hx hb dX9_saw_59 rfl (lv_at hl 2 rfl) ?_
        obtain ⟨hg17, hf⟩ := gd_some hf
        refine z_iast hx hb hK hP hD hS 1 0 rfl rfl (inB_in hg17) dX9_saw_60 (fun gg => [(a_this, .inr (9, [.int (0 : Int32), .long v_trace, .ref a_this_text, .int v_typed, .int v_next, .int v_token, .int v_place, .int v_value, .int v_fault, .int v_squares, .ref a_this_stars, .ref a_this_purses, .ref a_this_leases, .int v_starMany, .int v_tenants, .int v_draftSquares, .int v_draftStars, .int v_draftTenants, .int v_draftLeases, .ref a_this_s, .ref a_this_kept, .ref a_this_isKept, .ref a_this_offers, .int v_offerMany, .ref a_this_seen, .int v_seenMany])), (a_this_seen, .inl (G.2.1, 16, .inl gg))]) (fun gg => rfl) (fun y18 H locs ey18 hP hD hS => ?_)
        have hf := nm_to hf ey18
        have hP : va_P G.1 vwCl [(a_this, .inr (9, [.int (0 : Int32), .long v_trace, .ref a_this_text, .int v_typed, .int v_next, .int v_token, .int v_place, .int v_value, .int v_fault, .int v_squares, .ref a_this_stars, .ref a_this_purses, .ref a_this_leases, .int v_starMany, .int v_tenants, .int v_draftSquares, .int v_draftStars, .int v_draftTenants, .int v_draftLeases, .ref a_this_s, .ref a_this_kept, .ref a_this_isKept, .ref a_this_offers, .int v_offerMany, .ref a_this_seen, .int v_seenMany])), (a_this_seen, .inl (G.2.1, 16, .inl y18))] H := hP
        have hD : va_D A [(a_this, .inr (9, [.int (0 : Int32), .long v_trace, .ref a_this_text, .int v_typed, .int v_next, .int v_token, .int v_place, .int v_value, .int v_fault, .int v_squares, .ref a_this_stars, .ref a_this_purses, .ref a_this_leases, .int v_starMany, .int v_tenants, .int v_draftSquares, .int v_draftStars, .int v_draftTenants, .int v_draftLeases, .ref a_this_s, .ref a_this_kept, .ref a_this_isKept, .ref a_this_offers, .int v_offerMany, .ref a_this_seen, .int v_seenMany])), (a_this_seen, .inl (G.2.1, 16, .inl y18))] := hD
        refine lv_aload_n hx hb dX9_saw_61 rfl (lv_at hl 0 rfl) ?_
        refine lv_dup hx hb dX9_saw_62 rfl ?_
        refine va_get (D := G.1) (ci := 9) (v := .int v_seenMany) (C := RX9) (T := TX9) (N := 26) hx hb hts inX9 hown hK hP 0 rfl rfl 25 (by decide) lk127 (fun _ h9 => h9) rfl dX9_saw_63 ?_
        refine lv_iconst (v := (1 : Int32)) hx hb dX9_saw_66 (by decide) ?_
        refine lv_iadd hx hb dX9_saw_67 ?_
        refine va_put (D := G.1) (ci := 9) (v := .int (v_seenMany + (1 : Int32))) (ty := .int) (C := RX9) (T := TX9) (N := 26) hx hb hts inX9 tyX9 tyX9_ok nmX9 hown hK hP hD hS 0 rfl rfl 25 (by decide) lk127 (fun _ h9 => h9) rfl (by decide +kernel) rfl rfl (Nat.le_of_ble_eq_true rfl) dX9_saw_68 (fun H locs hP hD hS => ?_)
        have hP : va_P G.1 vwCl [(a_this, .inr (9, [.int (0 : Int32), .long v_trace, .ref a_this_text, .int v_typed, .int v_next, .int v_token, .int v_place, .int v_value, .int v_fault, .int v_squares, .ref a_this_stars, .ref a_this_purses, .ref a_this_leases, .int v_starMany, .int v_tenants, .int v_draftSquares, .int v_draftStars, .int v_draftTenants, .int v_draftLeases, .ref a_this_s, .ref a_this_kept, .ref a_this_isKept, .ref a_this_offers, .int v_offerMany, .ref a_this_seen, .int (v_seenMany + (1 : Int32))])), (a_this_seen, .inl (G.2.1, 16, .inl y18))] H := hP
        have hD : va_D A [(a_this, .inr (9, [.int (0 : Int32), .long v_trace, .ref a_this_text, .int v_typed, .int v_next, .int v_token, .int v_place, .int v_value, .int v_fault, .int v_squares, .ref a_this_stars, .ref a_this_purses, .ref a_this_leases, .int v_starMany, .int v_tenants, .int v_draftSquares, .int v_draftStars, .int v_draftTenants, .int v_draftLeases, .ref a_this_s, .ref a_this_kept, .ref a_this_isKept, .ref a_this_offers, .int v_offerMany, .ref a_this_seen, .int (v_seenMany + (1 : Int32))])), (a_this_seen, .inl (G.2.1, 16, .inl y18))] := hD
        refine lv_aload_n hx hb dX9_saw_71 rfl (lv_at hl 0 rfl) ?_
        refine va_get (D := G.1) (ci := 9) (v := .int (v_seenMany + (1 : Int32))) (C := RX9) (T := TX9) (N := 26) hx hb hts inX9 hown hK hP 0 rfl rfl 25 (by decide) lk127 (fun _ h9 => h9) rfl dX9_saw_72 ?_
        obtain ⟨hr0, hr1, hr2, hr3⟩ := so4 hf
        subst hr0
        subst hr1
        subst hr2
        subst hr3
        rw [← hQ]
        exact W.iret (v := (v_seenMany + (1 : Int32))) hx hb hr (fun t ht hW => ⟨⟨rfl, by rw [ht]; exact hP⟩, hS.F ht⟩) hS.2.2 dX9_saw_75
      · have hf := if_t hf hc14
        refine lv_bipush (v := (-3 : Int32)) hx hb dX9_saw_32 (by decide) ?_
        obtain ⟨hr0, hr1, hr2, hr3⟩ := so4 hf
        subst hr0
        subst hr1
        subst hr2
        subst hr3
        rw [← hQ]
        exact W.iret (v := (-3 : Int32)) hx hb hr (fun t ht hW => ⟨⟨rfl, by rw [ht]; exact hP⟩, hS.F ht⟩) hS.2.2 dX9_saw_34
    · have hf := if_t hf hc13
      refine lv_iconst (v := (-1 : Int32)) hx hb dX9_saw_21 (by decide) ?_
      obtain ⟨hr0, hr1, hr2, hr3⟩ := so4 hf
      subst hr0
      subst hr1
      subst hr2
      subst hr3
      rw [← hQ]
      exact W.iret (v := (-1 : Int32)) hx hb hr (fun t ht hW => ⟨⟨rfl, by rw [ht]; exact hP⟩, hS.F ht⟩) hS.2.2 dX9_saw_22
def f_X9_forget  (v_thrown : Int32) (v_seenMany : Int32)  : Option (Int32 × Int32 × Int32) := some (v_seenMany, (0 : Int32), (0 : Int32))
abbrev rm_X9_forget : Room := { frames := 0, cells := 0, slots := 0, locals := 0 }
set_option maxHeartbeats 4000000 in
set_option maxRecDepth 100000 in
theorem c_X9_forget (l : Launch) (G : zG) (sz : Nat) (a_this : Nat) (a_this_text : Nat) (a_this_stars : Nat) (a_this_purses : Nat) (a_this_leases : Nat) (a_this_s : Nat) (a_this_kept : Nat) (a_this_isKept : Nat) (a_this_offers : Nat) (a_this_seen : Nat) (v_thrown : Int32) (v_trace : Int64) (v_typed : Int32) (v_next : Int32) (v_token : Int32) (v_place : Int32) (v_value : Int32) (v_fault : Int32) (v_squares : Int32) (v_starMany : Int32) (v_tenants : Int32) (v_draftSquares : Int32) (v_draftStars : Int32) (v_draftTenants : Int32) (v_draftLeases : Int32) (v_offerMany : Int32) (v_seenMany : Int32) (R0 : Int32) (R1 : Int32) (R2 : Int32) (hf : f_X9_forget v_thrown v_seenMany = some (R0, R1, R2)) : Met l yX9_forget wsX9_forget rm_X9_forget (va_Pc [.ref a_this] (zB G [(a_this, .inr (9, [.int v_thrown, .long v_trace, .ref a_this_text, .int v_typed, .int v_next, .int v_token, .int v_place, .int v_value, .int v_fault, .int v_squares, .ref a_this_stars, .ref a_this_purses, .ref a_this_leases, .int v_starMany, .int v_tenants, .int v_draftSquares, .int v_draftStars, .int v_draftTenants, .int v_draftLeases, .ref a_this_s, .ref a_this_kept, .ref a_this_isKept, .ref a_this_offers, .int v_offerMany, .ref a_this_seen, .int v_seenMany]))] sz)) (zQ G (some (.int R0)) [(a_this, .inr (9, [.int R1, .long v_trace, .ref a_this_text, .int v_typed, .int v_next, .int v_token, .int v_place, .int v_value, .int v_fault, .int v_squares, .ref a_this_stars, .ref a_this_purses, .ref a_this_leases, .int v_starMany, .int v_tenants, .int v_draftSquares, .int v_draftStars, .int v_draftTenants, .int v_draftLeases, .ref a_this_s, .ref a_this_kept, .ref a_this_isKept, .ref a_this_offers, .int v_offerMany, .ref a_this_seen, .int R2]))] (va_A [(a_this, .inr (9, [.int v_thrown, .long v_trace, .ref a_this_text, .int v_typed, .int v_next, .int v_token, .int v_place, .int v_value, .int v_fault, .int v_squares, .ref a_this_stars, .ref a_this_purses, .ref a_this_leases, .int v_starMany, .int v_tenants, .int v_draftSquares, .int v_draftStars, .int v_draftTenants, .int v_draftLeases, .ref a_this_s, .ref a_this_kept, .ref a_this_isKept, .ref a_this_offers, .int v_offerMany, .ref a_this_seen, .int v_seenMany]))] sz)) 0 0 (va_A [(a_this, .inr (9, [.int v_thrown, .long v_trace, .ref a_this_text, .int v_typed, .int v_next, .int v_token, .int v_place, .int v_value, .int v_fault, .int v_squares, .ref a_this_stars, .ref a_this_purses, .ref a_this_leases, .int v_starMany, .int v_tenants, .int v_draftSquares, .int v_draftStars, .int v_draftTenants, .int v_draftLeases, .ref a_this_s, .ref a_this_kept, .ref a_this_isKept, .ref a_this_offers, .int v_offerMany, .ref a_this_seen, .int v_seenMany]))] sz) := by
  refine Met.ofW (cc := cX9_forget) (maxL := 2) (ret := (some .int)) (by decide) rfl ?_
  intro p e s m args below meth c s₁ B hml hv
  obtain ⟨hargs, hsz, hP, hD0, hE⟩ := hv
  have hx := B.exec
  have hb := B.bytes
  have hr := B.returns
  have hts := atoms_spec (ws := wsX9_forget) B.pre
  have hown : s.vm.findClass RX9 = some m.cls := findClass_of_methodNamed B.named
  have hlocks := B.notSynchronized
  have hK := hE.1
  have hC : CallFix p m c cX9_forget 2 s args wsX9_forget RX9 := ⟨hx, hb, hml, hown, hts⟩
  have inX9 : ∀ w ∈ wsX90, w ∈ wsX9_forget := by decide +kernel
  have lk42 := hts (.fieldLink RX9 42 "SkyLeasesModel" "thrown" "I") (by decide +kernel)
  have lk127 := hts (.fieldLink RX9 127 "SkyLeasesModel" "seenMany" "I") (by decide +kernel)
  subst hsz
  have hD := hD0.self (sz := s.heap.size)
  generalize hAe : va_A [(a_this, .inr (9, [.int v_thrown, .long v_trace, .ref a_this_text, .int v_typed, .int v_next, .int v_token, .int v_place, .int v_value, .int v_fault, .int v_squares, .ref a_this_stars, .ref a_this_purses, .ref a_this_leases, .int v_starMany, .int v_tenants, .int v_draftSquares, .int v_draftStars, .int v_draftTenants, .int v_draftLeases, .ref a_this_s, .ref a_this_kept, .ref a_this_isKept, .ref a_this_offers, .int v_offerMany, .ref a_this_seen, .int v_seenMany]))] s.heap.size = A at hD ⊢
  have hA : ∀ q : Nat, s.heap.size ≤ q → A q := fun q h => by rw [← hAe]; exact Or.inr h
  have hS : va_S A s.heap s.heap [] := va_S.rf
  have hP : va_P G.1 vwCl [(a_this, .inr (9, [.int v_thrown, .long v_trace, .ref a_this_text, .int v_typed, .int v_next, .int v_token, .int v_place, .int v_value, .int v_fault, .int v_squares, .ref a_this_stars, .ref a_this_purses, .ref a_this_leases, .int v_starMany, .int v_tenants, .int v_draftSquares, .int v_draftStars, .int v_draftTenants, .int v_draftLeases, .ref a_this_s, .ref a_this_kept, .ref a_this_isKept, .ref a_this_offers, .int v_offerMany, .ref a_this_seen, .int v_seenMany]))] s.heap := hP
  have hl := lv_entry ([.ref a_this]) (n := 2) (Nat.le_of_ble_eq_true rfl)
  have hent : entryFrame m args 2 = F0 m 0 ((lg_sl ([.ref a_this]) ++ List.replicate (2 - (lg_sl ([.ref a_this])).length) Slot.unset).toArray) [] := by rw [hargs]; exact lg_entry_eq m [.ref a_this] 2
  refine W.eq hent ?_
  clear hent
  generalize (lg_sl ([.ref a_this]) ++ List.replicate (2 - (lg_sl ([.ref a_this])).length) Slot.unset).toArray = ls at hl ⊢
  have hl : lv_has ls 2 [(0, .ref a_this)] := hl
  generalize hQ : MQ below _ args s 0 0 _ = QQ
  change W p l e rm_X9_forget s m args below meth c s.heap [] 0 0 QQ _
  have hSH := hS
  unfold f_X9_forget at hf
  refine lv_aload_n hx hb dX9_forget_0 rfl (lv_at hl 0 rfl) ?_
  refine lv_iconst (v := (0 : Int32)) hx hb dX9_forget_1 (by decide) ?_
  refine va_put (D := G.1) (ci := 9) (v := .int (0 : Int32)) (ty := .int) (C := RX9) (T := TX9) (N := 26) hx hb hts inX9 tyX9 tyX9_ok nmX9 hown hK hP hD hS 0 rfl rfl 0 (by decide) lk42 (fun _ h9 => h9) rfl (by decide +kernel) rfl rfl (Nat.le_of_ble_eq_true rfl) dX9_forget_2 (fun H locs hP hD hS => ?_)
  have hP : va_P G.1 vwCl [(a_this, .inr (9, [.int (0 : Int32), .long v_trace, .ref a_this_text, .int v_typed, .int v_next, .int v_token, .int v_place, .int v_value, .int v_fault, .int v_squares, .ref a_this_stars, .ref a_this_purses, .ref a_this_leases, .int v_starMany, .int v_tenants, .int v_draftSquares, .int v_draftStars, .int v_draftTenants, .int v_draftLeases, .ref a_this_s, .ref a_this_kept, .ref a_this_isKept, .ref a_this_offers, .int v_offerMany, .ref a_this_seen, .int v_seenMany]))] H := hP
  have hD : va_D A [(a_this, .inr (9, [.int (0 : Int32), .long v_trace, .ref a_this_text, .int v_typed, .int v_next, .int v_token, .int v_place, .int v_value, .int v_fault, .int v_squares, .ref a_this_stars, .ref a_this_purses, .ref a_this_leases, .int v_starMany, .int v_tenants, .int v_draftSquares, .int v_draftStars, .int v_draftTenants, .int v_draftLeases, .ref a_this_s, .ref a_this_kept, .ref a_this_isKept, .ref a_this_offers, .int v_offerMany, .ref a_this_seen, .int v_seenMany]))] := hD
  refine lv_aload_n hx hb dX9_forget_5 rfl (lv_at hl 0 rfl) ?_
  refine va_get (D := G.1) (ci := 9) (v := .int v_seenMany) (C := RX9) (T := TX9) (N := 26) hx hb hts inX9 hown hK hP 0 rfl rfl 25 (by decide) lk127 (fun _ h9 => h9) rfl dX9_forget_6 ?_
  refine lv_istore_n (lv' := [(1, .int v_seenMany), (0, .ref a_this)]) hx hb dX9_forget_9 rfl hl (by decide) rfl (fun ls hl => ?_)
  refine lv_aload_n hx hb dX9_forget_10 rfl (lv_at hl 1 rfl) ?_
  refine lv_iconst (v := (0 : Int32)) hx hb dX9_forget_11 (by decide) ?_
  refine va_put (D := G.1) (ci := 9) (v := .int (0 : Int32)) (ty := .int) (C := RX9) (T := TX9) (N := 26) hx hb hts inX9 tyX9 tyX9_ok nmX9 hown hK hP hD hS 0 rfl rfl 25 (by decide) lk127 (fun _ h9 => h9) rfl (by decide +kernel) rfl rfl (Nat.le_of_ble_eq_true rfl) dX9_forget_12 (fun H locs hP hD hS => ?_)
  have hP : va_P G.1 vwCl [(a_this, .inr (9, [.int (0 : Int32), .long v_trace, .ref a_this_text, .int v_typed, .int v_next, .int v_token, .int v_place, .int v_value, .int v_fault, .int v_squares, .ref a_this_stars, .ref a_this_purses, .ref a_this_leases, .int v_starMany, .int v_tenants, .int v_draftSquares, .int v_draftStars, .int v_draftTenants, .int v_draftLeases, .ref a_this_s, .ref a_this_kept, .ref a_this_isKept, .ref a_this_offers, .int v_offerMany, .ref a_this_seen, .int (0 : Int32)]))] H := hP
  have hD : va_D A [(a_this, .inr (9, [.int (0 : Int32), .long v_trace, .ref a_this_text, .int v_typed, .int v_next, .int v_token, .int v_place, .int v_value, .int v_fault, .int v_squares, .ref a_this_stars, .ref a_this_purses, .ref a_this_leases, .int v_starMany, .int v_tenants, .int v_draftSquares, .int v_draftStars, .int v_draftTenants, .int v_draftLeases, .ref a_this_s, .ref a_this_kept, .ref a_this_isKept, .ref a_this_offers, .int v_offerMany, .ref a_this_seen, .int (0 : Int32)]))] := hD
  refine lv_iload_n hx hb dX9_forget_15 rfl (lv_at hl 0 rfl) ?_
  obtain ⟨hr0, hr1, hr2⟩ := so3 hf
  subst hr0
  subst hr1
  subst hr2
  rw [← hQ]
  exact W.iret (v := v_seenMany) hx hb hr (fun t ht hW => ⟨⟨rfl, by rw [ht]; exact hP⟩, hS.F ht⟩) hS.2.2 dX9_forget_16
def f_X9_dates_b86  (k38 : Int32 → Int32 → Option (Int32 × Int32))  (x6 : Int32) (t0 : Int32) : Option (Int32 × Int32) := k38 (t0) ((x6 + (1 : Int32)))
def f_X9_dates_b85  (k38 : Int32 → Int32 → Option (Int32 × Int32))  (x6 : Int32) : Option (Int32 × Int32) := f_X9_dates_b86 k38 (x6) ((0 : Int32))
def f_X9_dates_b121  (k24 : Int32 → Int32 → Int32 → Option (Int32 × Int32))  (x3 : Int32) (x4 : Int32) (t0 : Int32) (t1 : Int32) : Option (Int32 × Int32) := k24 ((t0 + t1)) (x3) ((x4 + (1 : Int32)))
def f_X9_dates_b109  (k24 : Int32 → Int32 → Int32 → Option (Int32 × Int32))  (x2 : Int32) (x4 : Int32) (x5 : Int32) (t0 : Int32) : Option (Int32 × Int32) := if x5 = (0 : Int32) then (f_X9_dates_b121 k24 (t0) (x4) (x2) ((0 : Int32))) else (f_X9_dates_b121 k24 (t0) (x4) (x2) ((1 : Int32)))
def f_X9_dates_b108  (k24 : Int32 → Int32 → Int32 → Option (Int32 × Int32))  (x2 : Int32) (x3 : Int32) (x4 : Int32) (x5 : Int32) : Option (Int32 × Int32) := f_X9_dates_b109 k24 (x2) (x4) (x5) (x3)
def f_X9_dates_b38 (v_squares : Int32) (v_seenMany : Int32) (v_seen : (Nat → Int32)) (v_stars : (Nat → Int32)) (k24 : Int32 → Int32 → Int32 → Option (Int32 × Int32)) (x2 : Int32) (x3 : Int32) (x4 : Int32) : Nat → Int32 → Int32 → Option (Int32 × Int32)
  | 0, _, _ => none
  | n38 + 1, x5, x6 => if v_seenMany ≤ x6 then (if x5 = (0 : Int32) then (f_X9_dates_b108 k24 (x2) (x3) (x4) (x5)) else (if x2 = (0 : Int32) then (f_X9_dates_b109 k24 (x2) (x4) (x5) (x4)) else (f_X9_dates_b108 k24 (x2) (x3) (x4) (x5)))) else (if x5 = (0 : Int32) then (f_X9_dates_b85 (f_X9_dates_b38 v_squares v_seenMany v_seen v_stars k24 x2 x3 x4 n38) (x6)) else (gd (inB ((2 : Int32) * x6) 16) (bd1 (f_X9_squareOf (v_squares) (v_stars) ((v_seen (((2 : Int32) * x6)).toNatClampNeg)) (x4)) fun r20 => gd (inB (((2 : Int32) * x6) + (1 : Int32)) 16) (if r20 = (v_seen ((((2 : Int32) * x6) + (1 : Int32))).toNatClampNeg) then (f_X9_dates_b86 (f_X9_dates_b38 v_squares v_seenMany v_seen v_stars k24 x2 x3 x4 n38) (x6) ((1 : Int32))) else (f_X9_dates_b85 (f_X9_dates_b38 v_squares v_seenMany v_seen v_stars k24 x2 x3 x4 n38) (x6))))))
def f_X9_dates_b24 (v_squares : Int32) (v_seenMany : Int32) (v_seen : (Nat → Int32)) (v_stars : (Nat → Int32))  (x1 : Int32) (v_thrown : Int32) : Nat → Int32 → Int32 → Int32 → Option (Int32 × Int32)
  | 0, _, _, _ => none
  | n24 + 1, x2, x3, x4 => if (1000 : Int32) ≤ x4 then (if x1 = (0 : Int32) then (some (x2, v_thrown)) else (some (x3, v_thrown))) else (f_X9_dates_b38 v_squares v_seenMany v_seen v_stars (f_X9_dates_b24 v_squares v_seenMany v_seen v_stars x1 v_thrown n24) (x2) (x3) (x4) zF ((1 : Int32)) ((0 : Int32)))
def f_X9_dates  (v_thrown : Int32) (v_squares : Int32) (v_seenMany : Int32) (v_seen : (Nat → Int32)) (v_stars : (Nat → Int32)) (g1 : Int32) : Option (Int32 × Int32) := bd1 (f_X9_in (g1) ((0 : Int32)) ((1 : Int32))) fun r25 => if r25 = (0 : Int32) then (some ((-1 : Int32), (0 : Int32))) else (f_X9_dates_b24 v_squares v_seenMany v_seen v_stars (g1) ((0 : Int32)) zF ((0 : Int32)) ((-9 : Int32)) ((0 : Int32)))
abbrev rm_X9_dates : Room := { frames := 1, cells := 0, slots := 0, locals := 23 }
set_option maxHeartbeats 4000000 in
set_option maxRecDepth 100000 in
theorem c_X9_dates (l : Launch) (G : zG) (sz : Nat) (a_this : Nat) (a_this_seen : Nat) (a_this_stars : Nat) (a_this_text : Nat) (a_this_purses : Nat) (a_this_leases : Nat) (a_this_s : Nat) (a_this_kept : Nat) (a_this_isKept : Nat) (a_this_offers : Nat) (v_thrown : Int32) (v_trace : Int64) (v_typed : Int32) (v_next : Int32) (v_token : Int32) (v_place : Int32) (v_value : Int32) (v_fault : Int32) (v_squares : Int32) (v_starMany : Int32) (v_tenants : Int32) (v_draftSquares : Int32) (v_draftStars : Int32) (v_draftTenants : Int32) (v_draftLeases : Int32) (v_offerMany : Int32) (v_seenMany : Int32) (v_seen : (Nat → Int32)) (v_stars : (Nat → Int32)) (g1 : Int32) (R0 : Int32) (R1 : Int32) (hf : f_X9_dates v_thrown v_squares v_seenMany v_seen v_stars g1 = some (R0, R1)) : Met l yX9_dates wsX9_dates rm_X9_dates (va_Pc [.ref a_this, .int g1] (zB G [(a_this, .inr (9, [.int v_thrown, .long v_trace, .ref a_this_text, .int v_typed, .int v_next, .int v_token, .int v_place, .int v_value, .int v_fault, .int v_squares, .ref a_this_stars, .ref a_this_purses, .ref a_this_leases, .int v_starMany, .int v_tenants, .int v_draftSquares, .int v_draftStars, .int v_draftTenants, .int v_draftLeases, .ref a_this_s, .ref a_this_kept, .ref a_this_isKept, .ref a_this_offers, .int v_offerMany, .ref a_this_seen, .int v_seenMany])), (a_this_seen, .inl (G.2.1, 16, .inl v_seen)), (a_this_stars, .inl (G.2.1, 48, .inl v_stars))] sz)) (zQ G (some (.int R0)) [(a_this, .inr (9, [.int R1, .long v_trace, .ref a_this_text, .int v_typed, .int v_next, .int v_token, .int v_place, .int v_value, .int v_fault, .int v_squares, .ref a_this_stars, .ref a_this_purses, .ref a_this_leases, .int v_starMany, .int v_tenants, .int v_draftSquares, .int v_draftStars, .int v_draftTenants, .int v_draftLeases, .ref a_this_s, .ref a_this_kept, .ref a_this_isKept, .ref a_this_offers, .int v_offerMany, .ref a_this_seen, .int v_seenMany])), (a_this_seen, .inl (G.2.1, 16, .inl v_seen)), (a_this_stars, .inl (G.2.1, 48, .inl v_stars))] (va_A [(a_this, .inr (9, [.int v_thrown, .long v_trace, .ref a_this_text, .int v_typed, .int v_next, .int v_token, .int v_place, .int v_value, .int v_fault, .int v_squares, .ref a_this_stars, .ref a_this_purses, .ref a_this_leases, .int v_starMany, .int v_tenants, .int v_draftSquares, .int v_draftStars, .int v_draftTenants, .int v_draftLeases, .ref a_this_s, .ref a_this_kept, .ref a_this_isKept, .ref a_this_offers, .int v_offerMany, .ref a_this_seen, .int v_seenMany])), (a_this_seen, .inl (G.2.1, 16, .inl v_seen)), (a_this_stars, .inl (G.2.1, 48, .inl v_stars))] sz)) 0 0 (va_A [(a_this, .inr (9, [.int v_thrown, .long v_trace, .ref a_this_text, .int v_typed, .int v_next, .int v_token, .int v_place, .int v_value, .int v_fault, .int v_squares, .ref a_this_stars, .ref a_this_purses, .ref a_this_leases, .int v_starMany, .int v_tenants, .int v_draftSquares, .int v_draftStars, .int v_draftTenants, .int v_draftLeases, .ref a_this_s, .ref a_this_kept, .ref a_this_isKept, .ref a_this_offers, .int v_offerMany, .ref a_this_seen, .int v_seenMany])), (a_this_seen, .inl (G.2.1, 16, .inl v_seen)), (a_this_stars, .inl (G.2.1, 48, .inl v_stars))] sz) := by
  refine Met.ofW (cc := cX9_dates) (maxL := 7) (ret := (some .int)) (by decide) rfl ?_
  intro p e s m args below meth c s₁ B hml hv
  obtain ⟨hargs, hsz, hP, hD0, hE⟩ := hv
  have hx := B.exec
  have hb := B.bytes
  have hr := B.returns
  have hts := atoms_spec (ws := wsX9_dates) B.pre
  have hown : s.vm.findClass RX9 = some m.cls := findClass_of_methodNamed B.named
  have hlocks := B.notSynchronized
  have hK := hE.1
  have hC : CallFix p m c cX9_dates 7 s args wsX9_dates RX9 := ⟨hx, hb, hml, hown, hts⟩
  have inX9 : ∀ w ∈ wsX90, w ∈ wsX9_dates := by decide +kernel
  have lk35 := hts (.fieldLink RX9 35 "SkyLeasesModel" "seen" "[I") (by decide +kernel)
  have lk42 := hts (.fieldLink RX9 42 "SkyLeasesModel" "thrown" "I") (by decide +kernel)
  have lk127 := hts (.fieldLink RX9 127 "SkyLeasesModel" "seenMany" "I") (by decide +kernel)
  subst hsz
  have hD := hD0.self (sz := s.heap.size)
  generalize hAe : va_A [(a_this, .inr (9, [.int v_thrown, .long v_trace, .ref a_this_text, .int v_typed, .int v_next, .int v_token, .int v_place, .int v_value, .int v_fault, .int v_squares, .ref a_this_stars, .ref a_this_purses, .ref a_this_leases, .int v_starMany, .int v_tenants, .int v_draftSquares, .int v_draftStars, .int v_draftTenants, .int v_draftLeases, .ref a_this_s, .ref a_this_kept, .ref a_this_isKept, .ref a_this_offers, .int v_offerMany, .ref a_this_seen, .int v_seenMany])), (a_this_seen, .inl (G.2.1, 16, .inl v_seen)), (a_this_stars, .inl (G.2.1, 48, .inl v_stars))] s.heap.size = A at hD ⊢
  have hA : ∀ q : Nat, s.heap.size ≤ q → A q := fun q h => by rw [← hAe]; exact Or.inr h
  have hS : va_S A s.heap s.heap [] := va_S.rf
  have hP : va_P G.1 vwCl [(a_this, .inr (9, [.int v_thrown, .long v_trace, .ref a_this_text, .int v_typed, .int v_next, .int v_token, .int v_place, .int v_value, .int v_fault, .int v_squares, .ref a_this_stars, .ref a_this_purses, .ref a_this_leases, .int v_starMany, .int v_tenants, .int v_draftSquares, .int v_draftStars, .int v_draftTenants, .int v_draftLeases, .ref a_this_s, .ref a_this_kept, .ref a_this_isKept, .ref a_this_offers, .int v_offerMany, .ref a_this_seen, .int v_seenMany])), (a_this_seen, .inl (G.2.1, 16, .inl v_seen)), (a_this_stars, .inl (G.2.1, 48, .inl v_stars))] s.heap := hP
  have hl := lv_entry ([.ref a_this, .int g1]) (n := 7) (Nat.le_of_ble_eq_true rfl)
  have hent : entryFrame m args 7 = F0 m 0 ((lg_sl ([.ref a_this, .int g1]) ++ List.replicate (7 - (lg_sl ([.ref a_this, .int g1])).length) Slot.unset).toArray) [] := by rw [hargs]; exact lg_entry_eq m [.ref a_this, .int g1] 7
  refine W.eq hent ?_
  clear hent
  generalize (lg_sl ([.ref a_this, .int g1]) ++ List.replicate (7 - (lg_sl ([.ref a_this, .int g1])).length) Slot.unset).toArray = ls at hl ⊢
  have hl : lv_has ls 7 [(0, .ref a_this), (1, .int g1)] := hl
  generalize hQ : MQ below _ args s 0 0 _ = QQ
  change W p l e rm_X9_dates s m args below meth c s.heap [] 0 0 QQ _
  have j86 : ∀ (x1 : Int32), ∀ (x2 : Int32), ∀ (x3 : Int32), ∀ (x4 : Int32), ∀ (v_thrown : Int32), ∀ (k38 : Int32 → Int32 → Option (Int32 × Int32)), (∀ (x5 : Int32), ∀ (x6 : Int32), ∀ (ls : Array Slot), lv_has ls 7 [(0, .ref a_this), (1, .int x1), (2, .int x2), (3, .int x3), (4, .int x4), (5, .int x5), (6, .int x6)] → ∀ (H : Heap) (locs : List Loc), va_P G.1 vwCl [(a_this, .inr (9, [.int v_thrown, .long v_trace, .ref a_this_text, .int v_typed, .int v_next, .int v_token, .int v_place, .int v_value, .int v_fault, .int v_squares, .ref a_this_stars, .ref a_this_purses, .ref a_this_leases, .int v_starMany, .int v_tenants, .int v_draftSquares, .int v_draftStars, .int v_draftTenants, .int v_draftLeases, .ref a_this_s, .ref a_this_kept, .ref a_this_isKept, .ref a_this_offers, .int v_offerMany, .ref a_this_seen, .int v_seenMany])), (a_this_seen, .inl (G.2.1, 16, .inl v_seen)), (a_this_stars, .inl (G.2.1, 48, .inl v_stars))] H → va_D A [(a_this, .inr (9, [.int v_thrown, .long v_trace, .ref a_this_text, .int v_typed, .int v_next, .int v_token, .int v_place, .int v_value, .int v_fault, .int v_squares, .ref a_this_stars, .ref a_this_purses, .ref a_this_leases, .int v_starMany, .int v_tenants, .int v_draftSquares, .int v_draftStars, .int v_draftTenants, .int v_draftLeases, .ref a_this_s, .ref a_this_kept, .ref a_this_isKept, .ref a_this_offers, .int v_offerMany, .ref a_this_seen, .int v_seenMany])), (a_this_seen, .inl (G.2.1, 16, .inl v_seen)), (a_this_stars, .inl (G.2.1, 48, .inl v_stars))] → va_S A s.heap H locs → k38 x5 x6 = some (R0, R1) → W p l e rm_X9_dates s m args below meth c H locs 0 0 QQ (F0 m 38 ls [])) → ∀ (x6 : Int32), ∀ (t0 : Int32), ∀ (ls : Array Slot), lv_has ls 7 [(0, .ref a_this), (1, .int x1), (2, .int x2), (3, .int x3), (4, .int x4), (6, .int x6)] → ∀ (H : Heap) (locs : List Loc), va_P G.1 vwCl [(a_this, .inr (9, [.int v_thrown, .long v_trace, .ref a_this_text, .int v_typed, .int v_next, .int v_token, .int v_place, .int v_value, .int v_fault, .int v_squares, .ref a_this_stars, .ref a_this_purses, .ref a_this_leases, .int v_starMany, .int v_tenants, .int v_draftSquares, .int v_draftStars, .int v_draftTenants, .int v_draftLeases, .ref a_this_s, .ref a_this_kept, .ref a_this_isKept, .ref a_this_offers, .int v_offerMany, .ref a_this_seen, .int v_seenMany])), (a_this_seen, .inl (G.2.1, 16, .inl v_seen)), (a_this_stars, .inl (G.2.1, 48, .inl v_stars))] H → va_D A [(a_this, .inr (9, [.int v_thrown, .long v_trace, .ref a_this_text, .int v_typed, .int v_next, .int v_token, .int v_place, .int v_value, .int v_fault, .int v_squares, .ref a_this_stars, .ref a_this_purses, .ref a_this_leases, .int v_starMany, .int v_tenants, .int v_draftSquares, .int v_draftStars, .int v_draftTenants, .int v_draftLeases, .ref a_this_s, .ref a_this_kept, .ref a_this_isKept, .ref a_this_offers, .int v_offerMany, .ref a_this_seen, .int v_seenMany])), (a_this_seen, .inl (G.2.1, 16, .inl v_seen)), (a_this_stars, .inl (G.2.1, 48, .inl v_stars))] → va_S A s.heap H locs → f_X9_dates_b86 k38 x6 t0 = some (R0, R1) → W p l e rm_X9_dates s m args below meth c H locs 0 0 QQ (F0 m 86 ls [.int t0]) := by
    intro x1 x2 x3 x4 v_thrown k38 hk38 x6 t0 ls hl H locs hP hD hS hf
    unfold f_X9_dates_b86 at hf
    refine lv_istore (lv' := [(5, .int t0), (0, .ref a_this), (1, .int x1), (2, .int x2), (3, .int x3), (4, .int x4), (6, .int x6)]) hx hb dX9_dates_86 hl (by decide) rfl (fun ls hl => ?_)
    refine lv_iinc (v := (x6 + (1 : Int32))) (lv' := [(6, .int (x6 + (1 : Int32))), (5, .int t0), (0, .ref a_this), (1, .int x1), (2, .int x2), (3, .int x3), (4, .int x4)]) hx hb dX9_dates_88 hl (k := 6) rfl rfl (by decide) rfl (fun ls hl => ?_)
    refine lv_goto (tgt := 38) hx hb dX9_dates_91 (by decide) ?_
    exact hk38 (t0) ((x6 + (1 : Int32))) ls (lv_sub hl [2, 3, 4, 5, 6, 1, 0] rfl) _ _ hP hD hS hf
  have j85 : ∀ (x1 : Int32), ∀ (x2 : Int32), ∀ (x3 : Int32), ∀ (x4 : Int32), ∀ (v_thrown : Int32), ∀ (k38 : Int32 → Int32 → Option (Int32 × Int32)), (∀ (x5 : Int32), ∀ (x6 : Int32), ∀ (ls : Array Slot), lv_has ls 7 [(0, .ref a_this), (1, .int x1), (2, .int x2), (3, .int x3), (4, .int x4), (5, .int x5), (6, .int x6)] → ∀ (H : Heap) (locs : List Loc), va_P G.1 vwCl [(a_this, .inr (9, [.int v_thrown, .long v_trace, .ref a_this_text, .int v_typed, .int v_next, .int v_token, .int v_place, .int v_value, .int v_fault, .int v_squares, .ref a_this_stars, .ref a_this_purses, .ref a_this_leases, .int v_starMany, .int v_tenants, .int v_draftSquares, .int v_draftStars, .int v_draftTenants, .int v_draftLeases, .ref a_this_s, .ref a_this_kept, .ref a_this_isKept, .ref a_this_offers, .int v_offerMany, .ref a_this_seen, .int v_seenMany])), (a_this_seen, .inl (G.2.1, 16, .inl v_seen)), (a_this_stars, .inl (G.2.1, 48, .inl v_stars))] H → va_D A [(a_this, .inr (9, [.int v_thrown, .long v_trace, .ref a_this_text, .int v_typed, .int v_next, .int v_token, .int v_place, .int v_value, .int v_fault, .int v_squares, .ref a_this_stars, .ref a_this_purses, .ref a_this_leases, .int v_starMany, .int v_tenants, .int v_draftSquares, .int v_draftStars, .int v_draftTenants, .int v_draftLeases, .ref a_this_s, .ref a_this_kept, .ref a_this_isKept, .ref a_this_offers, .int v_offerMany, .ref a_this_seen, .int v_seenMany])), (a_this_seen, .inl (G.2.1, 16, .inl v_seen)), (a_this_stars, .inl (G.2.1, 48, .inl v_stars))] → va_S A s.heap H locs → k38 x5 x6 = some (R0, R1) → W p l e rm_X9_dates s m args below meth c H locs 0 0 QQ (F0 m 38 ls [])) → ∀ (x6 : Int32), ∀ (ls : Array Slot), lv_has ls 7 [(0, .ref a_this), (1, .int x1), (2, .int x2), (3, .int x3), (4, .int x4), (6, .int x6)] → ∀ (H : Heap) (locs : List Loc), va_P G.1 vwCl [(a_this, .inr (9, [.int v_thrown, .long v_trace, .ref a_this_text, .int v_typed, .int v_next, .int v_token, .int v_place, .int v_value, .int v_fault, .int v_squares, .ref a_this_stars, .ref a_this_purses, .ref a_this_leases, .int v_starMany, .int v_tenants, .int v_draftSquares, .int v_draftStars, .int v_draftTenants, .int v_draftLeases, .ref a_this_s, .ref a_this_kept, .ref a_this_isKept, .ref a_this_offers, .int v_offerMany, .ref a_this_seen, .int v_seenMany])), (a_this_seen, .inl (G.2.1, 16, .inl v_seen)), (a_this_stars, .inl (G.2.1, 48, .inl v_stars))] H → va_D A [(a_this, .inr (9, [.int v_thrown, .long v_trace, .ref a_this_text, .int v_typed, .int v_next, .int v_token, .int v_place, .int v_value, .int v_fault, .int v_squares, .ref a_this_stars, .ref a_this_purses, .ref a_this_leases, .int v_starMany, .int v_tenants, .int v_draftSquares, .int v_draftStars, .int v_draftTenants, .int v_draftLeases, .ref a_this_s, .ref a_this_kept, .ref a_this_isKept, .ref a_this_offers, .int v_offerMany, .ref a_this_seen, .int v_seenMany])), (a_this_seen, .inl (G.2.1, 16, .inl v_seen)), (a_this_stars, .inl (G.2.1, 48, .inl v_stars))] → va_S A s.heap H locs → f_X9_dates_b85 k38 x6 = some (R0, R1) → W p l e rm_X9_dates s m args below meth c H locs 0 0 QQ (F0 m 85 ls []) := by
    intro x1 x2 x3 x4 v_thrown k38 hk38 x6 ls hl H locs hP hD hS hf
    unfold f_X9_dates_b85 at hf
    refine lv_iconst (v := (0 : Int32)) hx hb dX9_dates_85 (by decide) ?_
    exact j86 (x1) (x2) (x3) (x4) (v_thrown) k38 hk38 (x6) ((0 : Int32)) ls (lv_sub hl [0, 1, 2, 3, 4, 5] rfl) _ _ hP hD hS hf
  have j121 : ∀ (x1 : Int32), ∀ (v_thrown : Int32), ∀ (k24 : Int32 → Int32 → Int32 → Option (Int32 × Int32)), (∀ (x2 : Int32), ∀ (x3 : Int32), ∀ (x4 : Int32), ∀ (ls : Array Slot), lv_has ls 7 [(0, .ref a_this), (1, .int x1), (2, .int x2), (3, .int x3), (4, .int x4)] → ∀ (H : Heap) (locs : List Loc), va_P G.1 vwCl [(a_this, .inr (9, [.int v_thrown, .long v_trace, .ref a_this_text, .int v_typed, .int v_next, .int v_token, .int v_place, .int v_value, .int v_fault, .int v_squares, .ref a_this_stars, .ref a_this_purses, .ref a_this_leases, .int v_starMany, .int v_tenants, .int v_draftSquares, .int v_draftStars, .int v_draftTenants, .int v_draftLeases, .ref a_this_s, .ref a_this_kept, .ref a_this_isKept, .ref a_this_offers, .int v_offerMany, .ref a_this_seen, .int v_seenMany])), (a_this_seen, .inl (G.2.1, 16, .inl v_seen)), (a_this_stars, .inl (G.2.1, 48, .inl v_stars))] H → va_D A [(a_this, .inr (9, [.int v_thrown, .long v_trace, .ref a_this_text, .int v_typed, .int v_next, .int v_token, .int v_place, .int v_value, .int v_fault, .int v_squares, .ref a_this_stars, .ref a_this_purses, .ref a_this_leases, .int v_starMany, .int v_tenants, .int v_draftSquares, .int v_draftStars, .int v_draftTenants, .int v_draftLeases, .ref a_this_s, .ref a_this_kept, .ref a_this_isKept, .ref a_this_offers, .int v_offerMany, .ref a_this_seen, .int v_seenMany])), (a_this_seen, .inl (G.2.1, 16, .inl v_seen)), (a_this_stars, .inl (G.2.1, 48, .inl v_stars))] → va_S A s.heap H locs → k24 x2 x3 x4 = some (R0, R1) → W p l e rm_X9_dates s m args below meth c H locs 0 0 QQ (F0 m 24 ls [])) → ∀ (x3 : Int32), ∀ (x4 : Int32), ∀ (t0 : Int32), ∀ (t1 : Int32), ∀ (ls : Array Slot), lv_has ls 7 [(0, .ref a_this), (1, .int x1), (3, .int x3), (4, .int x4)] → ∀ (H : Heap) (locs : List Loc), va_P G.1 vwCl [(a_this, .inr (9, [.int v_thrown, .long v_trace, .ref a_this_text, .int v_typed, .int v_next, .int v_token, .int v_place, .int v_value, .int v_fault, .int v_squares, .ref a_this_stars, .ref a_this_purses, .ref a_this_leases, .int v_starMany, .int v_tenants, .int v_draftSquares, .int v_draftStars, .int v_draftTenants, .int v_draftLeases, .ref a_this_s, .ref a_this_kept, .ref a_this_isKept, .ref a_this_offers, .int v_offerMany, .ref a_this_seen, .int v_seenMany])), (a_this_seen, .inl (G.2.1, 16, .inl v_seen)), (a_this_stars, .inl (G.2.1, 48, .inl v_stars))] H → va_D A [(a_this, .inr (9, [.int v_thrown, .long v_trace, .ref a_this_text, .int v_typed, .int v_next, .int v_token, .int v_place, .int v_value, .int v_fault, .int v_squares, .ref a_this_stars, .ref a_this_purses, .ref a_this_leases, .int v_starMany, .int v_tenants, .int v_draftSquares, .int v_draftStars, .int v_draftTenants, .int v_draftLeases, .ref a_this_s, .ref a_this_kept, .ref a_this_isKept, .ref a_this_offers, .int v_offerMany, .ref a_this_seen, .int v_seenMany])), (a_this_seen, .inl (G.2.1, 16, .inl v_seen)), (a_this_stars, .inl (G.2.1, 48, .inl v_stars))] → va_S A s.heap H locs → f_X9_dates_b121 k24 x3 x4 t0 t1 = some (R0, R1) → W p l e rm_X9_dates s m args below meth c H locs 0 0 QQ (F0 m 121 ls [.int t1, .int t0]) := by
    intro x1 v_thrown k24 hk24 x3 x4 t0 t1 ls hl H locs hP hD hS hf
    unfold f_X9_dates_b121 at hf
    refine lv_iadd hx hb dX9_dates_121 ?_
    refine lv_istore_n (lv' := [(2, .int (t0 + t1)), (0, .ref a_this), (1, .int x1), (3, .int x3), (4, .int x4)]) hx hb dX9_dates_122 rfl hl (by decide) rfl (fun ls hl => ?_)
    refine lv_iinc (v := (x4 + (1 : Int32))) (lv' := [(4, .int (x4 + (1 : Int32))), (2, .int (t0 + t1)), (0, .ref a_this), (1, .int x1), (3, .int x3)]) hx hb dX9_dates_123 hl (k := 4) rfl rfl (by decide) rfl (fun ls hl => ?_)
    refine lv_goto (tgt := 24) hx hb dX9_dates_126 (by decide) ?_
    exact hk24 ((t0 + t1)) (x3) ((x4 + (1 : Int32))) ls (lv_sub hl [2, 3, 1, 4, 0] rfl) _ _ hP hD hS hf
  have j109 : ∀ (x1 : Int32), ∀ (v_thrown : Int32), ∀ (k24 : Int32 → Int32 → Int32 → Option (Int32 × Int32)), (∀ (x2 : Int32), ∀ (x3 : Int32), ∀ (x4 : Int32), ∀ (ls : Array Slot), lv_has ls 7 [(0, .ref a_this), (1, .int x1), (2, .int x2), (3, .int x3), (4, .int x4)] → ∀ (H : Heap) (locs : List Loc), va_P G.1 vwCl [(a_this, .inr (9, [.int v_thrown, .long v_trace, .ref a_this_text, .int v_typed, .int v_next, .int v_token, .int v_place, .int v_value, .int v_fault, .int v_squares, .ref a_this_stars, .ref a_this_purses, .ref a_this_leases, .int v_starMany, .int v_tenants, .int v_draftSquares, .int v_draftStars, .int v_draftTenants, .int v_draftLeases, .ref a_this_s, .ref a_this_kept, .ref a_this_isKept, .ref a_this_offers, .int v_offerMany, .ref a_this_seen, .int v_seenMany])), (a_this_seen, .inl (G.2.1, 16, .inl v_seen)), (a_this_stars, .inl (G.2.1, 48, .inl v_stars))] H → va_D A [(a_this, .inr (9, [.int v_thrown, .long v_trace, .ref a_this_text, .int v_typed, .int v_next, .int v_token, .int v_place, .int v_value, .int v_fault, .int v_squares, .ref a_this_stars, .ref a_this_purses, .ref a_this_leases, .int v_starMany, .int v_tenants, .int v_draftSquares, .int v_draftStars, .int v_draftTenants, .int v_draftLeases, .ref a_this_s, .ref a_this_kept, .ref a_this_isKept, .ref a_this_offers, .int v_offerMany, .ref a_this_seen, .int v_seenMany])), (a_this_seen, .inl (G.2.1, 16, .inl v_seen)), (a_this_stars, .inl (G.2.1, 48, .inl v_stars))] → va_S A s.heap H locs → k24 x2 x3 x4 = some (R0, R1) → W p l e rm_X9_dates s m args below meth c H locs 0 0 QQ (F0 m 24 ls [])) → ∀ (x2 : Int32), ∀ (x4 : Int32), ∀ (x5 : Int32), ∀ (t0 : Int32), ∀ (ls : Array Slot), lv_has ls 7 [(0, .ref a_this), (1, .int x1), (2, .int x2), (4, .int x4), (5, .int x5)] → ∀ (H : Heap) (locs : List Loc), va_P G.1 vwCl [(a_this, .inr (9, [.int v_thrown, .long v_trace, .ref a_this_text, .int v_typed, .int v_next, .int v_token, .int v_place, .int v_value, .int v_fault, .int v_squares, .ref a_this_stars, .ref a_this_purses, .ref a_this_leases, .int v_starMany, .int v_tenants, .int v_draftSquares, .int v_draftStars, .int v_draftTenants, .int v_draftLeases, .ref a_this_s, .ref a_this_kept, .ref a_this_isKept, .ref a_this_offers, .int v_offerMany, .ref a_this_seen, .int v_seenMany])), (a_this_seen, .inl (G.2.1, 16, .inl v_seen)), (a_this_stars, .inl (G.2.1, 48, .inl v_stars))] H → va_D A [(a_this, .inr (9, [.int v_thrown, .long v_trace, .ref a_this_text, .int v_typed, .int v_next, .int v_token, .int v_place, .int v_value, .int v_fault, .int v_squares, .ref a_this_stars, .ref a_this_purses, .ref a_this_leases, .int v_starMany, .int v_tenants, .int v_draftSquares, .int v_draftStars, .int v_draftTenants, .int v_draftLeases, .ref a_this_s, .ref a_this_kept, .ref a_this_isKept, .ref a_this_offers, .int v_offerMany, .ref a_this_seen, .int v_seenMany])), (a_this_seen, .inl (G.2.1, 16, .inl v_seen)), (a_this_stars, .inl (G.2.1, 48, .inl v_stars))] → va_S A s.heap H locs → f_X9_dates_b109 k24 x2 x4 x5 t0 = some (R0, R1) → W p l e rm_X9_dates s m args below meth c H locs 0 0 QQ (F0 m 109 ls [.int t0]) := by
    intro x1 v_thrown k24 hk24 x2 x4 x5 t0 ls hl H locs hP hD hS hf
    unfold f_X9_dates_b109 at hf
    refine lv_istore_n (lv' := [(3, .int t0), (0, .ref a_this), (1, .int x1), (2, .int x2), (4, .int x4), (5, .int x5)]) hx hb dX9_dates_109 rfl hl (by decide) rfl (fun ls hl => ?_)
    refine lv_iload_n hx hb dX9_dates_110 rfl (lv_at hl 3 rfl) ?_
    refine lv_iload hx hb dX9_dates_111 (lv_at hl 5 rfl) ?_
    refine lv_if_eq (tgt := 120) hx hb dX9_dates_113 (by decide) (fun hc14 => ?_) (fun hc14 => ?_)
    · have hf := if_t hf hc14
      refine lv_iconst (v := (0 : Int32)) hx hb dX9_dates_120 (by decide) ?_
      exact j121 (x1) (v_thrown) k24 hk24 (t0) (x4) (x2) ((0 : Int32)) ls (lv_sub hl [1, 2, 0, 4] rfl) _ _ hP hD hS hf
    · have hf := if_f hf hc14
      refine lv_iconst (v := (1 : Int32)) hx hb dX9_dates_116 (by decide) ?_
      refine lv_goto (tgt := 121) hx hb dX9_dates_117 (by decide) ?_
      exact j121 (x1) (v_thrown) k24 hk24 (t0) (x4) (x2) ((1 : Int32)) ls (lv_sub hl [1, 2, 0, 4] rfl) _ _ hP hD hS hf
  have j108 : ∀ (x1 : Int32), ∀ (v_thrown : Int32), ∀ (k24 : Int32 → Int32 → Int32 → Option (Int32 × Int32)), (∀ (x2 : Int32), ∀ (x3 : Int32), ∀ (x4 : Int32), ∀ (ls : Array Slot), lv_has ls 7 [(0, .ref a_this), (1, .int x1), (2, .int x2), (3, .int x3), (4, .int x4)] → ∀ (H : Heap) (locs : List Loc), va_P G.1 vwCl [(a_this, .inr (9, [.int v_thrown, .long v_trace, .ref a_this_text, .int v_typed, .int v_next, .int v_token, .int v_place, .int v_value, .int v_fault, .int v_squares, .ref a_this_stars, .ref a_this_purses, .ref a_this_leases, .int v_starMany, .int v_tenants, .int v_draftSquares, .int v_draftStars, .int v_draftTenants, .int v_draftLeases, .ref a_this_s, .ref a_this_kept, .ref a_this_isKept, .ref a_this_offers, .int v_offerMany, .ref a_this_seen, .int v_seenMany])), (a_this_seen, .inl (G.2.1, 16, .inl v_seen)), (a_this_stars, .inl (G.2.1, 48, .inl v_stars))] H → va_D A [(a_this, .inr (9, [.int v_thrown, .long v_trace, .ref a_this_text, .int v_typed, .int v_next, .int v_token, .int v_place, .int v_value, .int v_fault, .int v_squares, .ref a_this_stars, .ref a_this_purses, .ref a_this_leases, .int v_starMany, .int v_tenants, .int v_draftSquares, .int v_draftStars, .int v_draftTenants, .int v_draftLeases, .ref a_this_s, .ref a_this_kept, .ref a_this_isKept, .ref a_this_offers, .int v_offerMany, .ref a_this_seen, .int v_seenMany])), (a_this_seen, .inl (G.2.1, 16, .inl v_seen)), (a_this_stars, .inl (G.2.1, 48, .inl v_stars))] → va_S A s.heap H locs → k24 x2 x3 x4 = some (R0, R1) → W p l e rm_X9_dates s m args below meth c H locs 0 0 QQ (F0 m 24 ls [])) → ∀ (x2 : Int32), ∀ (x3 : Int32), ∀ (x4 : Int32), ∀ (x5 : Int32), ∀ (ls : Array Slot), lv_has ls 7 [(0, .ref a_this), (1, .int x1), (2, .int x2), (3, .int x3), (4, .int x4), (5, .int x5)] → ∀ (H : Heap) (locs : List Loc), va_P G.1 vwCl [(a_this, .inr (9, [.int v_thrown, .long v_trace, .ref a_this_text, .int v_typed, .int v_next, .int v_token, .int v_place, .int v_value, .int v_fault, .int v_squares, .ref a_this_stars, .ref a_this_purses, .ref a_this_leases, .int v_starMany, .int v_tenants, .int v_draftSquares, .int v_draftStars, .int v_draftTenants, .int v_draftLeases, .ref a_this_s, .ref a_this_kept, .ref a_this_isKept, .ref a_this_offers, .int v_offerMany, .ref a_this_seen, .int v_seenMany])), (a_this_seen, .inl (G.2.1, 16, .inl v_seen)), (a_this_stars, .inl (G.2.1, 48, .inl v_stars))] H → va_D A [(a_this, .inr (9, [.int v_thrown, .long v_trace, .ref a_this_text, .int v_typed, .int v_next, .int v_token, .int v_place, .int v_value, .int v_fault, .int v_squares, .ref a_this_stars, .ref a_this_purses, .ref a_this_leases, .int v_starMany, .int v_tenants, .int v_draftSquares, .int v_draftStars, .int v_draftTenants, .int v_draftLeases, .ref a_this_s, .ref a_this_kept, .ref a_this_isKept, .ref a_this_offers, .int v_offerMany, .ref a_this_seen, .int v_seenMany])), (a_this_seen, .inl (G.2.1, 16, .inl v_seen)), (a_this_stars, .inl (G.2.1, 48, .inl v_stars))] → va_S A s.heap H locs → f_X9_dates_b108 k24 x2 x3 x4 x5 = some (R0, R1) → W p l e rm_X9_dates s m args below meth c H locs 0 0 QQ (F0 m 108 ls []) := by
    intro x1 v_thrown k24 hk24 x2 x3 x4 x5 ls hl H locs hP hD hS hf
    unfold f_X9_dates_b108 at hf
    refine lv_iload_n hx hb dX9_dates_108 rfl (lv_at hl 3 rfl) ?_
    exact j109 (x1) (v_thrown) k24 hk24 (x2) (x4) (x5) (x3) ls (lv_sub hl [0, 1, 2, 4, 5] rfl) _ _ hP hD hS hf
  have j38 : ∀ (x1 : Int32), ∀ (v_thrown : Int32), ∀ (k24 : Int32 → Int32 → Int32 → Option (Int32 × Int32)), (∀ (x2 : Int32), ∀ (x3 : Int32), ∀ (x4 : Int32), ∀ (ls : Array Slot), lv_has ls 7 [(0, .ref a_this), (1, .int x1), (2, .int x2), (3, .int x3), (4, .int x4)] → ∀ (H : Heap) (locs : List Loc), va_P G.1 vwCl [(a_this, .inr (9, [.int v_thrown, .long v_trace, .ref a_this_text, .int v_typed, .int v_next, .int v_token, .int v_place, .int v_value, .int v_fault, .int v_squares, .ref a_this_stars, .ref a_this_purses, .ref a_this_leases, .int v_starMany, .int v_tenants, .int v_draftSquares, .int v_draftStars, .int v_draftTenants, .int v_draftLeases, .ref a_this_s, .ref a_this_kept, .ref a_this_isKept, .ref a_this_offers, .int v_offerMany, .ref a_this_seen, .int v_seenMany])), (a_this_seen, .inl (G.2.1, 16, .inl v_seen)), (a_this_stars, .inl (G.2.1, 48, .inl v_stars))] H → va_D A [(a_this, .inr (9, [.int v_thrown, .long v_trace, .ref a_this_text, .int v_typed, .int v_next, .int v_token, .int v_place, .int v_value, .int v_fault, .int v_squares, .ref a_this_stars, .ref a_this_purses, .ref a_this_leases, .int v_starMany, .int v_tenants, .int v_draftSquares, .int v_draftStars, .int v_draftTenants, .int v_draftLeases, .ref a_this_s, .ref a_this_kept, .ref a_this_isKept, .ref a_this_offers, .int v_offerMany, .ref a_this_seen, .int v_seenMany])), (a_this_seen, .inl (G.2.1, 16, .inl v_seen)), (a_this_stars, .inl (G.2.1, 48, .inl v_stars))] → va_S A s.heap H locs → k24 x2 x3 x4 = some (R0, R1) → W p l e rm_X9_dates s m args below meth c H locs 0 0 QQ (F0 m 24 ls [])) → ∀ (x2 : Int32), ∀ (x3 : Int32), ∀ (x4 : Int32), ∀ (nn : Nat), ∀ (x5 : Int32), ∀ (x6 : Int32), ∀ (ls : Array Slot), lv_has ls 7 [(0, .ref a_this), (1, .int x1), (2, .int x2), (3, .int x3), (4, .int x4), (5, .int x5), (6, .int x6)] → ∀ (H : Heap) (locs : List Loc), va_P G.1 vwCl [(a_this, .inr (9, [.int v_thrown, .long v_trace, .ref a_this_text, .int v_typed, .int v_next, .int v_token, .int v_place, .int v_value, .int v_fault, .int v_squares, .ref a_this_stars, .ref a_this_purses, .ref a_this_leases, .int v_starMany, .int v_tenants, .int v_draftSquares, .int v_draftStars, .int v_draftTenants, .int v_draftLeases, .ref a_this_s, .ref a_this_kept, .ref a_this_isKept, .ref a_this_offers, .int v_offerMany, .ref a_this_seen, .int v_seenMany])), (a_this_seen, .inl (G.2.1, 16, .inl v_seen)), (a_this_stars, .inl (G.2.1, 48, .inl v_stars))] H → va_D A [(a_this, .inr (9, [.int v_thrown, .long v_trace, .ref a_this_text, .int v_typed, .int v_next, .int v_token, .int v_place, .int v_value, .int v_fault, .int v_squares, .ref a_this_stars, .ref a_this_purses, .ref a_this_leases, .int v_starMany, .int v_tenants, .int v_draftSquares, .int v_draftStars, .int v_draftTenants, .int v_draftLeases, .ref a_this_s, .ref a_this_kept, .ref a_this_isKept, .ref a_this_offers, .int v_offerMany, .ref a_this_seen, .int v_seenMany])), (a_this_seen, .inl (G.2.1, 16, .inl v_seen)), (a_this_stars, .inl (G.2.1, 48, .inl v_stars))] → va_S A s.heap H locs → f_X9_dates_b38 v_squares v_seenMany v_seen v_stars k24 x2 x3 x4 nn x5 x6 = some (R0, R1) → W p l e rm_X9_dates s m args below meth c H locs 0 0 QQ (F0 m 38 ls []) := by
    intro x1 v_thrown k24 hk24 x2 x3 x4
    intro nn
    induction nn with
    | zero =>
      intro x5 x6 ls hl H locs hP hD hS hf
      rw [f_X9_dates_b38] at hf
      cases hf
    | succ n38 ih =>
      intro x5 x6 ls hl H locs hP hD hS hf
      rw [f_X9_dates_b38] at hf
      refine lv_iload hx hb dX9_dates_38 (lv_at hl 6 rfl) ?_
      refine lv_aload_n hx hb dX9_dates_40 rfl (lv_at hl 0 rfl) ?_
      refine va_get (D := G.1) (ci := 9) (v := .int v_seenMany) (C := RX9) (T := TX9) (N := 26) hx hb hts inX9 hown hK hP 0 rfl rfl 25 (by decide) lk127 (fun _ h9 => h9) rfl dX9_dates_41 ?_
      refine lv_icmp_ge (tgt := 94) hx hb dX9_dates_44 (by decide) (fun hc15 => ?_) (fun hc15 => ?_)
      · have hf := if_t hf hc15
        refine lv_iload hx hb dX9_dates_94 (lv_at hl 5 rfl) ?_
        refine lv_if_eq (tgt := 108) hx hb dX9_dates_96 (by decide) (fun hc16 => ?_) (fun hc16 => ?_)
        · have hf := if_t hf hc16
          exact j108 (x1) (v_thrown) k24 hk24 (x2) (x3) (x4) (x5) ls (lv_sub hl [0, 1, 2, 3, 4, 5] rfl) _ _ hP hD hS hf
        · have hf := if_f hf hc16
          refine lv_iload_n hx hb dX9_dates_99 rfl (lv_at hl 2 rfl) ?_
          refine lv_if_ne (tgt := 108) hx hb dX9_dates_100 (by decide) (fun hc17 => ?_) (fun hc17 => ?_)
          · have hf := if_f hf hc17
            exact j108 (x1) (v_thrown) k24 hk24 (x2) (x3) (x4) (x5) ls (lv_sub hl [0, 1, 2, 3, 4, 5] rfl) _ _ hP hD hS hf
          · have hf := if_t hf hc17
            refine lv_iload hx hb dX9_dates_103 (lv_at hl 4 rfl) ?_
            refine lv_goto (tgt := 109) hx hb dX9_dates_105 (by decide) ?_
            exact j109 (x1) (v_thrown) k24 hk24 (x2) (x4) (x5) (x4) ls (lv_sub hl [0, 1, 2, 4, 5] rfl) _ _ hP hD hS hf
      · have hf := if_f hf hc15
        refine lv_iload hx hb dX9_dates_47 (lv_at hl 5 rfl) ?_
        refine lv_if_eq (tgt := 85) hx hb dX9_dates_49 (by decide) (fun hc18 => ?_) (fun hc18 => ?_)
        · have hf := if_t hf hc18
          exact j85 (x1) (x2) (x3) (x4) (v_thrown) (f_X9_dates_b38 v_squares v_seenMany v_seen v_stars k24 x2 x3 x4 n38) ih (x6) ls (lv_sub hl [0, 1, 2, 3, 4, 6] rfl) _ _ hP hD hS hf
        · have hf := if_f hf hc18
          refine lv_aload_n hx hb dX9_dates_52 rfl (lv_at hl 0 rfl) ?_
          refine lv_aload_n hx hb dX9_dates_53 rfl (lv_at hl 0 rfl) ?_
          refine va_get (D := G.1) (ci := 9) (v := .ref a_this_seen) (C := RX9) (T := TX9) (N := 26) hx hb hts inX9 hown hK hP 0 rfl rfl 24 (by decide) lk35 (fun _ h9 => h9) rfl dX9_dates_54 ?_
          refine lv_iconst (v := (2 : Int32)) hx hb dX9_dates_57 (by decide) ?_
          refine lv_iload hx hb dX9_dates_58 (lv_at hl 6 rfl) ?_
          refine lv_imul hx hb dX9_dates_60 ?_
          obtain ⟨hg19, hf⟩ := gd_some hf
          refine va_iald hx hb hK hP 1 0 rfl rfl (inB_in hg19) dX9_dates_61 ?_
          refine lv_iload hx hb dX9_dates_62 (lv_at hl 4 rfl) ?_
          obtain ⟨r20, hu, hf⟩ := bd1_some hf
          refine zRi (va_runV (As := [.int (v_seen (((2 : Int32) * x6)).toNatClampNeg), .int x4]) (rest := []) hC (c_X9_squareOf l G a_this a_this_stars a_this_text a_this_purses a_this_leases a_this_s a_this_kept a_this_isKept a_this_offers a_this_seen (v_thrown) (v_trace) (v_typed) (v_next) (v_token) (v_place) (v_value) (v_fault) (v_squares) (v_starMany) (v_tenants) (v_draftSquares) (v_draftStars) (v_draftTenants) (v_draftLeases) (v_offerMany) (v_seenMany) (v_stars) ((v_seen (((2 : Int32) * x6)).toNatClampNeg)) (x4) r20 hu) (cwV 2 hts gX9_dates_X9_squareOf rfl rfl rfl hd_X9_squareOf ⟨(Nat.le_of_ble_eq_true rfl), (Nat.le_of_ble_eq_true rfl)⟩) (zPV hE hP [0, 2] rfl 0 rfl rfl) rfl rfl hl.1 rfl (lv_room (Nat.le_of_ble_eq_true rfl)) dX9_dates_64 ⟨Nat.zero_le _, Nat.zero_le _⟩) ?_
          refine lv_aload_n hx hb dX9_dates_67 rfl (lv_at hl 0 rfl) ?_
          refine va_get (D := G.1) (ci := 9) (v := .ref a_this_seen) (C := RX9) (T := TX9) (N := 26) hx hb hts inX9 hown hK hP 0 rfl rfl 24 (by decide) lk35 (fun _ h9 => h9) rfl dX9_dates_68 ?_
          refine lv_iconst (v := (2 : Int32)) hx hb dX9_dates_71 (by decide) ?_
          refine lv_iload hx hb dX9_dates_72 (lv_at hl 6 rfl) ?_
          refine lv_imul hx hb dX9_dates_74 ?_
          refine lv_iconst (v := (1 : Int32)) hx hb dX9_dates_75 (by decide) ?_
          refine lv_iadd hx hb dX9_dates_76 ?_
          obtain ⟨hg21, hf⟩ := gd_some hf
          refine va_iald hx hb hK hP 1 0 rfl rfl (inB_in hg21) dX9_dates_77 ?_
          refine lv_icmp_ne (tgt := 85) hx hb dX9_dates_78 (by decide) (fun hc22 => ?_) (fun hc22 => ?_)
          · have hf := if_f hf hc22
            exact j85 (x1) (x2) (x3) (x4) (v_thrown) (f_X9_dates_b38 v_squares v_seenMany v_seen v_stars k24 x2 x3 x4 n38) ih (x6) ls (lv_sub hl [0, 1, 2, 3, 4, 6] rfl) _ _ hP hD hS hf
          · have hf := if_t hf hc22
            refine lv_iconst (v := (1 : Int32)) hx hb dX9_dates_81 (by decide) ?_
            refine lv_goto (tgt := 86) hx hb dX9_dates_82 (by decide) ?_
            exact j86 (x1) (x2) (x3) (x4) (v_thrown) (f_X9_dates_b38 v_squares v_seenMany v_seen v_stars k24 x2 x3 x4 n38) ih (x6) ((1 : Int32)) ls (lv_sub hl [0, 1, 2, 3, 4, 6] rfl) _ _ hP hD hS hf
  have j24 : ∀ (x1 : Int32), ∀ (v_thrown : Int32), ∀ (nn : Nat), ∀ (x2 : Int32), ∀ (x3 : Int32), ∀ (x4 : Int32), ∀ (ls : Array Slot), lv_has ls 7 [(0, .ref a_this), (1, .int x1), (2, .int x2), (3, .int x3), (4, .int x4)] → ∀ (H : Heap) (locs : List Loc), va_P G.1 vwCl [(a_this, .inr (9, [.int v_thrown, .long v_trace, .ref a_this_text, .int v_typed, .int v_next, .int v_token, .int v_place, .int v_value, .int v_fault, .int v_squares, .ref a_this_stars, .ref a_this_purses, .ref a_this_leases, .int v_starMany, .int v_tenants, .int v_draftSquares, .int v_draftStars, .int v_draftTenants, .int v_draftLeases, .ref a_this_s, .ref a_this_kept, .ref a_this_isKept, .ref a_this_offers, .int v_offerMany, .ref a_this_seen, .int v_seenMany])), (a_this_seen, .inl (G.2.1, 16, .inl v_seen)), (a_this_stars, .inl (G.2.1, 48, .inl v_stars))] H → va_D A [(a_this, .inr (9, [.int v_thrown, .long v_trace, .ref a_this_text, .int v_typed, .int v_next, .int v_token, .int v_place, .int v_value, .int v_fault, .int v_squares, .ref a_this_stars, .ref a_this_purses, .ref a_this_leases, .int v_starMany, .int v_tenants, .int v_draftSquares, .int v_draftStars, .int v_draftTenants, .int v_draftLeases, .ref a_this_s, .ref a_this_kept, .ref a_this_isKept, .ref a_this_offers, .int v_offerMany, .ref a_this_seen, .int v_seenMany])), (a_this_seen, .inl (G.2.1, 16, .inl v_seen)), (a_this_stars, .inl (G.2.1, 48, .inl v_stars))] → va_S A s.heap H locs → f_X9_dates_b24 v_squares v_seenMany v_seen v_stars x1 v_thrown nn x2 x3 x4 = some (R0, R1) → W p l e rm_X9_dates s m args below meth c H locs 0 0 QQ (F0 m 24 ls []) := by
    intro x1 v_thrown
    intro nn
    induction nn with
    | zero =>
      intro x2 x3 x4 ls hl H locs hP hD hS hf
      rw [f_X9_dates_b24] at hf
      cases hf
    | succ n24 ih =>
      intro x2 x3 x4 ls hl H locs hP hD hS hf
      rw [f_X9_dates_b24] at hf
      refine lv_iload hx hb dX9_dates_24 (lv_at hl 4 rfl) ?_
      refine lv_sipush (v := (1000 : Int32)) hx hb dX9_dates_26 (by decide) ?_
      refine lv_icmp_ge (tgt := 129) hx hb dX9_dates_29 (by decide) (fun hc23 => ?_) (fun hc23 => ?_)
      · have hf := if_t hf hc23
        refine lv_iload_n hx hb dX9_dates_129 rfl (lv_at hl 1 rfl) ?_
        refine lv_if_ne (tgt := 137) hx hb dX9_dates_130 (by decide) (fun hc24 => ?_) (fun hc24 => ?_)
        · have hf := if_f hf hc24
          refine lv_iload_n hx hb dX9_dates_137 rfl (lv_at hl 3 rfl) ?_
          obtain ⟨hr0, hr1⟩ := so2 hf
          subst hr0
          subst hr1
          rw [← hQ]
          exact W.iret (v := x3) hx hb hr (fun t ht hW => ⟨⟨rfl, by rw [ht]; exact hP⟩, hS.F ht⟩) hS.2.2 dX9_dates_138
        · have hf := if_t hf hc24
          refine lv_iload_n hx hb dX9_dates_133 rfl (lv_at hl 2 rfl) ?_
          refine lv_goto (tgt := 138) hx hb dX9_dates_134 (by decide) ?_
          obtain ⟨hr0, hr1⟩ := so2 hf
          subst hr0
          subst hr1
          rw [← hQ]
          exact W.iret (v := x2) hx hb hr (fun t ht hW => ⟨⟨rfl, by rw [ht]; exact hP⟩, hS.F ht⟩) hS.2.2 dX9_dates_138
      · have hf := if_f hf hc23
        refine lv_iconst (v := (1 : Int32)) hx hb dX9_dates_32 (by decide) ?_
        refine lv_istore (lv' := [(5, .int (1 : Int32)), (0, .ref a_this), (1, .int x1), (2, .int x2), (3, .int x3), (4, .int x4)]) hx hb dX9_dates_33 hl (by decide) rfl (fun ls hl => ?_)
        refine lv_iconst (v := (0 : Int32)) hx hb dX9_dates_35 (by decide) ?_
        refine lv_istore (lv' := [(6, .int (0 : Int32)), (5, .int (1 : Int32)), (0, .ref a_this), (1, .int x1), (2, .int x2), (3, .int x3), (4, .int x4)]) hx hb dX9_dates_36 hl (by decide) rfl (fun ls hl => ?_)
        exact j38 (x1) (v_thrown) (f_X9_dates_b24 v_squares v_seenMany v_seen v_stars x1 v_thrown n24) ih (x2) (x3) (x4) zF ((1 : Int32)) ((0 : Int32)) ls (lv_sub hl [2, 3, 4, 5, 6, 1, 0] rfl) _ _ hP hD hS hf
  have hSH := hS
  unfold f_X9_dates at hf
  refine lv_aload_n hx hb dX9_dates_0 rfl (lv_at hl 0 rfl) ?_
  refine lv_iconst (v := (0 : Int32)) hx hb dX9_dates_1 (by decide) ?_
  refine va_put (D := G.1) (ci := 9) (v := .int (0 : Int32)) (ty := .int) (C := RX9) (T := TX9) (N := 26) hx hb hts inX9 tyX9 tyX9_ok nmX9 hown hK hP hD hS 0 rfl rfl 0 (by decide) lk42 (fun _ h9 => h9) rfl (by decide +kernel) rfl rfl (Nat.le_of_ble_eq_true rfl) dX9_dates_2 (fun H locs hP hD hS => ?_)
  have hP : va_P G.1 vwCl [(a_this, .inr (9, [.int (0 : Int32), .long v_trace, .ref a_this_text, .int v_typed, .int v_next, .int v_token, .int v_place, .int v_value, .int v_fault, .int v_squares, .ref a_this_stars, .ref a_this_purses, .ref a_this_leases, .int v_starMany, .int v_tenants, .int v_draftSquares, .int v_draftStars, .int v_draftTenants, .int v_draftLeases, .ref a_this_s, .ref a_this_kept, .ref a_this_isKept, .ref a_this_offers, .int v_offerMany, .ref a_this_seen, .int v_seenMany])), (a_this_seen, .inl (G.2.1, 16, .inl v_seen)), (a_this_stars, .inl (G.2.1, 48, .inl v_stars))] H := hP
  have hD : va_D A [(a_this, .inr (9, [.int (0 : Int32), .long v_trace, .ref a_this_text, .int v_typed, .int v_next, .int v_token, .int v_place, .int v_value, .int v_fault, .int v_squares, .ref a_this_stars, .ref a_this_purses, .ref a_this_leases, .int v_starMany, .int v_tenants, .int v_draftSquares, .int v_draftStars, .int v_draftTenants, .int v_draftLeases, .ref a_this_s, .ref a_this_kept, .ref a_this_isKept, .ref a_this_offers, .int v_offerMany, .ref a_this_seen, .int v_seenMany])), (a_this_seen, .inl (G.2.1, 16, .inl v_seen)), (a_this_stars, .inl (G.2.1, 48, .inl v_stars))] := hD
  refine lv_iload_n hx hb dX9_dates_5 rfl (lv_at hl 1 rfl) ?_
  refine lv_iconst (v := (0 : Int32)) hx hb dX9_dates_6 (by decide) ?_
  refine lv_iconst (v := (1 : Int32)) hx hb dX9_dates_7 (by decide) ?_
  obtain ⟨r25, hu, hf⟩ := bd1_some hf
  refine zRi (va_runS (As := [.int g1, .int (0 : Int32), .int (1 : Int32)]) (rest := []) hC (c_X9_in l G (g1) ((0 : Int32)) ((1 : Int32)) r25 hu) (va_cwS 3 hts gX9_dates_X9_in rfl rfl rfl hd_X9_in.2 ⟨(Nat.le_of_ble_eq_true rfl), (Nat.le_of_ble_eq_true rfl)⟩) (zPS hE hP [] rfl) rfl rfl hl.1 rfl (lv_room (Nat.le_of_ble_eq_true rfl)) dX9_dates_8 ⟨Nat.zero_le _, Nat.zero_le _⟩) ?_
  refine lv_if_ne (tgt := 16) hx hb dX9_dates_11 (by decide) (fun hc26 => ?_) (fun hc26 => ?_)
  · have hf := if_f hf hc26
    refine lv_iconst (v := (0 : Int32)) hx hb dX9_dates_16 (by decide) ?_
    refine lv_istore_n (lv' := [(2, .int (0 : Int32)), (0, .ref a_this), (1, .int g1)]) hx hb dX9_dates_17 rfl hl (by decide) rfl (fun ls hl => ?_)
    refine lv_bipush (v := (-9 : Int32)) hx hb dX9_dates_18 (by decide) ?_
    refine lv_istore_n (lv' := [(3, .int (-9 : Int32)), (2, .int (0 : Int32)), (0, .ref a_this), (1, .int g1)]) hx hb dX9_dates_20 rfl hl (by decide) rfl (fun ls hl => ?_)
    refine lv_iconst (v := (0 : Int32)) hx hb dX9_dates_21 (by decide) ?_
    refine lv_istore (lv' := [(4, .int (0 : Int32)), (3, .int (-9 : Int32)), (2, .int (0 : Int32)), (0, .ref a_this), (1, .int g1)]) hx hb dX9_dates_22 hl (by decide) rfl (fun ls hl => ?_)
    exact j24 (g1) ((0 : Int32)) zF ((0 : Int32)) ((-9 : Int32)) ((0 : Int32)) ls (lv_sub hl [3, 4, 2, 1, 0] rfl) _ _ hP hD hS hf
  · have hf := if_t hf hc26
    refine lv_iconst (v := (-1 : Int32)) hx hb dX9_dates_14 (by decide) ?_
    obtain ⟨hr0, hr1⟩ := so2 hf
    subst hr0
    subst hr1
    rw [← hQ]
    exact W.iret (v := (-1 : Int32)) hx hb hr (fun t ht hW => ⟨⟨rfl, by rw [ht]; exact hP⟩, hS.F ht⟩) hS.2.2 dX9_dates_15
def f_X9_rentOf_b58  (k6 : Int32 → Int32 → Option (Int32))  (x5 : Int32) (t0 : Int32) (t1 : Int32) : Option (Int32) := k6 ((t0 + t1)) ((x5 + (1 : Int32)))
def f_X9_rentOf_b57  (k6 : Int32 → Int32 → Option (Int32))  (x5 : Int32) (t0 : Int32) : Option (Int32) := f_X9_rentOf_b58 k6 (x5) (t0) ((0 : Int32))
def f_X9_rentOf_b6 (v_squares : Int32) (v_starMany : Int32) (v_stars : (Nat → Int32)) (v_s : (Nat → Int32))  (x1 : Int32) (x2 : Int32) (x3 : Int32) : Nat → Int32 → Int32 → Option (Int32)
  | 0, _, _ => none
  | n6 + 1, x4, x5 => if v_starMany ≤ x5 then (some (x4)) else (bd1 (f_X9_squareOf (v_squares) (v_stars) (x5) (x2)) fun r8 => if r8 = x3 then (f_X9_rentOf_b57 (f_X9_rentOf_b6 v_squares v_starMany v_stars v_s x1 x2 x3 n6) (x5) (x4)) else (bd1 (f_X9_whoseIs (v_squares) (v_s) (r8) (x2)) fun r10 => if r10 = x1 then (gd (inB (((3 : Int32) * x5) + (2 : Int32)) 48) (f_X9_rentOf_b58 (f_X9_rentOf_b6 v_squares v_starMany v_stars v_s x1 x2 x3 n6) (x5) (x4) ((v_stars ((((3 : Int32) * x5) + (2 : Int32))).toNatClampNeg)))) else (f_X9_rentOf_b57 (f_X9_rentOf_b6 v_squares v_starMany v_stars v_s x1 x2 x3 n6) (x5) (x4))))
def f_X9_rentOf  (v_squares : Int32) (v_starMany : Int32) (v_stars : (Nat → Int32)) (v_s : (Nat → Int32)) (g1 : Int32) (g2 : Int32) (g3 : Int32) : Option (Int32) := f_X9_rentOf_b6 v_squares v_starMany v_stars v_s (g1) (g2) (g3) zF ((0 : Int32)) ((0 : Int32))
abbrev rm_X9_rentOf : Room := { frames := 3, cells := 0, slots := 0, locals := 70 }
set_option maxHeartbeats 4000000 in
set_option maxRecDepth 100000 in
theorem c_X9_rentOf (l : Launch) (G : zG) (a_this : Nat) (a_this_stars : Nat) (a_this_s : Nat) (a_this_text : Nat) (a_this_purses : Nat) (a_this_leases : Nat) (a_this_kept : Nat) (a_this_isKept : Nat) (a_this_offers : Nat) (a_this_seen : Nat) (v_thrown : Int32) (v_trace : Int64) (v_typed : Int32) (v_next : Int32) (v_token : Int32) (v_place : Int32) (v_value : Int32) (v_fault : Int32) (v_squares : Int32) (v_starMany : Int32) (v_tenants : Int32) (v_draftSquares : Int32) (v_draftStars : Int32) (v_draftTenants : Int32) (v_draftLeases : Int32) (v_offerMany : Int32) (v_seenMany : Int32) (v_stars : (Nat → Int32)) (v_s : (Nat → Int32)) (g1 : Int32) (g2 : Int32) (g3 : Int32) (R0 : Int32) (hf : f_X9_rentOf v_squares v_starMany v_stars v_s g1 g2 g3 = some R0) : Met l yX9_rentOf wsX9_rentOf rm_X9_rentOf (va_Pc [.ref a_this, .int g1, .int g2, .int g3] (zR G [(a_this, .inr (9, [.int v_thrown, .long v_trace, .ref a_this_text, .int v_typed, .int v_next, .int v_token, .int v_place, .int v_value, .int v_fault, .int v_squares, .ref a_this_stars, .ref a_this_purses, .ref a_this_leases, .int v_starMany, .int v_tenants, .int v_draftSquares, .int v_draftStars, .int v_draftTenants, .int v_draftLeases, .ref a_this_s, .ref a_this_kept, .ref a_this_isKept, .ref a_this_offers, .int v_offerMany, .ref a_this_seen, .int v_seenMany])), (a_this_stars, .inl (G.2.1, 48, .inl v_stars)), (a_this_s, .inl (G.2.1, 100, .inl v_s))])) (zSv (some (.int R0))) 0 0 (fun _ => False) := by
  refine Met.ofW (cc := cX9_rentOf) (maxL := 7) (ret := (some .int)) (by decide) rfl ?_
  intro p e s m args below meth c s₁ B hml hv
  obtain ⟨hargs, hP, hE⟩ := hv
  have hx := B.exec
  have hb := B.bytes
  have hr := B.returns
  have hts := atoms_spec (ws := wsX9_rentOf) B.pre
  have hown : s.vm.findClass RX9 = some m.cls := findClass_of_methodNamed B.named
  have hlocks := B.notSynchronized
  have hK := hE.1
  have hC : CallFix p m c cX9_rentOf 7 s args wsX9_rentOf RX9 := ⟨hx, hb, hml, hown, hts⟩
  have inX9 : ∀ w ∈ wsX90, w ∈ wsX9_rentOf := by decide +kernel
  have lk13 := hts (.fieldLink RX9 13 "SkyLeasesModel" "stars" "[I") (by decide +kernel)
  have lk118 := hts (.fieldLink RX9 118 "SkyLeasesModel" "starMany" "I") (by decide +kernel)
  have hl := lv_entry ([.ref a_this, .int g1, .int g2, .int g3]) (n := 7) (Nat.le_of_ble_eq_true rfl)
  have hent : entryFrame m args 7 = F0 m 0 ((lg_sl ([.ref a_this, .int g1, .int g2, .int g3]) ++ List.replicate (7 - (lg_sl ([.ref a_this, .int g1, .int g2, .int g3])).length) Slot.unset).toArray) [] := by rw [hargs]; exact lg_entry_eq m [.ref a_this, .int g1, .int g2, .int g3] 7
  refine W.eq hent ?_
  clear hent
  generalize (lg_sl ([.ref a_this, .int g1, .int g2, .int g3]) ++ List.replicate (7 - (lg_sl ([.ref a_this, .int g1, .int g2, .int g3])).length) Slot.unset).toArray = ls at hl ⊢
  have hl : lv_has ls 7 [(0, .ref a_this), (1, .int g1), (2, .int g2), (3, .int g3)] := hl
  generalize hQ : MQ below _ args s 0 0 _ = QQ
  change W p l e rm_X9_rentOf s m args below meth c s.heap [] 0 0 QQ _
  have j58 : ∀ (x1 : Int32), ∀ (x2 : Int32), ∀ (x3 : Int32), ∀ (k6 : Int32 → Int32 → Option (Int32)), (∀ (x4 : Int32), ∀ (x5 : Int32), ∀ (ls : Array Slot), lv_has ls 7 [(0, .ref a_this), (1, .int x1), (2, .int x2), (3, .int x3), (4, .int x4), (5, .int x5)] → k6 x4 x5 = some R0 → W p l e rm_X9_rentOf s m args below meth c s.heap [] 0 0 QQ (F0 m 6 ls [])) → ∀ (x5 : Int32), ∀ (t0 : Int32), ∀ (t1 : Int32), ∀ (ls : Array Slot), lv_has ls 7 [(0, .ref a_this), (1, .int x1), (2, .int x2), (3, .int x3), (5, .int x5)] → f_X9_rentOf_b58 k6 x5 t0 t1 = some R0 → W p l e rm_X9_rentOf s m args below meth c s.heap [] 0 0 QQ (F0 m 58 ls [.int t1, .int t0]) := by
    intro x1 x2 x3 k6 hk6 x5 t0 t1 ls hl hf
    unfold f_X9_rentOf_b58 at hf
    refine lv_iadd hx hb dX9_rentOf_58 ?_
    refine lv_istore (lv' := [(4, .int (t0 + t1)), (0, .ref a_this), (1, .int x1), (2, .int x2), (3, .int x3), (5, .int x5)]) hx hb dX9_rentOf_59 hl (by decide) rfl (fun ls hl => ?_)
    refine lv_iinc (v := (x5 + (1 : Int32))) (lv' := [(5, .int (x5 + (1 : Int32))), (4, .int (t0 + t1)), (0, .ref a_this), (1, .int x1), (2, .int x2), (3, .int x3)]) hx hb dX9_rentOf_61 hl (k := 5) rfl rfl (by decide) rfl (fun ls hl => ?_)
    refine lv_goto (tgt := 6) hx hb dX9_rentOf_64 (by decide) ?_
    exact hk6 ((t0 + t1)) ((x5 + (1 : Int32))) ls (lv_sub hl [2, 3, 4, 5, 1, 0] rfl) hf
  have j57 : ∀ (x1 : Int32), ∀ (x2 : Int32), ∀ (x3 : Int32), ∀ (k6 : Int32 → Int32 → Option (Int32)), (∀ (x4 : Int32), ∀ (x5 : Int32), ∀ (ls : Array Slot), lv_has ls 7 [(0, .ref a_this), (1, .int x1), (2, .int x2), (3, .int x3), (4, .int x4), (5, .int x5)] → k6 x4 x5 = some R0 → W p l e rm_X9_rentOf s m args below meth c s.heap [] 0 0 QQ (F0 m 6 ls [])) → ∀ (x5 : Int32), ∀ (t0 : Int32), ∀ (ls : Array Slot), lv_has ls 7 [(0, .ref a_this), (1, .int x1), (2, .int x2), (3, .int x3), (5, .int x5)] → f_X9_rentOf_b57 k6 x5 t0 = some R0 → W p l e rm_X9_rentOf s m args below meth c s.heap [] 0 0 QQ (F0 m 57 ls [.int t0]) := by
    intro x1 x2 x3 k6 hk6 x5 t0 ls hl hf
    unfold f_X9_rentOf_b57 at hf
    refine lv_iconst (v := (0 : Int32)) hx hb dX9_rentOf_57 (by decide) ?_
    exact j58 (x1) (x2) (x3) k6 hk6 (x5) (t0) ((0 : Int32)) ls (lv_sub hl [0, 1, 2, 3, 4] rfl) hf
  have j6 : ∀ (x1 : Int32), ∀ (x2 : Int32), ∀ (x3 : Int32), ∀ (nn : Nat), ∀ (x4 : Int32), ∀ (x5 : Int32), ∀ (ls : Array Slot), lv_has ls 7 [(0, .ref a_this), (1, .int x1), (2, .int x2), (3, .int x3), (4, .int x4), (5, .int x5)] → f_X9_rentOf_b6 v_squares v_starMany v_stars v_s x1 x2 x3 nn x4 x5 = some R0 → W p l e rm_X9_rentOf s m args below meth c s.heap [] 0 0 QQ (F0 m 6 ls []) := by
    intro x1 x2 x3
    intro nn
    induction nn with
    | zero =>
      intro x4 x5 ls hl hf
      rw [f_X9_rentOf_b6] at hf
      cases hf
    | succ n6 ih =>
      intro x4 x5 ls hl hf
      rw [f_X9_rentOf_b6] at hf
      refine lv_iload hx hb dX9_rentOf_6 (lv_at hl 5 rfl) ?_
      refine lv_aload_n hx hb dX9_rentOf_8 rfl (lv_at hl 0 rfl) ?_
      refine va_get (D := G.1) (ci := 9) (v := .int v_starMany) (C := RX9) (T := TX9) (N := 26) hx hb hts inX9 hown hK hP 0 rfl rfl 13 (by decide) lk118 (fun _ h9 => h9) rfl dX9_rentOf_9 ?_
      refine lv_icmp_ge (tgt := 67) hx hb dX9_rentOf_12 (by decide) (fun hc7 => ?_) (fun hc7 => ?_)
      · have hf := if_t hf hc7
        refine lv_iload hx hb dX9_rentOf_67 (lv_at hl 4 rfl) ?_
        have hr0 := so1 hf
        subst hr0
        rw [← hQ]
        exact W.iret (v := x4) hx hb hr (fun t ht hW => ⟨rfl, ht⟩) (fun _ h => by cases h) dX9_rentOf_69
      · have hf := if_f hf hc7
        refine lv_aload_n hx hb dX9_rentOf_15 rfl (lv_at hl 0 rfl) ?_
        refine lv_iload hx hb dX9_rentOf_16 (lv_at hl 5 rfl) ?_
        refine lv_iload_n hx hb dX9_rentOf_18 rfl (lv_at hl 2 rfl) ?_
        obtain ⟨r8, hu, hf⟩ := bd1_some hf
        refine zRi (va_runV (As := [.int x5, .int x2]) (rest := []) hC (c_X9_squareOf l G a_this a_this_stars a_this_text a_this_purses a_this_leases a_this_s a_this_kept a_this_isKept a_this_offers a_this_seen (v_thrown) (v_trace) (v_typed) (v_next) (v_token) (v_place) (v_value) (v_fault) (v_squares) (v_starMany) (v_tenants) (v_draftSquares) (v_draftStars) (v_draftTenants) (v_draftLeases) (v_offerMany) (v_seenMany) (v_stars) (x5) (x2) r8 hu) (cwV 2 hts gX9_rentOf_X9_squareOf rfl rfl rfl hd_X9_squareOf ⟨(Nat.le_of_ble_eq_true rfl), (Nat.le_of_ble_eq_true rfl)⟩) (zPV hE hP [0, 1] rfl 0 rfl rfl) rfl rfl hl.1 rfl (lv_room (Nat.le_of_ble_eq_true rfl)) dX9_rentOf_19 ⟨Nat.zero_le _, Nat.zero_le _⟩) ?_
        refine lv_istore (lv' := [(6, .int r8), (0, .ref a_this), (1, .int x1), (2, .int x2), (3, .int x3), (4, .int x4), (5, .int x5)]) hx hb dX9_rentOf_22 hl (by decide) rfl (fun ls hl => ?_)
        refine lv_iload hx hb dX9_rentOf_24 (lv_at hl 5 rfl) ?_
        refine lv_iload hx hb dX9_rentOf_26 (lv_at hl 0 rfl) ?_
        refine lv_iload_n hx hb dX9_rentOf_28 rfl (lv_at hl 4 rfl) ?_
        refine lv_icmp_eq (tgt := 57) hx hb dX9_rentOf_29 (by decide) (fun hc9 => ?_) (fun hc9 => ?_)
        · have hf := if_t hf hc9
          exact j57 (x1) (x2) (x3) (f_X9_rentOf_b6 v_squares v_starMany v_stars v_s x1 x2 x3 n6) ih (x5) (x4) ls (lv_sub hl [1, 2, 3, 4, 6] rfl) hf
        · have hf := if_f hf hc9
          refine lv_aload_n hx hb dX9_rentOf_32 rfl (lv_at hl 1 rfl) ?_
          refine lv_iload hx hb dX9_rentOf_33 (lv_at hl 0 rfl) ?_
          refine lv_iload_n hx hb dX9_rentOf_35 rfl (lv_at hl 3 rfl) ?_
          obtain ⟨r10, hu, hf⟩ := bd1_some hf
          refine zRi (va_runV (As := [.int r8, .int x2]) (rest := [.int x4]) hC (c_X9_whoseIs l G a_this a_this_s a_this_text a_this_stars a_this_purses a_this_leases a_this_kept a_this_isKept a_this_offers a_this_seen (v_thrown) (v_trace) (v_typed) (v_next) (v_token) (v_place) (v_value) (v_fault) (v_squares) (v_starMany) (v_tenants) (v_draftSquares) (v_draftStars) (v_draftTenants) (v_draftLeases) (v_offerMany) (v_seenMany) (v_s) (r8) (x2) r10 hu) (cwV 2 hts gX9_rentOf_X9_whoseIs rfl rfl rfl hd_X9_whoseIs ⟨(Nat.le_of_ble_eq_true rfl), (Nat.le_of_ble_eq_true rfl)⟩) (zPV hE hP [0, 2] rfl 0 rfl rfl) rfl rfl hl.1 rfl (lv_room (Nat.le_of_ble_eq_true rfl)) dX9_rentOf_36 ⟨Nat.zero_le _, Nat.zero_le _⟩) ?_
          refine lv_iload_n hx hb dX9_rentOf_39 rfl (lv_at hl 2 rfl) ?_
          refine lv_icmp_ne (tgt := 57) hx hb dX9_rentOf_40 (by decide) (fun hc11 => ?_) (fun hc11 => ?_)
          · have hf := if_f hf hc11
            exact j57 (x1) (x2) (x3) (f_X9_rentOf_b6 v_squares v_starMany v_stars v_s x1 x2 x3 n6) ih (x5) (x4) ls (lv_sub hl [1, 2, 3, 4, 6] rfl) hf
          · have hf := if_t hf hc11
            refine lv_aload_n hx hb dX9_rentOf_43 rfl (lv_at hl 1 rfl) ?_
            refine va_get (D := G.1) (ci := 9) (v := .ref a_this_stars) (C := RX9) (T := TX9) (N := 26) hx hb hts inX9 hown hK hP 0 rfl rfl 10 (by decide) lk13 (fun _ h9 => h9) rfl dX9_rentOf_44 ?_
            refine lv_iconst (v := (3 : Int32)) hx hb dX9_rentOf_47 (by decide) ?_
            refine lv_iload hx hb dX9_rentOf_48 (lv_at hl 6 rfl) ?_
            refine lv_imul hx hb dX9_rentOf_50 ?_
            refine lv_iconst (v := (2 : Int32)) hx hb dX9_rentOf_51 (by decide) ?_
            refine lv_iadd hx hb dX9_rentOf_52 ?_
            obtain ⟨hg12, hf⟩ := gd_some hf
            refine va_iald hx hb hK hP 1 0 rfl rfl (inB_in hg12) dX9_rentOf_53 ?_
            refine lv_goto (tgt := 58) hx hb dX9_rentOf_54 (by decide) ?_
            exact j58 (x1) (x2) (x3) (f_X9_rentOf_b6 v_squares v_starMany v_stars v_s x1 x2 x3 n6) ih (x5) (x4) ((v_stars ((((3 : Int32) * x5) + (2 : Int32))).toNatClampNeg)) ls (lv_sub hl [1, 2, 3, 4, 6] rfl) hf
  unfold f_X9_rentOf at hf
  refine lv_iconst (v := (0 : Int32)) hx hb dX9_rentOf_0 (by decide) ?_
  refine lv_istore (lv' := [(4, .int (0 : Int32)), (0, .ref a_this), (1, .int g1), (2, .int g2), (3, .int g3)]) hx hb dX9_rentOf_1 hl (by decide) rfl (fun ls hl => ?_)
  refine lv_iconst (v := (0 : Int32)) hx hb dX9_rentOf_3 (by decide) ?_
  refine lv_istore (lv' := [(5, .int (0 : Int32)), (4, .int (0 : Int32)), (0, .ref a_this), (1, .int g1), (2, .int g2), (3, .int g3)]) hx hb dX9_rentOf_4 hl (by decide) rfl (fun ls hl => ?_)
  exact j6 (g1) (g2) (g3) zF ((0 : Int32)) ((0 : Int32)) ls (lv_sub hl [2, 3, 4, 5, 1, 0] rfl) hf
theorem hd_X9_rentOf : yX9_rentOf.cls = RX9 ∧ yX9_rentOf.cls ≠ "java/lang/invoke/MethodHandle" ∧ yX9_rentOf.cls ≠ "java/lang/invoke/VarHandle" ∧ (parseMethodDescriptor yX9_rentOf.desc).map (fun d => d.parameters.length) = some 3 := by decide +kernel
def f_X9_odds_b154  (k77 : Int32 → Int32 → Option (Int32 × Int32))  (x7 : Int32) (t0 : Int32) (t1 : Int32) : Option (Int32 × Int32) := k77 ((t0 + t1)) ((x7 + (1 : Int32)))
def f_X9_odds_b94 (v_squares : Int32) (v_starMany : Int32) (v_s : (Nat → Int32)) (v_stars : (Nat → Int32)) (k77 : Int32 → Int32 → Option (Int32 × Int32)) (x1 : Int32) (x2 : Int32) (x3 : Int32) (x6 : Int32) (x7 : Int32) : Nat → Int32 → Int32 → Int32 → Option (Int32 × Int32)
  | 0, _, _, _ => none
  | n94 + 1, x8, x9, x10 => if x2 ≤ x10 then (if x9 < x3 then (f_X9_odds_b154 k77 (x7) (x6) ((0 : Int32))) else (f_X9_odds_b154 k77 (x7) (x6) ((1 : Int32)))) else (gd (inB (0 : Int32) 100) (gd (nzB v_squares) (bd1 (f_X9_rentOf (v_squares) (v_starMany) (v_stars) (v_s) (x1) (((v_s ((0 : Int32)).toNatClampNeg) + x10)) ((x8 - x8 / v_squares * v_squares))) fun r25 => gd (nzB v_squares) (f_X9_odds_b94 v_squares v_starMany v_s v_stars k77 x1 x2 x3 x6 x7 n94 ((x8 / v_squares)) ((x9 + r25)) ((x10 + (1 : Int32)))))))
def f_X9_odds_b77 (v_squares : Int32) (v_starMany : Int32) (v_s : (Nat → Int32)) (v_stars : (Nat → Int32))  (x1 : Int32) (x2 : Int32) (x3 : Int32) (x4 : Int32) (x5 : Int32) (v_thrown : Int32) : Nat → Int32 → Int32 → Option (Int32 × Int32)
  | 0, _, _ => none
  | n77 + 1, x6, x7 => if x5 ≤ x7 then (bd1 (f_X9_gcd (((x6).toInt64)) (((x5).toInt64))) fun r28 => if x4 = (0 : Int32) then (gd (nzB ((r28).toInt32)) (some ((x6 / ((r28).toInt32)), v_thrown))) else (gd (nzB ((r28).toInt32)) (some ((x5 / ((r28).toInt32)), v_thrown)))) else (f_X9_odds_b94 v_squares v_starMany v_s v_stars (f_X9_odds_b77 v_squares v_starMany v_s v_stars x1 x2 x3 x4 x5 v_thrown n77) (x1) (x2) (x3) (x6) (x7) zF (x7) ((0 : Int32)) ((0 : Int32)))
def f_X9_odds_b50 (v_squares : Int32) (v_starMany : Int32) (v_s : (Nat → Int32)) (v_stars : (Nat → Int32))  (x1 : Int32) (x2 : Int32) (x3 : Int32) (x4 : Int32) (v_thrown : Int32) : Nat → Int32 → Int32 → Option (Int32 × Int32)
  | 0, _, _ => none
  | n50 + 1, x5, x6 => if x2 ≤ x6 then (f_X9_odds_b77 v_squares v_starMany v_s v_stars (x1) (x2) (x3) (x4) (x5) (v_thrown) zF ((0 : Int32)) ((0 : Int32))) else (f_X9_odds_b50 v_squares v_starMany v_s v_stars x1 x2 x3 x4 v_thrown n50 ((x5 * v_squares)) ((x6 + (1 : Int32))))
def f_X9_odds  (v_thrown : Int32) (v_squares : Int32) (v_starMany : Int32) (v_tenants : Int32) (v_s : (Nat → Int32)) (v_stars : (Nat → Int32)) (g1 : Int32) (g2 : Int32) (g3 : Int32) (g4 : Int32) : Option (Int32 × Int32) := bd1 (f_X9_isTenant (v_tenants) (g1)) fun r33 => if r33 = (0 : Int32) then (some ((-1 : Int32), (0 : Int32))) else (bd1 (f_X9_in (g2) ((1 : Int32)) ((3 : Int32))) fun r35 => if r35 = (0 : Int32) then (some ((-1 : Int32), (0 : Int32))) else (bd1 (f_X9_in (g3) ((0 : Int32)) ((99 : Int32))) fun r37 => if r37 = (0 : Int32) then (some ((-1 : Int32), (0 : Int32))) else (bd1 (f_X9_in (g4) ((0 : Int32)) ((1 : Int32))) fun r39 => if r39 = (0 : Int32) then (some ((-1 : Int32), (0 : Int32))) else (f_X9_odds_b50 v_squares v_starMany v_s v_stars (g1) (g2) (g3) (g4) ((0 : Int32)) zF ((1 : Int32)) ((0 : Int32))))))
abbrev rm_X9_odds : Room := { frames := 4, cells := 0, slots := 0, locals := 96 }
set_option maxHeartbeats 4000000 in
set_option maxRecDepth 100000 in
theorem c_X9_odds (l : Launch) (G : zG) (sz : Nat) (a_this : Nat) (a_this_s : Nat) (a_this_stars : Nat) (a_this_text : Nat) (a_this_purses : Nat) (a_this_leases : Nat) (a_this_kept : Nat) (a_this_isKept : Nat) (a_this_offers : Nat) (a_this_seen : Nat) (v_thrown : Int32) (v_trace : Int64) (v_typed : Int32) (v_next : Int32) (v_token : Int32) (v_place : Int32) (v_value : Int32) (v_fault : Int32) (v_squares : Int32) (v_starMany : Int32) (v_tenants : Int32) (v_draftSquares : Int32) (v_draftStars : Int32) (v_draftTenants : Int32) (v_draftLeases : Int32) (v_offerMany : Int32) (v_seenMany : Int32) (v_s : (Nat → Int32)) (v_stars : (Nat → Int32)) (g1 : Int32) (g2 : Int32) (g3 : Int32) (g4 : Int32) (R0 : Int32) (R1 : Int32) (hf : f_X9_odds v_thrown v_squares v_starMany v_tenants v_s v_stars g1 g2 g3 g4 = some (R0, R1)) : Met l yX9_odds wsX9_odds rm_X9_odds (va_Pc [.ref a_this, .int g1, .int g2, .int g3, .int g4] (zB G [(a_this, .inr (9, [.int v_thrown, .long v_trace, .ref a_this_text, .int v_typed, .int v_next, .int v_token, .int v_place, .int v_value, .int v_fault, .int v_squares, .ref a_this_stars, .ref a_this_purses, .ref a_this_leases, .int v_starMany, .int v_tenants, .int v_draftSquares, .int v_draftStars, .int v_draftTenants, .int v_draftLeases, .ref a_this_s, .ref a_this_kept, .ref a_this_isKept, .ref a_this_offers, .int v_offerMany, .ref a_this_seen, .int v_seenMany])), (a_this_s, .inl (G.2.1, 100, .inl v_s)), (a_this_stars, .inl (G.2.1, 48, .inl v_stars))] sz)) (zQ G (some (.int R0)) [(a_this, .inr (9, [.int R1, .long v_trace, .ref a_this_text, .int v_typed, .int v_next, .int v_token, .int v_place, .int v_value, .int v_fault, .int v_squares, .ref a_this_stars, .ref a_this_purses, .ref a_this_leases, .int v_starMany, .int v_tenants, .int v_draftSquares, .int v_draftStars, .int v_draftTenants, .int v_draftLeases, .ref a_this_s, .ref a_this_kept, .ref a_this_isKept, .ref a_this_offers, .int v_offerMany, .ref a_this_seen, .int v_seenMany])), (a_this_s, .inl (G.2.1, 100, .inl v_s)), (a_this_stars, .inl (G.2.1, 48, .inl v_stars))] (va_A [(a_this, .inr (9, [.int v_thrown, .long v_trace, .ref a_this_text, .int v_typed, .int v_next, .int v_token, .int v_place, .int v_value, .int v_fault, .int v_squares, .ref a_this_stars, .ref a_this_purses, .ref a_this_leases, .int v_starMany, .int v_tenants, .int v_draftSquares, .int v_draftStars, .int v_draftTenants, .int v_draftLeases, .ref a_this_s, .ref a_this_kept, .ref a_this_isKept, .ref a_this_offers, .int v_offerMany, .ref a_this_seen, .int v_seenMany])), (a_this_s, .inl (G.2.1, 100, .inl v_s)), (a_this_stars, .inl (G.2.1, 48, .inl v_stars))] sz)) 0 0 (va_A [(a_this, .inr (9, [.int v_thrown, .long v_trace, .ref a_this_text, .int v_typed, .int v_next, .int v_token, .int v_place, .int v_value, .int v_fault, .int v_squares, .ref a_this_stars, .ref a_this_purses, .ref a_this_leases, .int v_starMany, .int v_tenants, .int v_draftSquares, .int v_draftStars, .int v_draftTenants, .int v_draftLeases, .ref a_this_s, .ref a_this_kept, .ref a_this_isKept, .ref a_this_offers, .int v_offerMany, .ref a_this_seen, .int v_seenMany])), (a_this_s, .inl (G.2.1, 100, .inl v_s)), (a_this_stars, .inl (G.2.1, 48, .inl v_stars))] sz) := by
  refine Met.ofW (cc := cX9_odds) (maxL := 11) (ret := (some .int)) (by decide) rfl ?_
  intro p e s m args below meth c s₁ B hml hv
  obtain ⟨hargs, hsz, hP, hD0, hE⟩ := hv
  have hx := B.exec
  have hb := B.bytes
  have hr := B.returns
  have hts := atoms_spec (ws := wsX9_odds) B.pre
  have hown : s.vm.findClass RX9 = some m.cls := findClass_of_methodNamed B.named
  have hlocks := B.notSynchronized
  have hK := hE.1
  have hC : CallFix p m c cX9_odds 11 s args wsX9_odds RX9 := ⟨hx, hb, hml, hown, hts⟩
  have inX9 : ∀ w ∈ wsX90, w ∈ wsX9_odds := by decide +kernel
  have lk22 := hts (.fieldLink RX9 22 "SkyLeasesModel" "s" "[I") (by decide +kernel)
  have lk38 := hts (.fieldLink RX9 38 "SkyLeasesModel" "squares" "I") (by decide +kernel)
  have lk42 := hts (.fieldLink RX9 42 "SkyLeasesModel" "thrown" "I") (by decide +kernel)
  subst hsz
  have hD := hD0.self (sz := s.heap.size)
  generalize hAe : va_A [(a_this, .inr (9, [.int v_thrown, .long v_trace, .ref a_this_text, .int v_typed, .int v_next, .int v_token, .int v_place, .int v_value, .int v_fault, .int v_squares, .ref a_this_stars, .ref a_this_purses, .ref a_this_leases, .int v_starMany, .int v_tenants, .int v_draftSquares, .int v_draftStars, .int v_draftTenants, .int v_draftLeases, .ref a_this_s, .ref a_this_kept, .ref a_this_isKept, .ref a_this_offers, .int v_offerMany, .ref a_this_seen, .int v_seenMany])), (a_this_s, .inl (G.2.1, 100, .inl v_s)), (a_this_stars, .inl (G.2.1, 48, .inl v_stars))] s.heap.size = A at hD ⊢
  have hA : ∀ q : Nat, s.heap.size ≤ q → A q := fun q h => by rw [← hAe]; exact Or.inr h
  have hS : va_S A s.heap s.heap [] := va_S.rf
  have hP : va_P G.1 vwCl [(a_this, .inr (9, [.int v_thrown, .long v_trace, .ref a_this_text, .int v_typed, .int v_next, .int v_token, .int v_place, .int v_value, .int v_fault, .int v_squares, .ref a_this_stars, .ref a_this_purses, .ref a_this_leases, .int v_starMany, .int v_tenants, .int v_draftSquares, .int v_draftStars, .int v_draftTenants, .int v_draftLeases, .ref a_this_s, .ref a_this_kept, .ref a_this_isKept, .ref a_this_offers, .int v_offerMany, .ref a_this_seen, .int v_seenMany])), (a_this_s, .inl (G.2.1, 100, .inl v_s)), (a_this_stars, .inl (G.2.1, 48, .inl v_stars))] s.heap := hP
  have hl := lv_entry ([.ref a_this, .int g1, .int g2, .int g3, .int g4]) (n := 11) (Nat.le_of_ble_eq_true rfl)
  have hent : entryFrame m args 11 = F0 m 0 ((lg_sl ([.ref a_this, .int g1, .int g2, .int g3, .int g4]) ++ List.replicate (11 - (lg_sl ([.ref a_this, .int g1, .int g2, .int g3, .int g4])).length) Slot.unset).toArray) [] := by rw [hargs]; exact lg_entry_eq m [.ref a_this, .int g1, .int g2, .int g3, .int g4] 11
  refine W.eq hent ?_
  clear hent
  generalize (lg_sl ([.ref a_this, .int g1, .int g2, .int g3, .int g4]) ++ List.replicate (11 - (lg_sl ([.ref a_this, .int g1, .int g2, .int g3, .int g4])).length) Slot.unset).toArray = ls at hl ⊢
  have hl : lv_has ls 11 [(0, .ref a_this), (1, .int g1), (2, .int g2), (3, .int g3), (4, .int g4)] := hl
  generalize hQ : MQ below _ args s 0 0 _ = QQ
  change W p l e rm_X9_odds s m args below meth c s.heap [] 0 0 QQ _
  have j154 : ∀ (x1 : Int32), ∀ (x2 : Int32), ∀ (x3 : Int32), ∀ (x4 : Int32), ∀ (x5 : Int32), ∀ (v_thrown : Int32), ∀ (k77 : Int32 → Int32 → Option (Int32 × Int32)), (∀ (x6 : Int32), ∀ (x7 : Int32), ∀ (ls : Array Slot), lv_has ls 11 [(0, .ref a_this), (1, .int x1), (2, .int x2), (3, .int x3), (4, .int x4), (5, .int x5), (6, .int x6), (7, .int x7)] → ∀ (H : Heap) (locs : List Loc), va_P G.1 vwCl [(a_this, .inr (9, [.int v_thrown, .long v_trace, .ref a_this_text, .int v_typed, .int v_next, .int v_token, .int v_place, .int v_value, .int v_fault, .int v_squares, .ref a_this_stars, .ref a_this_purses, .ref a_this_leases, .int v_starMany, .int v_tenants, .int v_draftSquares, .int v_draftStars, .int v_draftTenants, .int v_draftLeases, .ref a_this_s, .ref a_this_kept, .ref a_this_isKept, .ref a_this_offers, .int v_offerMany, .ref a_this_seen, .int v_seenMany])), (a_this_s, .inl (G.2.1, 100, .inl v_s)), (a_this_stars, .inl (G.2.1, 48, .inl v_stars))] H → va_D A [(a_this, .inr (9, [.int v_thrown, .long v_trace, .ref a_this_text, .int v_typed, .int v_next, .int v_token, .int v_place, .int v_value, .int v_fault, .int v_squares, .ref a_this_stars, .ref a_this_purses, .ref a_this_leases, .int v_starMany, .int v_tenants, .int v_draftSquares, .int v_draftStars, .int v_draftTenants, .int v_draftLeases, .ref a_this_s, .ref a_this_kept, .ref a_this_isKept, .ref a_this_offers, .int v_offerMany, .ref a_this_seen, .int v_seenMany])), (a_this_s, .inl (G.2.1, 100, .inl v_s)), (a_this_stars, .inl (G.2.1, 48, .inl v_stars))] → va_S A s.heap H locs → k77 x6 x7 = some (R0, R1) → W p l e rm_X9_odds s m args below meth c H locs 0 0 QQ (F0 m 77 ls [])) → ∀ (x7 : Int32), ∀ (t0 : Int32), ∀ (t1 : Int32), ∀ (ls : Array Slot), lv_has ls 11 [(0, .ref a_this), (1, .int x1), (2, .int x2), (3, .int x3), (4, .int x4), (5, .int x5), (7, .int x7)] → ∀ (H : Heap) (locs : List Loc), va_P G.1 vwCl [(a_this, .inr (9, [.int v_thrown, .long v_trace, .ref a_this_text, .int v_typed, .int v_next, .int v_token, .int v_place, .int v_value, .int v_fault, .int v_squares, .ref a_this_stars, .ref a_this_purses, .ref a_this_leases, .int v_starMany, .int v_tenants, .int v_draftSquares, .int v_draftStars, .int v_draftTenants, .int v_draftLeases, .ref a_this_s, .ref a_this_kept, .ref a_this_isKept, .ref a_this_offers, .int v_offerMany, .ref a_this_seen, .int v_seenMany])), (a_this_s, .inl (G.2.1, 100, .inl v_s)), (a_this_stars, .inl (G.2.1, 48, .inl v_stars))] H → va_D A [(a_this, .inr (9, [.int v_thrown, .long v_trace, .ref a_this_text, .int v_typed, .int v_next, .int v_token, .int v_place, .int v_value, .int v_fault, .int v_squares, .ref a_this_stars, .ref a_this_purses, .ref a_this_leases, .int v_starMany, .int v_tenants, .int v_draftSquares, .int v_draftStars, .int v_draftTenants, .int v_draftLeases, .ref a_this_s, .ref a_this_kept, .ref a_this_isKept, .ref a_this_offers, .int v_offerMany, .ref a_this_seen, .int v_seenMany])), (a_this_s, .inl (G.2.1, 100, .inl v_s)), (a_this_stars, .inl (G.2.1, 48, .inl v_stars))] → va_S A s.heap H locs → f_X9_odds_b154 k77 x7 t0 t1 = some (R0, R1) → W p l e rm_X9_odds s m args below meth c H locs 0 0 QQ (F0 m 154 ls [.int t1, .int t0]) := by
    intro x1 x2 x3 x4 x5 v_thrown k77 hk77 x7 t0 t1 ls hl H locs hP hD hS hf
    unfold f_X9_odds_b154 at hf
    refine lv_iadd hx hb dX9_odds_154 ?_
    refine lv_istore (lv' := [(6, .int (t0 + t1)), (0, .ref a_this), (1, .int x1), (2, .int x2), (3, .int x3), (4, .int x4), (5, .int x5), (7, .int x7)]) hx hb dX9_odds_155 hl (by decide) rfl (fun ls hl => ?_)
    refine lv_iinc (v := (x7 + (1 : Int32))) (lv' := [(7, .int (x7 + (1 : Int32))), (6, .int (t0 + t1)), (0, .ref a_this), (1, .int x1), (2, .int x2), (3, .int x3), (4, .int x4), (5, .int x5)]) hx hb dX9_odds_157 hl (k := 7) rfl rfl (by decide) rfl (fun ls hl => ?_)
    refine lv_goto (tgt := 77) hx hb dX9_odds_160 (by decide) ?_
    exact hk77 ((t0 + t1)) ((x7 + (1 : Int32))) ls (lv_sub hl [2, 3, 4, 5, 6, 7, 1, 0] rfl) _ _ hP hD hS hf
  have j94 : ∀ (x1 : Int32), ∀ (x2 : Int32), ∀ (x3 : Int32), ∀ (x4 : Int32), ∀ (x5 : Int32), ∀ (v_thrown : Int32), ∀ (k77 : Int32 → Int32 → Option (Int32 × Int32)), (∀ (x6 : Int32), ∀ (x7 : Int32), ∀ (ls : Array Slot), lv_has ls 11 [(0, .ref a_this), (1, .int x1), (2, .int x2), (3, .int x3), (4, .int x4), (5, .int x5), (6, .int x6), (7, .int x7)] → ∀ (H : Heap) (locs : List Loc), va_P G.1 vwCl [(a_this, .inr (9, [.int v_thrown, .long v_trace, .ref a_this_text, .int v_typed, .int v_next, .int v_token, .int v_place, .int v_value, .int v_fault, .int v_squares, .ref a_this_stars, .ref a_this_purses, .ref a_this_leases, .int v_starMany, .int v_tenants, .int v_draftSquares, .int v_draftStars, .int v_draftTenants, .int v_draftLeases, .ref a_this_s, .ref a_this_kept, .ref a_this_isKept, .ref a_this_offers, .int v_offerMany, .ref a_this_seen, .int v_seenMany])), (a_this_s, .inl (G.2.1, 100, .inl v_s)), (a_this_stars, .inl (G.2.1, 48, .inl v_stars))] H → va_D A [(a_this, .inr (9, [.int v_thrown, .long v_trace, .ref a_this_text, .int v_typed, .int v_next, .int v_token, .int v_place, .int v_value, .int v_fault, .int v_squares, .ref a_this_stars, .ref a_this_purses, .ref a_this_leases, .int v_starMany, .int v_tenants, .int v_draftSquares, .int v_draftStars, .int v_draftTenants, .int v_draftLeases, .ref a_this_s, .ref a_this_kept, .ref a_this_isKept, .ref a_this_offers, .int v_offerMany, .ref a_this_seen, .int v_seenMany])), (a_this_s, .inl (G.2.1, 100, .inl v_s)), (a_this_stars, .inl (G.2.1, 48, .inl v_stars))] → va_S A s.heap H locs → k77 x6 x7 = some (R0, R1) → W p l e rm_X9_odds s m args below meth c H locs 0 0 QQ (F0 m 77 ls [])) → ∀ (x6 : Int32), ∀ (x7 : Int32), ∀ (nn : Nat), ∀ (x8 : Int32), ∀ (x9 : Int32), ∀ (x10 : Int32), ∀ (ls : Array Slot), lv_has ls 11 [(0, .ref a_this), (1, .int x1), (2, .int x2), (3, .int x3), (4, .int x4), (5, .int x5), (6, .int x6), (7, .int x7), (8, .int x8), (9, .int x9), (10, .int x10)] → ∀ (H : Heap) (locs : List Loc), va_P G.1 vwCl [(a_this, .inr (9, [.int v_thrown, .long v_trace, .ref a_this_text, .int v_typed, .int v_next, .int v_token, .int v_place, .int v_value, .int v_fault, .int v_squares, .ref a_this_stars, .ref a_this_purses, .ref a_this_leases, .int v_starMany, .int v_tenants, .int v_draftSquares, .int v_draftStars, .int v_draftTenants, .int v_draftLeases, .ref a_this_s, .ref a_this_kept, .ref a_this_isKept, .ref a_this_offers, .int v_offerMany, .ref a_this_seen, .int v_seenMany])), (a_this_s, .inl (G.2.1, 100, .inl v_s)), (a_this_stars, .inl (G.2.1, 48, .inl v_stars))] H → va_D A [(a_this, .inr (9, [.int v_thrown, .long v_trace, .ref a_this_text, .int v_typed, .int v_next, .int v_token, .int v_place, .int v_value, .int v_fault, .int v_squares, .ref a_this_stars, .ref a_this_purses, .ref a_this_leases, .int v_starMany, .int v_tenants, .int v_draftSquares, .int v_draftStars, .int v_draftTenants, .int v_draftLeases, .ref a_this_s, .ref a_this_kept, .ref a_this_isKept, .ref a_this_offers, .int v_offerMany, .ref a_this_seen, .int v_seenMany])), (a_this_s, .inl (G.2.1, 100, .inl v_s)), (a_this_stars, .inl (G.2.1, 48, .inl v_stars))] → va_S A s.heap H locs → f_X9_odds_b94 v_squares v_starMany v_s v_stars k77 x1 x2 x3 x6 x7 nn x8 x9 x10 = some (R0, R1) → W p l e rm_X9_odds s m args below meth c H locs 0 0 QQ (F0 m 94 ls []) := by
    intro x1 x2 x3 x4 x5 v_thrown k77 hk77 x6 x7
    intro nn
    induction nn with
    | zero =>
      intro x8 x9 x10 ls hl H locs hP hD hS hf
      rw [f_X9_odds_b94] at hf
      cases hf
    | succ n94 ih =>
      intro x8 x9 x10 ls hl H locs hP hD hS hf
      rw [f_X9_odds_b94] at hf
      refine lv_iload hx hb dX9_odds_94 (lv_at hl 10 rfl) ?_
      refine lv_iload_n hx hb dX9_odds_96 rfl (lv_at hl 2 rfl) ?_
      refine lv_icmp_ge (tgt := 141) hx hb dX9_odds_97 (by decide) (fun hc21 => ?_) (fun hc21 => ?_)
      · have hf := if_t hf hc21
        refine lv_iload hx hb dX9_odds_141 (lv_at hl 6 rfl) ?_
        refine lv_iload hx hb dX9_odds_143 (lv_at hl 9 rfl) ?_
        refine lv_iload_n hx hb dX9_odds_145 rfl (lv_at hl 3 rfl) ?_
        refine lv_icmp_lt (tgt := 153) hx hb dX9_odds_146 (by decide) (fun hc22 => ?_) (fun hc22 => ?_)
        · have hf := if_t hf hc22
          refine lv_iconst (v := (0 : Int32)) hx hb dX9_odds_153 (by decide) ?_
          exact j154 (x1) (x2) (x3) (x4) (x5) (v_thrown) k77 hk77 (x7) (x6) ((0 : Int32)) ls (lv_sub hl [0, 1, 2, 3, 4, 5, 7] rfl) _ _ hP hD hS hf
        · have hf := if_f hf hc22
          refine lv_iconst (v := (1 : Int32)) hx hb dX9_odds_149 (by decide) ?_
          refine lv_goto (tgt := 154) hx hb dX9_odds_150 (by decide) ?_
          exact j154 (x1) (x2) (x3) (x4) (x5) (v_thrown) k77 hk77 (x7) (x6) ((1 : Int32)) ls (lv_sub hl [0, 1, 2, 3, 4, 5, 7] rfl) _ _ hP hD hS hf
      · have hf := if_f hf hc21
        refine lv_iload hx hb dX9_odds_100 (lv_at hl 9 rfl) ?_
        refine lv_aload_n hx hb dX9_odds_102 rfl (lv_at hl 0 rfl) ?_
        refine lv_iload_n hx hb dX9_odds_103 rfl (lv_at hl 1 rfl) ?_
        refine lv_aload_n hx hb dX9_odds_104 rfl (lv_at hl 0 rfl) ?_
        refine va_get (D := G.1) (ci := 9) (v := .ref a_this_s) (C := RX9) (T := TX9) (N := 26) hx hb hts inX9 hown hK hP 0 rfl rfl 19 (by decide) lk22 (fun _ h9 => h9) rfl dX9_odds_105 ?_
        refine lv_iconst (v := (0 : Int32)) hx hb dX9_odds_108 (by decide) ?_
        obtain ⟨hg23, hf⟩ := gd_some hf
        refine va_iald hx hb hK hP 1 0 rfl rfl (inB_in hg23) dX9_odds_109 ?_
        refine lv_iload hx hb dX9_odds_110 (lv_at hl 10 rfl) ?_
        refine lv_iadd hx hb dX9_odds_112 ?_
        refine lv_iload hx hb dX9_odds_113 (lv_at hl 8 rfl) ?_
        refine lv_aload_n hx hb dX9_odds_115 rfl (lv_at hl 0 rfl) ?_
        refine va_get (D := G.1) (ci := 9) (v := .int v_squares) (C := RX9) (T := TX9) (N := 26) hx hb hts inX9 hown hK hP 0 rfl rfl 9 (by decide) lk38 (fun _ h9 => h9) rfl dX9_odds_116 ?_
        obtain ⟨hg24, hf⟩ := gd_some hf
        refine lv_irem hx hb dX9_odds_119 (nzB_ne hg24) ?_
        obtain ⟨r25, hu, hf⟩ := bd1_some hf
        refine zRi (va_runV (As := [.int x1, .int ((v_s ((0 : Int32)).toNatClampNeg) + x10), .int (x8 - x8 / v_squares * v_squares)]) (rest := [.int x9]) hC (c_X9_rentOf l G a_this a_this_stars a_this_s a_this_text a_this_purses a_this_leases a_this_kept a_this_isKept a_this_offers a_this_seen (v_thrown) (v_trace) (v_typed) (v_next) (v_token) (v_place) (v_value) (v_fault) (v_squares) (v_starMany) (v_tenants) (v_draftSquares) (v_draftStars) (v_draftTenants) (v_draftLeases) (v_offerMany) (v_seenMany) (v_stars) (v_s) (x1) (((v_s ((0 : Int32)).toNatClampNeg) + x10)) ((x8 - x8 / v_squares * v_squares)) r25 hu) (cwV 3 hts gX9_odds_X9_rentOf rfl rfl rfl hd_X9_rentOf ⟨(Nat.le_of_ble_eq_true rfl), (Nat.le_of_ble_eq_true rfl)⟩) (zPV hE hP [0, 2, 1] rfl 0 rfl rfl) rfl rfl hl.1 rfl (lv_room (Nat.le_of_ble_eq_true rfl)) dX9_odds_120 ⟨Nat.zero_le _, Nat.zero_le _⟩) ?_
        refine lv_iadd hx hb dX9_odds_123 ?_
        refine lv_istore (lv' := [(9, .int (x9 + r25)), (0, .ref a_this), (1, .int x1), (2, .int x2), (3, .int x3), (4, .int x4), (5, .int x5), (6, .int x6), (7, .int x7), (8, .int x8), (10, .int x10)]) hx hb dX9_odds_124 hl (by decide) rfl (fun ls hl => ?_)
        refine lv_iload hx hb dX9_odds_126 (lv_at hl 9 rfl) ?_
        refine lv_aload_n hx hb dX9_odds_128 rfl (lv_at hl 1 rfl) ?_
        refine va_get (D := G.1) (ci := 9) (v := .int v_squares) (C := RX9) (T := TX9) (N := 26) hx hb hts inX9 hown hK hP 0 rfl rfl 9 (by decide) lk38 (fun _ h9 => h9) rfl dX9_odds_129 ?_
        obtain ⟨hg26, hf⟩ := gd_some hf
        refine lv_idiv hx hb dX9_odds_132 (nzB_ne hg26) ?_
        refine lv_istore (lv' := [(8, .int (x8 / v_squares)), (9, .int (x9 + r25)), (0, .ref a_this), (1, .int x1), (2, .int x2), (3, .int x3), (4, .int x4), (5, .int x5), (6, .int x6), (7, .int x7), (10, .int x10)]) hx hb dX9_odds_133 hl (by decide) rfl (fun ls hl => ?_)
        refine lv_iinc (v := (x10 + (1 : Int32))) (lv' := [(10, .int (x10 + (1 : Int32))), (8, .int (x8 / v_squares)), (9, .int (x9 + r25)), (0, .ref a_this), (1, .int x1), (2, .int x2), (3, .int x3), (4, .int x4), (5, .int x5), (6, .int x6), (7, .int x7)]) hx hb dX9_odds_135 hl (k := 10) rfl rfl (by decide) rfl (fun ls hl => ?_)
        refine lv_goto (tgt := 94) hx hb dX9_odds_138 (by decide) ?_
        exact ih ((x8 / v_squares)) ((x9 + r25)) ((x10 + (1 : Int32))) ls (lv_sub hl [3, 4, 5, 6, 7, 8, 9, 10, 1, 2, 0] rfl) _ _ hP hD hS hf
  have j77 : ∀ (x1 : Int32), ∀ (x2 : Int32), ∀ (x3 : Int32), ∀ (x4 : Int32), ∀ (x5 : Int32), ∀ (v_thrown : Int32), ∀ (nn : Nat), ∀ (x6 : Int32), ∀ (x7 : Int32), ∀ (ls : Array Slot), lv_has ls 11 [(0, .ref a_this), (1, .int x1), (2, .int x2), (3, .int x3), (4, .int x4), (5, .int x5), (6, .int x6), (7, .int x7)] → ∀ (H : Heap) (locs : List Loc), va_P G.1 vwCl [(a_this, .inr (9, [.int v_thrown, .long v_trace, .ref a_this_text, .int v_typed, .int v_next, .int v_token, .int v_place, .int v_value, .int v_fault, .int v_squares, .ref a_this_stars, .ref a_this_purses, .ref a_this_leases, .int v_starMany, .int v_tenants, .int v_draftSquares, .int v_draftStars, .int v_draftTenants, .int v_draftLeases, .ref a_this_s, .ref a_this_kept, .ref a_this_isKept, .ref a_this_offers, .int v_offerMany, .ref a_this_seen, .int v_seenMany])), (a_this_s, .inl (G.2.1, 100, .inl v_s)), (a_this_stars, .inl (G.2.1, 48, .inl v_stars))] H → va_D A [(a_this, .inr (9, [.int v_thrown, .long v_trace, .ref a_this_text, .int v_typed, .int v_next, .int v_token, .int v_place, .int v_value, .int v_fault, .int v_squares, .ref a_this_stars, .ref a_this_purses, .ref a_this_leases, .int v_starMany, .int v_tenants, .int v_draftSquares, .int v_draftStars, .int v_draftTenants, .int v_draftLeases, .ref a_this_s, .ref a_this_kept, .ref a_this_isKept, .ref a_this_offers, .int v_offerMany, .ref a_this_seen, .int v_seenMany])), (a_this_s, .inl (G.2.1, 100, .inl v_s)), (a_this_stars, .inl (G.2.1, 48, .inl v_stars))] → va_S A s.heap H locs → f_X9_odds_b77 v_squares v_starMany v_s v_stars x1 x2 x3 x4 x5 v_thrown nn x6 x7 = some (R0, R1) → W p l e rm_X9_odds s m args below meth c H locs 0 0 QQ (F0 m 77 ls []) := by
    intro x1 x2 x3 x4 x5 v_thrown
    intro nn
    induction nn with
    | zero =>
      intro x6 x7 ls hl H locs hP hD hS hf
      rw [f_X9_odds_b77] at hf
      cases hf
    | succ n77 ih =>
      intro x6 x7 ls hl H locs hP hD hS hf
      rw [f_X9_odds_b77] at hf
      refine lv_iload hx hb dX9_odds_77 (lv_at hl 7 rfl) ?_
      refine lv_iload hx hb dX9_odds_79 (lv_at hl 5 rfl) ?_
      refine lv_icmp_ge (tgt := 163) hx hb dX9_odds_81 (by decide) (fun hc27 => ?_) (fun hc27 => ?_)
      · have hf := if_t hf hc27
        refine lv_iload hx hb dX9_odds_163 (lv_at hl 6 rfl) ?_
        refine lv_i2l (v := ((x6).toInt64)) hx hb dX9_odds_165 rfl ?_
        refine lv_iload hx hb dX9_odds_166 (lv_at hl 5 rfl) ?_
        refine lv_i2l (v := ((x5).toInt64)) hx hb dX9_odds_168 rfl ?_
        obtain ⟨r28, hu, hf⟩ := bd1_some hf
        refine zRl (va_runS (As := [.long ((x6).toInt64), .long ((x5).toInt64)]) (rest := []) hC (c_X9_gcd l G (((x6).toInt64)) (((x5).toInt64)) r28 hu) (va_cwS 2 hts gX9_odds_X9_gcd rfl rfl rfl hd_X9_gcd.2 ⟨(Nat.le_of_ble_eq_true rfl), (Nat.le_of_ble_eq_true rfl)⟩) (zPS hE hP [] rfl) rfl rfl hl.1 rfl (lv_room (Nat.le_of_ble_eq_true rfl)) dX9_odds_169 ⟨Nat.zero_le _, Nat.zero_le _⟩) ?_
        refine lv_l2i (v := ((r28).toInt32)) hx hb dX9_odds_172 rfl ?_
        refine lv_istore (lv' := [(7, .int ((r28).toInt32)), (0, .ref a_this), (1, .int x1), (2, .int x2), (3, .int x3), (4, .int x4), (5, .int x5), (6, .int x6)]) hx hb dX9_odds_173 hl (by decide) rfl (fun ls hl => ?_)
        refine lv_iload hx hb dX9_odds_175 (lv_at hl 5 rfl) ?_
        refine lv_if_ne (tgt := 188) hx hb dX9_odds_177 (by decide) (fun hc29 => ?_) (fun hc29 => ?_)
        · have hf := if_f hf hc29
          refine lv_iload hx hb dX9_odds_188 (lv_at hl 6 rfl) ?_
          refine lv_iload hx hb dX9_odds_190 (lv_at hl 0 rfl) ?_
          obtain ⟨hg30, hf⟩ := gd_some hf
          refine lv_idiv hx hb dX9_odds_192 (nzB_ne hg30) ?_
          obtain ⟨hr0, hr1⟩ := so2 hf
          subst hr0
          subst hr1
          rw [← hQ]
          exact W.iret (v := (x5 / ((r28).toInt32))) hx hb hr (fun t ht hW => ⟨⟨rfl, by rw [ht]; exact hP⟩, hS.F ht⟩) hS.2.2 dX9_odds_193
        · have hf := if_t hf hc29
          refine lv_iload hx hb dX9_odds_180 (lv_at hl 7 rfl) ?_
          refine lv_iload hx hb dX9_odds_182 (lv_at hl 0 rfl) ?_
          obtain ⟨hg31, hf⟩ := gd_some hf
          refine lv_idiv hx hb dX9_odds_184 (nzB_ne hg31) ?_
          refine lv_goto (tgt := 193) hx hb dX9_odds_185 (by decide) ?_
          obtain ⟨hr0, hr1⟩ := so2 hf
          subst hr0
          subst hr1
          rw [← hQ]
          exact W.iret (v := (x6 / ((r28).toInt32))) hx hb hr (fun t ht hW => ⟨⟨rfl, by rw [ht]; exact hP⟩, hS.F ht⟩) hS.2.2 dX9_odds_193
      · have hf := if_f hf hc27
        refine lv_iload hx hb dX9_odds_84 (lv_at hl 7 rfl) ?_
        refine lv_istore (lv' := [(8, .int x7), (0, .ref a_this), (1, .int x1), (2, .int x2), (3, .int x3), (4, .int x4), (5, .int x5), (6, .int x6), (7, .int x7)]) hx hb dX9_odds_86 hl (by decide) rfl (fun ls hl => ?_)
        refine lv_iconst (v := (0 : Int32)) hx hb dX9_odds_88 (by decide) ?_
        refine lv_istore (lv' := [(9, .int (0 : Int32)), (8, .int x7), (0, .ref a_this), (1, .int x1), (2, .int x2), (3, .int x3), (4, .int x4), (5, .int x5), (6, .int x6), (7, .int x7)]) hx hb dX9_odds_89 hl (by decide) rfl (fun ls hl => ?_)
        refine lv_iconst (v := (0 : Int32)) hx hb dX9_odds_91 (by decide) ?_
        refine lv_istore (lv' := [(10, .int (0 : Int32)), (9, .int (0 : Int32)), (8, .int x7), (0, .ref a_this), (1, .int x1), (2, .int x2), (3, .int x3), (4, .int x4), (5, .int x5), (6, .int x6), (7, .int x7)]) hx hb dX9_odds_92 hl (by decide) rfl (fun ls hl => ?_)
        exact j94 (x1) (x2) (x3) (x4) (x5) (v_thrown) (f_X9_odds_b77 v_squares v_starMany v_s v_stars x1 x2 x3 x4 x5 v_thrown n77) ih (x6) (x7) zF (x7) ((0 : Int32)) ((0 : Int32)) ls (lv_sub hl [3, 4, 5, 6, 7, 8, 9, 10, 2, 1, 0] rfl) _ _ hP hD hS hf
  have j50 : ∀ (x1 : Int32), ∀ (x2 : Int32), ∀ (x3 : Int32), ∀ (x4 : Int32), ∀ (v_thrown : Int32), ∀ (nn : Nat), ∀ (x5 : Int32), ∀ (x6 : Int32), ∀ (ls : Array Slot), lv_has ls 11 [(0, .ref a_this), (1, .int x1), (2, .int x2), (3, .int x3), (4, .int x4), (5, .int x5), (6, .int x6)] → ∀ (H : Heap) (locs : List Loc), va_P G.1 vwCl [(a_this, .inr (9, [.int v_thrown, .long v_trace, .ref a_this_text, .int v_typed, .int v_next, .int v_token, .int v_place, .int v_value, .int v_fault, .int v_squares, .ref a_this_stars, .ref a_this_purses, .ref a_this_leases, .int v_starMany, .int v_tenants, .int v_draftSquares, .int v_draftStars, .int v_draftTenants, .int v_draftLeases, .ref a_this_s, .ref a_this_kept, .ref a_this_isKept, .ref a_this_offers, .int v_offerMany, .ref a_this_seen, .int v_seenMany])), (a_this_s, .inl (G.2.1, 100, .inl v_s)), (a_this_stars, .inl (G.2.1, 48, .inl v_stars))] H → va_D A [(a_this, .inr (9, [.int v_thrown, .long v_trace, .ref a_this_text, .int v_typed, .int v_next, .int v_token, .int v_place, .int v_value, .int v_fault, .int v_squares, .ref a_this_stars, .ref a_this_purses, .ref a_this_leases, .int v_starMany, .int v_tenants, .int v_draftSquares, .int v_draftStars, .int v_draftTenants, .int v_draftLeases, .ref a_this_s, .ref a_this_kept, .ref a_this_isKept, .ref a_this_offers, .int v_offerMany, .ref a_this_seen, .int v_seenMany])), (a_this_s, .inl (G.2.1, 100, .inl v_s)), (a_this_stars, .inl (G.2.1, 48, .inl v_stars))] → va_S A s.heap H locs → f_X9_odds_b50 v_squares v_starMany v_s v_stars x1 x2 x3 x4 v_thrown nn x5 x6 = some (R0, R1) → W p l e rm_X9_odds s m args below meth c H locs 0 0 QQ (F0 m 50 ls []) := by
    intro x1 x2 x3 x4 v_thrown
    intro nn
    induction nn with
    | zero =>
      intro x5 x6 ls hl H locs hP hD hS hf
      rw [f_X9_odds_b50] at hf
      cases hf
    | succ n50 ih =>
      intro x5 x6 ls hl H locs hP hD hS hf
      rw [f_X9_odds_b50] at hf
      refine lv_iload hx hb dX9_odds_50 (lv_at hl 6 rfl) ?_
      refine lv_iload_n hx hb dX9_odds_52 rfl (lv_at hl 2 rfl) ?_
      refine lv_icmp_ge (tgt := 71) hx hb dX9_odds_53 (by decide) (fun hc32 => ?_) (fun hc32 => ?_)
      · have hf := if_t hf hc32
        refine lv_iconst (v := (0 : Int32)) hx hb dX9_odds_71 (by decide) ?_
        refine lv_istore (lv' := [(6, .int (0 : Int32)), (0, .ref a_this), (1, .int x1), (2, .int x2), (3, .int x3), (4, .int x4), (5, .int x5)]) hx hb dX9_odds_72 hl (by decide) rfl (fun ls hl => ?_)
        refine lv_iconst (v := (0 : Int32)) hx hb dX9_odds_74 (by decide) ?_
        refine lv_istore (lv' := [(7, .int (0 : Int32)), (6, .int (0 : Int32)), (0, .ref a_this), (1, .int x1), (2, .int x2), (3, .int x3), (4, .int x4), (5, .int x5)]) hx hb dX9_odds_75 hl (by decide) rfl (fun ls hl => ?_)
        exact j77 (x1) (x2) (x3) (x4) (x5) (v_thrown) zF ((0 : Int32)) ((0 : Int32)) ls (lv_sub hl [2, 3, 4, 5, 6, 7, 1, 0] rfl) _ _ hP hD hS hf
      · have hf := if_f hf hc32
        refine lv_iload hx hb dX9_odds_56 (lv_at hl 5 rfl) ?_
        refine lv_aload_n hx hb dX9_odds_58 rfl (lv_at hl 0 rfl) ?_
        refine va_get (D := G.1) (ci := 9) (v := .int v_squares) (C := RX9) (T := TX9) (N := 26) hx hb hts inX9 hown hK hP 0 rfl rfl 9 (by decide) lk38 (fun _ h9 => h9) rfl dX9_odds_59 ?_
        refine lv_imul hx hb dX9_odds_62 ?_
        refine lv_istore (lv' := [(5, .int (x5 * v_squares)), (0, .ref a_this), (1, .int x1), (2, .int x2), (3, .int x3), (4, .int x4), (6, .int x6)]) hx hb dX9_odds_63 hl (by decide) rfl (fun ls hl => ?_)
        refine lv_iinc (v := (x6 + (1 : Int32))) (lv' := [(6, .int (x6 + (1 : Int32))), (5, .int (x5 * v_squares)), (0, .ref a_this), (1, .int x1), (2, .int x2), (3, .int x3), (4, .int x4)]) hx hb dX9_odds_65 hl (k := 6) rfl rfl (by decide) rfl (fun ls hl => ?_)
        refine lv_goto (tgt := 50) hx hb dX9_odds_68 (by decide) ?_
        exact ih ((x5 * v_squares)) ((x6 + (1 : Int32))) ls (lv_sub hl [2, 3, 4, 5, 6, 1, 0] rfl) _ _ hP hD hS hf
  have hSH := hS
  unfold f_X9_odds at hf
  refine lv_aload_n hx hb dX9_odds_0 rfl (lv_at hl 0 rfl) ?_
  refine lv_iconst (v := (0 : Int32)) hx hb dX9_odds_1 (by decide) ?_
  refine va_put (D := G.1) (ci := 9) (v := .int (0 : Int32)) (ty := .int) (C := RX9) (T := TX9) (N := 26) hx hb hts inX9 tyX9 tyX9_ok nmX9 hown hK hP hD hS 0 rfl rfl 0 (by decide) lk42 (fun _ h9 => h9) rfl (by decide +kernel) rfl rfl (Nat.le_of_ble_eq_true rfl) dX9_odds_2 (fun H locs hP hD hS => ?_)
  have hP : va_P G.1 vwCl [(a_this, .inr (9, [.int (0 : Int32), .long v_trace, .ref a_this_text, .int v_typed, .int v_next, .int v_token, .int v_place, .int v_value, .int v_fault, .int v_squares, .ref a_this_stars, .ref a_this_purses, .ref a_this_leases, .int v_starMany, .int v_tenants, .int v_draftSquares, .int v_draftStars, .int v_draftTenants, .int v_draftLeases, .ref a_this_s, .ref a_this_kept, .ref a_this_isKept, .ref a_this_offers, .int v_offerMany, .ref a_this_seen, .int v_seenMany])), (a_this_s, .inl (G.2.1, 100, .inl v_s)), (a_this_stars, .inl (G.2.1, 48, .inl v_stars))] H := hP
  have hD : va_D A [(a_this, .inr (9, [.int (0 : Int32), .long v_trace, .ref a_this_text, .int v_typed, .int v_next, .int v_token, .int v_place, .int v_value, .int v_fault, .int v_squares, .ref a_this_stars, .ref a_this_purses, .ref a_this_leases, .int v_starMany, .int v_tenants, .int v_draftSquares, .int v_draftStars, .int v_draftTenants, .int v_draftLeases, .ref a_this_s, .ref a_this_kept, .ref a_this_isKept, .ref a_this_offers, .int v_offerMany, .ref a_this_seen, .int v_seenMany])), (a_this_s, .inl (G.2.1, 100, .inl v_s)), (a_this_stars, .inl (G.2.1, 48, .inl v_stars))] := hD
  refine lv_aload_n hx hb dX9_odds_5 rfl (lv_at hl 0 rfl) ?_
  refine lv_iload_n hx hb dX9_odds_6 rfl (lv_at hl 1 rfl) ?_
  obtain ⟨r33, hu, hf⟩ := bd1_some hf
  refine zRi (va_runV (As := [.int g1]) (rest := []) hC (c_X9_isTenant l G a_this a_this_text a_this_stars a_this_purses a_this_leases a_this_s a_this_kept a_this_isKept a_this_offers a_this_seen ((0 : Int32)) (v_trace) (v_typed) (v_next) (v_token) (v_place) (v_value) (v_fault) (v_squares) (v_starMany) (v_tenants) (v_draftSquares) (v_draftStars) (v_draftTenants) (v_draftLeases) (v_offerMany) (v_seenMany) (g1) r33 hu) (cwV 1 hts gX9_odds_X9_isTenant rfl rfl rfl hd_X9_isTenant ⟨(Nat.le_of_ble_eq_true rfl), (Nat.le_of_ble_eq_true rfl)⟩) (zPV hE hP [0] rfl 0 rfl rfl) rfl rfl hl.1 rfl (lv_room (Nat.le_of_ble_eq_true rfl)) dX9_odds_7 ⟨Nat.zero_le _, Nat.zero_le _⟩) ?_
  refine lv_if_eq (tgt := 42) hx hb dX9_odds_10 (by decide) (fun hc34 => ?_) (fun hc34 => ?_)
  · have hf := if_t hf hc34
    refine lv_iconst (v := (-1 : Int32)) hx hb dX9_odds_42 (by decide) ?_
    obtain ⟨hr0, hr1⟩ := so2 hf
    subst hr0
    subst hr1
    rw [← hQ]
    exact W.iret (v := (-1 : Int32)) hx hb hr (fun t ht hW => ⟨⟨rfl, by rw [ht]; exact hP⟩, hS.F ht⟩) hS.2.2 dX9_odds_43
  · have hf := if_f hf hc34
    refine lv_iload_n hx hb dX9_odds_13 rfl (lv_at hl 2 rfl) ?_
    refine lv_iconst (v := (1 : Int32)) hx hb dX9_odds_14 (by decide) ?_
    refine lv_iconst (v := (3 : Int32)) hx hb dX9_odds_15 (by decide) ?_
    obtain ⟨r35, hu, hf⟩ := bd1_some hf
    refine zRi (va_runS (As := [.int g2, .int (1 : Int32), .int (3 : Int32)]) (rest := []) hC (c_X9_in l G (g2) ((1 : Int32)) ((3 : Int32)) r35 hu) (va_cwS 3 hts gX9_odds_X9_in rfl rfl rfl hd_X9_in.2 ⟨(Nat.le_of_ble_eq_true rfl), (Nat.le_of_ble_eq_true rfl)⟩) (zPS hE hP [] rfl) rfl rfl hl.1 rfl (lv_room (Nat.le_of_ble_eq_true rfl)) dX9_odds_16 ⟨Nat.zero_le _, Nat.zero_le _⟩) ?_
    refine lv_if_eq (tgt := 42) hx hb dX9_odds_19 (by decide) (fun hc36 => ?_) (fun hc36 => ?_)
    · have hf := if_t hf hc36
      refine lv_iconst (v := (-1 : Int32)) hx hb dX9_odds_42 (by decide) ?_
      obtain ⟨hr0, hr1⟩ := so2 hf
      subst hr0
      subst hr1
      rw [← hQ]
      exact W.iret (v := (-1 : Int32)) hx hb hr (fun t ht hW => ⟨⟨rfl, by rw [ht]; exact hP⟩, hS.F ht⟩) hS.2.2 dX9_odds_43
    · have hf := if_f hf hc36
      refine lv_iload_n hx hb dX9_odds_22 rfl (lv_at hl 3 rfl) ?_
      refine lv_iconst (v := (0 : Int32)) hx hb dX9_odds_23 (by decide) ?_
      refine lv_bipush (v := (99 : Int32)) hx hb dX9_odds_24 (by decide) ?_
      obtain ⟨r37, hu, hf⟩ := bd1_some hf
      refine zRi (va_runS (As := [.int g3, .int (0 : Int32), .int (99 : Int32)]) (rest := []) hC (c_X9_in l G (g3) ((0 : Int32)) ((99 : Int32)) r37 hu) (va_cwS 3 hts gX9_odds_X9_in rfl rfl rfl hd_X9_in.2 ⟨(Nat.le_of_ble_eq_true rfl), (Nat.le_of_ble_eq_true rfl)⟩) (zPS hE hP [] rfl) rfl rfl hl.1 rfl (lv_room (Nat.le_of_ble_eq_true rfl)) dX9_odds_26 ⟨Nat.zero_le _, Nat.zero_le _⟩) ?_
      refine lv_if_eq (tgt := 42) hx hb dX9_odds_29 (by decide) (fun hc38 => ?_) (fun hc38 => ?_)
      · have hf := if_t hf hc38
        refine lv_iconst (v := (-1 : Int32)) hx hb dX9_odds_42 (by decide) ?_
        obtain ⟨hr0, hr1⟩ := so2 hf
        subst hr0
        subst hr1
        rw [← hQ]
        exact W.iret (v := (-1 : Int32)) hx hb hr (fun t ht hW => ⟨⟨rfl, by rw [ht]; exact hP⟩, hS.F ht⟩) hS.2.2 dX9_odds_43
      · have hf := if_f hf hc38
        refine lv_iload hx hb dX9_odds_32 (lv_at hl 4 rfl) ?_
        refine lv_iconst (v := (0 : Int32)) hx hb dX9_odds_34 (by decide) ?_
        refine lv_iconst (v := (1 : Int32)) hx hb dX9_odds_35 (by decide) ?_
        obtain ⟨r39, hu, hf⟩ := bd1_some hf
        refine zRi (va_runS (As := [.int g4, .int (0 : Int32), .int (1 : Int32)]) (rest := []) hC (c_X9_in l G (g4) ((0 : Int32)) ((1 : Int32)) r39 hu) (va_cwS 3 hts gX9_odds_X9_in rfl rfl rfl hd_X9_in.2 ⟨(Nat.le_of_ble_eq_true rfl), (Nat.le_of_ble_eq_true rfl)⟩) (zPS hE hP [] rfl) rfl rfl hl.1 rfl (lv_room (Nat.le_of_ble_eq_true rfl)) dX9_odds_36 ⟨Nat.zero_le _, Nat.zero_le _⟩) ?_
        refine lv_if_ne (tgt := 44) hx hb dX9_odds_39 (by decide) (fun hc40 => ?_) (fun hc40 => ?_)
        · have hf := if_f hf hc40
          refine lv_iconst (v := (1 : Int32)) hx hb dX9_odds_44 (by decide) ?_
          refine lv_istore (lv' := [(5, .int (1 : Int32)), (0, .ref a_this), (1, .int g1), (2, .int g2), (3, .int g3), (4, .int g4)]) hx hb dX9_odds_45 hl (by decide) rfl (fun ls hl => ?_)
          refine lv_iconst (v := (0 : Int32)) hx hb dX9_odds_47 (by decide) ?_
          refine lv_istore (lv' := [(6, .int (0 : Int32)), (5, .int (1 : Int32)), (0, .ref a_this), (1, .int g1), (2, .int g2), (3, .int g3), (4, .int g4)]) hx hb dX9_odds_48 hl (by decide) rfl (fun ls hl => ?_)
          exact j50 (g1) (g2) (g3) (g4) ((0 : Int32)) zF ((1 : Int32)) ((0 : Int32)) ls (lv_sub hl [2, 3, 4, 5, 6, 1, 0] rfl) _ _ hP hD hS hf
        · have hf := if_t hf hc40
          refine lv_iconst (v := (-1 : Int32)) hx hb dX9_odds_42 (by decide) ?_
          obtain ⟨hr0, hr1⟩ := so2 hf
          subst hr0
          subst hr1
          rw [← hQ]
          exact W.iret (v := (-1 : Int32)) hx hb hr (fun t ht hW => ⟨⟨rfl, by rw [ht]; exact hP⟩, hS.F ht⟩) hS.2.2 dX9_odds_43
