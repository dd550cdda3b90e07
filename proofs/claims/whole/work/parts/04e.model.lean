def f_X9_rate_b71  (k37 : Int32 → Int32 → Option (Int32 × Int32 × Int64))  (x4 : Int32) (t0 : Int32) (t1 : Int32) : Option (Int32 × Int32 × Int64) := k37 ((t0 + t1)) ((x4 + (1 : Int32)))
def f_X9_rate_b124  (k92 : Int32 → Int32 → Option (Int32 × Int32 × Int64))  (x5 : Int32) (t0 : Int32) (t1 : Int32) : Option (Int32 × Int32 × Int64) := k92 ((t0 - t1)) ((x5 + (1 : Int32)))
def f_X9_rate_b193 (v_s : (Nat → Int32))   (x1 : Int32) (x2 : Int32) (x3 : Int32) (x4 : Int32) (t1 : Int64) (t2 : Int64) (v_thrown : Int32) : Option (Int32 × Int32 × Int64) := nm ((t1 + t2)) fun y31 => if x1 = (0 : Int32) then (gd (inB ((2 : Int32) + x2) 100) (some ((v_s (((2 : Int32) + x2)).toNatClampNeg), v_thrown, y31))) else (if x1 = (1 : Int32) then (some (x3, v_thrown, y31)) else (if x1 = (2 : Int32) then (some (x4, v_thrown, y31)) else (if x1 = (3 : Int32) then (some (((2 : Int32) * x3), v_thrown, y31)) else (if x1 = (4 : Int32) then (some ((x4 + x2), v_thrown, y31)) else (gd (inB ((2 : Int32) + x2) 100) (gd (inB (0 : Int32) 100) (some (((v_s (((2 : Int32) + x2)).toNatClampNeg) + (v_s ((0 : Int32)).toNatClampNeg)), v_thrown, y31))))))))
def f_X9_rate_b92 (v_squares : Int32) (v_s : (Nat → Int32))  (x1 : Int32) (x2 : Int32) (x3 : Int32) (v_thrown : Int32) (v_trace : Int64) : Nat → Int32 → Int32 → Option (Int32 × Int32 × Int64)
  | 0, _, _ => none
  | n92 + 1, x4, x5 => if v_squares ≤ x5 then (if x1 = (0 : Int32) then (f_X9_rate_b193 v_s (x1) (x2) (x3) (x4) (v_trace) ((1 : Int64)) (v_thrown)) else (if x1 = (1 : Int32) then (f_X9_rate_b193 v_s (x1) (x2) (x3) (x4) (v_trace) ((11 : Int64)) (v_thrown)) else (if x1 = (2 : Int32) then (f_X9_rate_b193 v_s (x1) (x2) (x3) (x4) (v_trace) ((101 : Int64)) (v_thrown)) else (if x1 = (3 : Int32) then (f_X9_rate_b193 v_s (x1) (x2) (x3) (x4) (v_trace) ((1011 : Int64)) (v_thrown)) else (if x1 = (4 : Int32) then (f_X9_rate_b193 v_s (x1) (x2) (x3) (x4) (v_trace) ((10101 : Int64)) (v_thrown)) else (f_X9_rate_b193 v_s (x1) (x2) (x3) (x4) (v_trace) ((100001 : Int64)) (v_thrown))))))) else (gd (inB (0 : Int32) 100) (bd1 (f_X9_whoseIs (v_squares) (v_s) (x5) ((v_s ((0 : Int32)).toNatClampNeg))) fun r47 => if r47 = x2 then (f_X9_rate_b124 (f_X9_rate_b92 v_squares v_s x1 x2 x3 v_thrown v_trace n92) (x5) (x4) ((1 : Int32))) else (f_X9_rate_b124 (f_X9_rate_b92 v_squares v_s x1 x2 x3 v_thrown v_trace n92) (x5) (x4) ((0 : Int32)))))
def f_X9_rate_b37 (v_squares : Int32) (v_s : (Nat → Int32))  (x1 : Int32) (x2 : Int32) (v_thrown : Int32) (v_trace : Int64) : Nat → Int32 → Int32 → Option (Int32 × Int32 × Int64)
  | 0, _, _ => none
  | n37 + 1, x3, x4 => gd (inB (6 : Int32) 100) (if (v_s ((6 : Int32)).toNatClampNeg) ≤ x4 then (gd (inB ((2 : Int32) + x2) 100) (nm ((v_s (((2 : Int32) + x2)).toNatClampNeg)) fun y52 => f_X9_rate_b92 v_squares v_s (x1) (x2) (x3) (v_thrown) (v_trace) zF (y52) ((0 : Int32)))) else (gd (inB ((7 : Int32) + ((5 : Int32) * x4)) 100) (if (v_s (((7 : Int32) + ((5 : Int32) * x4))).toNatClampNeg) = x2 then (f_X9_rate_b71 (f_X9_rate_b37 v_squares v_s x1 x2 v_thrown v_trace n37) (x4) (x3) ((1 : Int32))) else (f_X9_rate_b71 (f_X9_rate_b37 v_squares v_s x1 x2 v_thrown v_trace n37) (x4) (x3) ((0 : Int32))))))
def f_X9_rate  (v_thrown : Int32) (v_trace : Int64) (v_squares : Int32) (v_tenants : Int32) (v_s : (Nat → Int32)) (g1 : Int32) (g2 : Int32) : Option (Int32 × Int32 × Int64) := bd1 (f_X9_in (g1) ((0 : Int32)) ((5 : Int32))) fun r55 => if r55 = (0 : Int32) then (some ((-1000000 : Int32), (0 : Int32), v_trace)) else (bd1 (f_X9_isTenant (v_tenants) (g2)) fun r57 => if r57 = (0 : Int32) then (some ((-1000000 : Int32), (0 : Int32), v_trace)) else (gd (inB ((2 : Int32) + g2) 100) (nm ((v_s (((2 : Int32) + g2)).toNatClampNeg)) fun y60 => f_X9_rate_b37 v_squares v_s (g1) (g2) ((0 : Int32)) (v_trace) zF (y60) ((0 : Int32)))))
abbrev rm_X9_rate : Room := { frames := 3, cells := 0, slots := 0, locals := 70 }
set_option maxHeartbeats 4000000 in
set_option maxRecDepth 100000 in
theorem c_X9_rate (l : Launch) (G : zG) (sz : Nat) (a_this : Nat) (a_this_s : Nat) (a_this_text : Nat) (a_this_stars : Nat) (a_this_purses : Nat) (a_this_leases : Nat) (a_this_kept : Nat) (a_this_isKept : Nat) (a_this_offers : Nat) (a_this_seen : Nat) (v_thrown : Int32) (v_trace : Int64) (v_typed : Int32) (v_next : Int32) (v_token : Int32) (v_place : Int32) (v_value : Int32) (v_fault : Int32) (v_squares : Int32) (v_starMany : Int32) (v_tenants : Int32) (v_draftSquares : Int32) (v_draftStars : Int32) (v_draftTenants : Int32) (v_draftLeases : Int32) (v_offerMany : Int32) (v_seenMany : Int32) (v_s : (Nat → Int32)) (g1 : Int32) (g2 : Int32) (R0 : Int32) (R1 : Int32) (R2 : Int64) (hf : f_X9_rate v_thrown v_trace v_squares v_tenants v_s g1 g2 = some (R0, R1, R2)) : Met l yX9_rate wsX9_rate rm_X9_rate (va_Pc [.ref a_this, .int g1, .int g2] (zB G [(a_this, .inr (9, [.int v_thrown, .long v_trace, .ref a_this_text, .int v_typed, .int v_next, .int v_token, .int v_place, .int v_value, .int v_fault, .int v_squares, .ref a_this_stars, .ref a_this_purses, .ref a_this_leases, .int v_starMany, .int v_tenants, .int v_draftSquares, .int v_draftStars, .int v_draftTenants, .int v_draftLeases, .ref a_this_s, .ref a_this_kept, .ref a_this_isKept, .ref a_this_offers, .int v_offerMany, .ref a_this_seen, .int v_seenMany])), (a_this_s, .inl (G.2.1, 100, .inl v_s))] sz)) (zQ G (some (.int R0)) [(a_this, .inr (9, [.int R1, .long R2, .ref a_this_text, .int v_typed, .int v_next, .int v_token, .int v_place, .int v_value, .int v_fault, .int v_squares, .ref a_this_stars, .ref a_this_purses, .ref a_this_leases, .int v_starMany, .int v_tenants, .int v_draftSquares, .int v_draftStars, .int v_draftTenants, .int v_draftLeases, .ref a_this_s, .ref a_this_kept, .ref a_this_isKept, .ref a_this_offers, .int v_offerMany, .ref a_this_seen, .int v_seenMany])), (a_this_s, .inl (G.2.1, 100, .inl v_s))] (va_A [(a_this, .inr (9, [.int v_thrown, .long v_trace, .ref a_this_text, .int v_typed, .int v_next, .int v_token, .int v_place, .int v_value, .int v_fault, .int v_squares, .ref a_this_stars, .ref a_this_purses, .ref a_this_leases, .int v_starMany, .int v_tenants, .int v_draftSquares, .int v_draftStars, .int v_draftTenants, .int v_draftLeases, .ref a_this_s, .ref a_this_kept, .ref a_this_isKept, .ref a_this_offers, .int v_offerMany, .ref a_this_seen, .int v_seenMany])), (a_this_s, .inl (G.2.1, 100, .inl v_s))] sz)) 0 0 (va_A [(a_this, .inr (9, [.int v_thrown, .long v_trace, .ref a_this_text, .int v_typed, .int v_next, .int v_token, .int v_place, .int v_value, .int v_fault, .int v_squares, .ref a_this_stars, .ref a_this_purses, .ref a_this_leases, .int v_starMany, .int v_tenants, .int v_draftSquares, .int v_draftStars, .int v_draftTenants, .int v_draftLeases, .ref a_this_s, .ref a_this_kept, .ref a_this_isKept, .ref a_this_offers, .int v_offerMany, .ref a_this_seen, .int v_seenMany])), (a_this_s, .inl (G.2.1, 100, .inl v_s))] sz) := by
  refine Met.ofW (cc := cX9_rate) (maxL := 6) (ret := (some .int)) (by decide) rfl ?_
  intro p e s m args below meth c s₁ B hml hv
  obtain ⟨hargs, hsz, hP, hD0, hE⟩ := hv
  have hx := B.exec
  have hb := B.bytes
  have hr := B.returns
  have hts := atoms_spec (ws := wsX9_rate) B.pre
  have hown : s.vm.findClass RX9 = some m.cls := findClass_of_methodNamed B.named
  have hlocks := B.notSynchronized
  have hK := hE.1
  have hC : CallFix p m c cX9_rate 6 s args wsX9_rate RX9 := ⟨hx, hb, hml, hown, hts⟩
  have inX9 : ∀ w ∈ wsX90, w ∈ wsX9_rate := by decide +kernel
  have lk22 := hts (.fieldLink RX9 22 "SkyLeasesModel" "s" "[I") (by decide +kernel)
  have lk38 := hts (.fieldLink RX9 38 "SkyLeasesModel" "squares" "I") (by decide +kernel)
  have lk42 := hts (.fieldLink RX9 42 "SkyLeasesModel" "thrown" "I") (by decide +kernel)
  have lk196 := hts (.fieldLink RX9 196 "SkyLeasesModel" "trace" "J") (by decide +kernel)
  subst hsz
  have hD := hD0.self (sz := s.heap.size)
  generalize hAe : va_A [(a_this, .inr (9, [.int v_thrown, .long v_trace, .ref a_this_text, .int v_typed, .int v_next, .int v_token, .int v_place, .int v_value, .int v_fault, .int v_squares, .ref a_this_stars, .ref a_this_purses, .ref a_this_leases, .int v_starMany, .int v_tenants, .int v_draftSquares, .int v_draftStars, .int v_draftTenants, .int v_draftLeases, .ref a_this_s, .ref a_this_kept, .ref a_this_isKept, .ref a_this_offers, .int v_offerMany, .ref a_this_seen, .int v_seenMany])), (a_this_s, .inl (G.2.1, 100, .inl v_s))] s.heap.size = A at hD ⊢
  have hA : ∀ q : Nat, s.heap.size ≤ q → A q := fun q h => by rw [← hAe]; exact Or.inr h
  have hS : va_S A s.heap s.heap [] := va_S.rf
  have hP : va_P G.1 vwCl [(a_this, .inr (9, [.int v_thrown, .long v_trace, .ref a_this_text, .int v_typed, .int v_next, .int v_token, .int v_place, .int v_value, .int v_fault, .int v_squares, .ref a_this_stars, .ref a_this_purses, .ref a_this_leases, .int v_starMany, .int v_tenants, .int v_draftSquares, .int v_draftStars, .int v_draftTenants, .int v_draftLeases, .ref a_this_s, .ref a_this_kept, .ref a_this_isKept, .ref a_this_offers, .int v_offerMany, .ref a_this_seen, .int v_seenMany])), (a_this_s, .inl (G.2.1, 100, .inl v_s))] s.heap := hP
  have hl := lv_entry ([.ref a_this, .int g1, .int g2]) (n := 6) (Nat.le_of_ble_eq_true rfl)
  have hent : entryFrame m args 6 = F0 m 0 ((lg_sl ([.ref a_this, .int g1, .int g2]) ++ List.replicate (6 - (lg_sl ([.ref a_this, .int g1, .int g2])).length) Slot.unset).toArray) [] := by rw [hargs]; exact lg_entry_eq m [.ref a_this, .int g1, .int g2] 6
  refine W.eq hent ?_
  clear hent
  generalize (lg_sl ([.ref a_this, .int g1, .int g2]) ++ List.replicate (6 - (lg_sl ([.ref a_this, .int g1, .int g2])).length) Slot.unset).toArray = ls at hl ⊢
  have hl : lv_has ls 6 [(0, .ref a_this), (1, .int g1), (2, .int g2)] := hl
  generalize hQ : MQ below _ args s 0 0 _ = QQ
  change W p l e rm_X9_rate s m args below meth c s.heap [] 0 0 QQ _
  have j71 : ∀ (x1 : Int32), ∀ (x2 : Int32), ∀ (v_thrown : Int32), ∀ (v_trace : Int64), ∀ (k37 : Int32 → Int32 → Option (Int32 × Int32 × Int64)), (∀ (x3 : Int32), ∀ (x4 : Int32), ∀ (ls : Array Slot), lv_has ls 6 [(0, .ref a_this), (1, .int x1), (2, .int x2), (3, .int x3), (4, .int x4)] → ∀ (H : Heap) (locs : List Loc), va_P G.1 vwCl [(a_this, .inr (9, [.int v_thrown, .long v_trace, .ref a_this_text, .int v_typed, .int v_next, .int v_token, .int v_place, .int v_value, .int v_fault, .int v_squares, .ref a_this_stars, .ref a_this_purses, .ref a_this_leases, .int v_starMany, .int v_tenants, .int v_draftSquares, .int v_draftStars, .int v_draftTenants, .int v_draftLeases, .ref a_this_s, .ref a_this_kept, .ref a_this_isKept, .ref a_this_offers, .int v_offerMany, .ref a_this_seen, .int v_seenMany])), (a_this_s, .inl (G.2.1, 100, .inl v_s))] H → va_D A [(a_this, .inr (9, [.int v_thrown, .long v_trace, .ref a_this_text, .int v_typed, .int v_next, .int v_token, .int v_place, .int v_value, .int v_fault, .int v_squares, .ref a_this_stars, .ref a_this_purses, .ref a_this_leases, .int v_starMany, .int v_tenants, .int v_draftSquares, .int v_draftStars, .int v_draftTenants, .int v_draftLeases, .ref a_this_s, .ref a_this_kept, .ref a_this_isKept, .ref a_this_offers, .int v_offerMany, .ref a_this_seen, .int v_seenMany])), (a_this_s, .inl (G.2.1, 100, .inl v_s))] → va_S A s.heap H locs → k37 x3 x4 = some (R0, R1, R2) → W p l e rm_X9_rate s m args below meth c H locs 0 0 QQ (F0 m 37 ls [])) → ∀ (x4 : Int32), ∀ (t0 : Int32), ∀ (t1 : Int32), ∀ (ls : Array Slot), lv_has ls 6 [(0, .ref a_this), (1, .int x1), (2, .int x2), (4, .int x4)] → ∀ (H : Heap) (locs : List Loc), va_P G.1 vwCl [(a_this, .inr (9, [.int v_thrown, .long v_trace, .ref a_this_text, .int v_typed, .int v_next, .int v_token, .int v_place, .int v_value, .int v_fault, .int v_squares, .ref a_this_stars, .ref a_this_purses, .ref a_this_leases, .int v_starMany, .int v_tenants, .int v_draftSquares, .int v_draftStars, .int v_draftTenants, .int v_draftLeases, .ref a_this_s, .ref a_this_kept, .ref a_this_isKept, .ref a_this_offers, .int v_offerMany, .ref a_this_seen, .int v_seenMany])), (a_this_s, .inl (G.2.1, 100, .inl v_s))] H → va_D A [(a_this, .inr (9, [.int v_thrown, .long v_trace, .ref a_this_text, .int v_typed, .int v_next, .int v_token, .int v_place, .int v_value, .int v_fault, .int v_squares, .ref a_this_stars, .ref a_this_purses, .ref a_this_leases, .int v_starMany, .int v_tenants, .int v_draftSquares, .int v_draftStars, .int v_draftTenants, .int v_draftLeases, .ref a_this_s, .ref a_this_kept, .ref a_this_isKept, .ref a_this_offers, .int v_offerMany, .ref a_this_seen, .int v_seenMany])), (a_this_s, .inl (G.2.1, 100, .inl v_s))] → va_S A s.heap H locs → f_X9_rate_b71 k37 x4 t0 t1 = some (R0, R1, R2) → W p l e rm_X9_rate s m args below meth c H locs 0 0 QQ (F0 m 71 ls [.int t1, .int t0]) := by
    intro x1 x2 v_thrown v_trace k37 hk37 x4 t0 t1 ls hl H locs hP hD hS hf
    unfold f_X9_rate_b71 at hf
    refine lv_iadd hx hb dX9_rate_71 ?_
    refine lv_istore_n (lv' := [(3, .int (t0 + t1)), (0, .ref a_this), (1, .int x1), (2, .int x2), (4, .int x4)]) hx hb dX9_rate_72 rfl hl (by decide) rfl (fun ls hl => ?_)
    refine lv_iinc (v := (x4 + (1 : Int32))) (lv' := [(4, .int (x4 + (1 : Int32))), (3, .int (t0 + t1)), (0, .ref a_this), (1, .int x1), (2, .int x2)]) hx hb dX9_rate_73 hl (k := 4) rfl rfl (by decide) rfl (fun ls hl => ?_)
    refine lv_goto (tgt := 37) hx hb dX9_rate_76 (by decide) ?_
    exact hk37 ((t0 + t1)) ((x4 + (1 : Int32))) ls (lv_sub hl [2, 3, 4, 1, 0] rfl) _ _ hP hD hS hf
  have j124 : ∀ (x1 : Int32), ∀ (x2 : Int32), ∀ (x3 : Int32), ∀ (v_thrown : Int32), ∀ (v_trace : Int64), ∀ (k92 : Int32 → Int32 → Option (Int32 × Int32 × Int64)), (∀ (x4 : Int32), ∀ (x5 : Int32), ∀ (ls : Array Slot), lv_has ls 6 [(0, .ref a_this), (1, .int x1), (2, .int x2), (3, .int x3), (4, .int x4), (5, .int x5)] → ∀ (H : Heap) (locs : List Loc), va_P G.1 vwCl [(a_this, .inr (9, [.int v_thrown, .long v_trace, .ref a_this_text, .int v_typed, .int v_next, .int v_token, .int v_place, .int v_value, .int v_fault, .int v_squares, .ref a_this_stars, .ref a_this_purses, .ref a_this_leases, .int v_starMany, .int v_tenants, .int v_draftSquares, .int v_draftStars, .int v_draftTenants, .int v_draftLeases, .ref a_this_s, .ref a_this_kept, .ref a_this_isKept, .ref a_this_offers, .int v_offerMany, .ref a_this_seen, .int v_seenMany])), (a_this_s, .inl (G.2.1, 100, .inl v_s))] H → va_D A [(a_this, .inr (9, [.int v_thrown, .long v_trace, .ref a_this_text, .int v_typed, .int v_next, .int v_token, .int v_place, .int v_value, .int v_fault, .int v_squares, .ref a_this_stars, .ref a_this_purses, .ref a_this_leases, .int v_starMany, .int v_tenants, .int v_draftSquares, .int v_draftStars, .int v_draftTenants, .int v_draftLeases, .ref a_this_s, .ref a_this_kept, .ref a_this_isKept, .ref a_this_offers, .int v_offerMany, .ref a_this_seen, .int v_seenMany])), (a_this_s, .inl (G.2.1, 100, .inl v_s))] → va_S A s.heap H locs → k92 x4 x5 = some (R0, R1, R2) → W p l e rm_X9_rate s m args below meth c H locs 0 0 QQ (F0 m 92 ls [])) → ∀ (x5 : Int32), ∀ (t0 : Int32), ∀ (t1 : Int32), ∀ (ls : Array Slot), lv_has ls 6 [(0, .ref a_this), (1, .int x1), (2, .int x2), (3, .int x3), (5, .int x5)] → ∀ (H : Heap) (locs : List Loc), va_P G.1 vwCl [(a_this, .inr (9, [.int v_thrown, .long v_trace, .ref a_this_text, .int v_typed, .int v_next, .int v_token, .int v_place, .int v_value, .int v_fault, .int v_squares, .ref a_this_stars, .ref a_this_purses, .ref a_this_leases, .int v_starMany, .int v_tenants, .int v_draftSquares, .int v_draftStars, .int v_draftTenants, .int v_draftLeases, .ref a_this_s, .ref a_this_kept, .ref a_this_isKept, .ref a_this_offers, .int v_offerMany, .ref a_this_seen, .int v_seenMany])), (a_this_s, .inl (G.2.1, 100, .inl v_s))] H → va_D A [(a_this, .inr (9, [.int v_thrown, .long v_trace, .ref a_this_text, .int v_typed, .int v_next, .int v_token, .int v_place, .int v_value, .int v_fault, .int v_squares, .ref a_this_stars, .ref a_this_purses, .ref a_this_leases, .int v_starMany, .int v_tenants, .int v_draftSquares, .int v_draftStars, .int v_draftTenants, .int v_draftLeases, .ref a_this_s, .ref a_this_kept, .ref a_this_isKept, .ref a_this_offers, .int v_offerMany, .ref a_this_seen, .int v_seenMany])), (a_this_s, .inl (G.2.1, 100, .inl v_s))] → va_S A s.heap H locs → f_X9_rate_b124 k92 x5 t0 t1 = some (R0, R1, R2) → W p l e rm_X9_rate s m args below meth c H locs 0 0 QQ (F0 m 124 ls [.int t1, .int t0]) := by
    intro x1 x2 x3 v_thrown v_trace k92 hk92 x5 t0 t1 ls hl H locs hP hD hS hf
    unfold f_X9_rate_b124 at hf
    refine lv_isub hx hb dX9_rate_124 ?_
    refine lv_istore (lv' := [(4, .int (t0 - t1)), (0, .ref a_this), (1, .int x1), (2, .int x2), (3, .int x3), (5, .int x5)]) hx hb dX9_rate_125 hl (by decide) rfl (fun ls hl => ?_)
    refine lv_iinc (v := (x5 + (1 : Int32))) (lv' := [(5, .int (x5 + (1 : Int32))), (4, .int (t0 - t1)), (0, .ref a_this), (1, .int x1), (2, .int x2), (3, .int x3)]) hx hb dX9_rate_127 hl (k := 5) rfl rfl (by decide) rfl (fun ls hl => ?_)
    refine lv_goto (tgt := 92) hx hb dX9_rate_130 (by decide) ?_
    exact hk92 ((t0 - t1)) ((x5 + (1 : Int32))) ls (lv_sub hl [2, 3, 4, 5, 1, 0] rfl) _ _ hP hD hS hf
  have j193 : ∀ (x1 : Int32), ∀ (x2 : Int32), ∀ (x3 : Int32), ∀ (x4 : Int32), ∀ (t1 : Int64), ∀ (t2 : Int64), ∀ (v_thrown : Int32), ∀ (v_trace : Int64), ∀ (ls : Array Slot), lv_has ls 6 [(0, .ref a_this), (1, .int x1), (2, .int x2), (3, .int x3), (4, .int x4)] → ∀ (H : Heap) (locs : List Loc), va_P G.1 vwCl [(a_this, .inr (9, [.int v_thrown, .long v_trace, .ref a_this_text, .int v_typed, .int v_next, .int v_token, .int v_place, .int v_value, .int v_fault, .int v_squares, .ref a_this_stars, .ref a_this_purses, .ref a_this_leases, .int v_starMany, .int v_tenants, .int v_draftSquares, .int v_draftStars, .int v_draftTenants, .int v_draftLeases, .ref a_this_s, .ref a_this_kept, .ref a_this_isKept, .ref a_this_offers, .int v_offerMany, .ref a_this_seen, .int v_seenMany])), (a_this_s, .inl (G.2.1, 100, .inl v_s))] H → va_D A [(a_this, .inr (9, [.int v_thrown, .long v_trace, .ref a_this_text, .int v_typed, .int v_next, .int v_token, .int v_place, .int v_value, .int v_fault, .int v_squares, .ref a_this_stars, .ref a_this_purses, .ref a_this_leases, .int v_starMany, .int v_tenants, .int v_draftSquares, .int v_draftStars, .int v_draftTenants, .int v_draftLeases, .ref a_this_s, .ref a_this_kept, .ref a_this_isKept, .ref a_this_offers, .int v_offerMany, .ref a_this_seen, .int v_seenMany])), (a_this_s, .inl (G.2.1, 100, .inl v_s))] → va_S A s.heap H locs → f_X9_rate_b193 v_s x1 x2 x3 x4 t1 t2 v_thrown = some (R0, R1, R2) → W p l e rm_X9_rate s m args below meth c H locs 0 0 QQ (F0 m 193 ls [.long t2, .long t1, .ref a_this]) := by
    intro x1 x2 x3 x4 t1 t2 v_thrown v_trace ls hl H locs hP hD hS hf
    unfold f_X9_rate_b193 at hf
    refine lv_ladd hx hb dX9_rate_193 ?_
    refine lv_topl (fun y31 ey31 => ?_)
    have hf := nm_to hf ey31
    refine va_put (D := G.1) (ci := 9) (v := .long y31) (ty := .long) (C := RX9) (T := TX9) (N := 26) hx hb hts inX9 tyX9 tyX9_ok nmX9 hown hK hP hD hS 0 rfl rfl 1 (by decide) lk196 (fun _ h9 => h9) rfl (by decide +kernel) rfl rfl (Nat.le_of_ble_eq_true rfl) dX9_rate_194 (fun H locs hP hD hS => ?_)
    have hP : va_P G.1 vwCl [(a_this, .inr (9, [.int v_thrown, .long y31, .ref a_this_text, .int v_typed, .int v_next, .int v_token, .int v_place, .int v_value, .int v_fault, .int v_squares, .ref a_this_stars, .ref a_this_purses, .ref a_this_leases, .int v_starMany, .int v_tenants, .int v_draftSquares, .int v_draftStars, .int v_draftTenants, .int v_draftLeases, .ref a_this_s, .ref a_this_kept, .ref a_this_isKept, .ref a_this_offers, .int v_offerMany, .ref a_this_seen, .int v_seenMany])), (a_this_s, .inl (G.2.1, 100, .inl v_s))] H := hP
    have hD : va_D A [(a_this, .inr (9, [.int v_thrown, .long y31, .ref a_this_text, .int v_typed, .int v_next, .int v_token, .int v_place, .int v_value, .int v_fault, .int v_squares, .ref a_this_stars, .ref a_this_purses, .ref a_this_leases, .int v_starMany, .int v_tenants, .int v_draftSquares, .int v_draftStars, .int v_draftTenants, .int v_draftLeases, .ref a_this_s, .ref a_this_kept, .ref a_this_isKept, .ref a_this_offers, .int v_offerMany, .ref a_this_seen, .int v_seenMany])), (a_this_s, .inl (G.2.1, 100, .inl v_s))] := hD
    refine lv_iload_n hx hb dX9_rate_197 rfl (lv_at hl 1 rfl) ?_
    refine lv_if_ne (tgt := 212) hx hb dX9_rate_198 (by decide) (fun hc32 => ?_) (fun hc32 => ?_)
    · have hf := if_f hf hc32
      refine lv_iload_n hx hb dX9_rate_212 rfl (lv_at hl 1 rfl) ?_
      refine lv_iconst (v := (1 : Int32)) hx hb dX9_rate_213 (by decide) ?_
      refine lv_icmp_ne (tgt := 221) hx hb dX9_rate_214 (by decide) (fun hc33 => ?_) (fun hc33 => ?_)
      · have hf := if_f hf hc33
        refine lv_iload_n hx hb dX9_rate_221 rfl (lv_at hl 1 rfl) ?_
        refine lv_iconst (v := (2 : Int32)) hx hb dX9_rate_222 (by decide) ?_
        refine lv_icmp_ne (tgt := 231) hx hb dX9_rate_223 (by decide) (fun hc34 => ?_) (fun hc34 => ?_)
        · have hf := if_f hf hc34
          refine lv_iload_n hx hb dX9_rate_231 rfl (lv_at hl 1 rfl) ?_
          refine lv_iconst (v := (3 : Int32)) hx hb dX9_rate_232 (by decide) ?_
          refine lv_icmp_ne (tgt := 242) hx hb dX9_rate_233 (by decide) (fun hc35 => ?_) (fun hc35 => ?_)
          · have hf := if_f hf hc35
            refine lv_iload_n hx hb dX9_rate_242 rfl (lv_at hl 1 rfl) ?_
            refine lv_iconst (v := (4 : Int32)) hx hb dX9_rate_243 (by decide) ?_
            refine lv_icmp_ne (tgt := 254) hx hb dX9_rate_244 (by decide) (fun hc36 => ?_) (fun hc36 => ?_)
            · have hf := if_f hf hc36
              refine lv_aload_n hx hb dX9_rate_254 rfl (lv_at hl 0 rfl) ?_
              refine va_get (D := G.1) (ci := 9) (v := .ref a_this_s) (C := RX9) (T := TX9) (N := 26) hx hb hts inX9 hown hK hP 0 rfl rfl 19 (by decide) lk22 (fun _ h9 => h9) rfl dX9_rate_255 ?_
              refine lv_iconst (v := (2 : Int32)) hx hb dX9_rate_258 (by decide) ?_
              refine lv_iload_n hx hb dX9_rate_259 rfl (lv_at hl 2 rfl) ?_
              refine lv_iadd hx hb dX9_rate_260 ?_
              obtain ⟨hg37, hf⟩ := gd_some hf
              refine va_iald hx hb hK hP 1 0 rfl rfl (inB_in hg37) dX9_rate_261 ?_
              refine lv_aload_n hx hb dX9_rate_262 rfl (lv_at hl 0 rfl) ?_
              refine va_get (D := G.1) (ci := 9) (v := .ref a_this_s) (C := RX9) (T := TX9) (N := 26) hx hb hts inX9 hown hK hP 0 rfl rfl 19 (by decide) lk22 (fun _ h9 => h9) rfl dX9_rate_263 ?_
              refine lv_iconst (v := (0 : Int32)) hx hb dX9_rate_266 (by decide) ?_
              obtain ⟨hg38, hf⟩ := gd_some hf
              refine va_iald hx hb hK hP 1 0 rfl rfl (inB_in hg38) dX9_rate_267 ?_
              refine lv_iadd hx hb dX9_rate_268 ?_
              obtain ⟨hr0, hr1, hr2⟩ := so3 hf
              subst hr0
              subst hr1
              subst hr2
              rw [← hQ]
              exact W.iret (v := ((v_s (((2 : Int32) + x2)).toNatClampNeg) + (v_s ((0 : Int32)).toNatClampNeg))) hx hb hr (fun t ht hW => ⟨⟨rfl, by rw [ht]; exact hP⟩, hS.F ht⟩) hS.2.2 dX9_rate_269
            · have hf := if_t hf hc36
              refine lv_iload hx hb dX9_rate_247 (lv_at hl 4 rfl) ?_
              refine lv_iload_n hx hb dX9_rate_249 rfl (lv_at hl 2 rfl) ?_
              refine lv_iadd hx hb dX9_rate_250 ?_
              refine lv_goto (tgt := 269) hx hb dX9_rate_251 (by decide) ?_
              obtain ⟨hr0, hr1, hr2⟩ := so3 hf
              subst hr0
              subst hr1
              subst hr2
              rw [← hQ]
              exact W.iret (v := (x4 + x2)) hx hb hr (fun t ht hW => ⟨⟨rfl, by rw [ht]; exact hP⟩, hS.F ht⟩) hS.2.2 dX9_rate_269
          · have hf := if_t hf hc35
            refine lv_iconst (v := (2 : Int32)) hx hb dX9_rate_236 (by decide) ?_
            refine lv_iload_n hx hb dX9_rate_237 rfl (lv_at hl 3 rfl) ?_
            refine lv_imul hx hb dX9_rate_238 ?_
            refine lv_goto (tgt := 269) hx hb dX9_rate_239 (by decide) ?_
            obtain ⟨hr0, hr1, hr2⟩ := so3 hf
            subst hr0
            subst hr1
            subst hr2
            rw [← hQ]
            exact W.iret (v := ((2 : Int32) * x3)) hx hb hr (fun t ht hW => ⟨⟨rfl, by rw [ht]; exact hP⟩, hS.F ht⟩) hS.2.2 dX9_rate_269
        · have hf := if_t hf hc34
          refine lv_iload hx hb dX9_rate_226 (lv_at hl 4 rfl) ?_
          refine lv_goto (tgt := 269) hx hb dX9_rate_228 (by decide) ?_
          obtain ⟨hr0, hr1, hr2⟩ := so3 hf
          subst hr0
          subst hr1
          subst hr2
          rw [← hQ]
          exact W.iret (v := x4) hx hb hr (fun t ht hW => ⟨⟨rfl, by rw [ht]; exact hP⟩, hS.F ht⟩) hS.2.2 dX9_rate_269
      · have hf := if_t hf hc33
        refine lv_iload_n hx hb dX9_rate_217 rfl (lv_at hl 3 rfl) ?_
        refine lv_goto (tgt := 269) hx hb dX9_rate_218 (by decide) ?_
        obtain ⟨hr0, hr1, hr2⟩ := so3 hf
        subst hr0
        subst hr1
        subst hr2
        rw [← hQ]
        exact W.iret (v := x3) hx hb hr (fun t ht hW => ⟨⟨rfl, by rw [ht]; exact hP⟩, hS.F ht⟩) hS.2.2 dX9_rate_269
    · have hf := if_t hf hc32
      refine lv_aload_n hx hb dX9_rate_201 rfl (lv_at hl 0 rfl) ?_
      refine va_get (D := G.1) (ci := 9) (v := .ref a_this_s) (C := RX9) (T := TX9) (N := 26) hx hb hts inX9 hown hK hP 0 rfl rfl 19 (by decide) lk22 (fun _ h9 => h9) rfl dX9_rate_202 ?_
      refine lv_iconst (v := (2 : Int32)) hx hb dX9_rate_205 (by decide) ?_
      refine lv_iload_n hx hb dX9_rate_206 rfl (lv_at hl 2 rfl) ?_
      refine lv_iadd hx hb dX9_rate_207 ?_
      obtain ⟨hg39, hf⟩ := gd_some hf
      refine va_iald hx hb hK hP 1 0 rfl rfl (inB_in hg39) dX9_rate_208 ?_
      refine lv_goto (tgt := 269) hx hb dX9_rate_209 (by decide) ?_
      obtain ⟨hr0, hr1, hr2⟩ := so3 hf
      subst hr0
      subst hr1
      subst hr2
      rw [← hQ]
      exact W.iret (v := (v_s (((2 : Int32) + x2)).toNatClampNeg)) hx hb hr (fun t ht hW => ⟨⟨rfl, by rw [ht]; exact hP⟩, hS.F ht⟩) hS.2.2 dX9_rate_269
  have j92 : ∀ (x1 : Int32), ∀ (x2 : Int32), ∀ (x3 : Int32), ∀ (v_thrown : Int32), ∀ (v_trace : Int64), ∀ (nn : Nat), ∀ (x4 : Int32), ∀ (x5 : Int32), ∀ (ls : Array Slot), lv_has ls 6 [(0, .ref a_this), (1, .int x1), (2, .int x2), (3, .int x3), (4, .int x4), (5, .int x5)] → ∀ (H : Heap) (locs : List Loc), va_P G.1 vwCl [(a_this, .inr (9, [.int v_thrown, .long v_trace, .ref a_this_text, .int v_typed, .int v_next, .int v_token, .int v_place, .int v_value, .int v_fault, .int v_squares, .ref a_this_stars, .ref a_this_purses, .ref a_this_leases, .int v_starMany, .int v_tenants, .int v_draftSquares, .int v_draftStars, .int v_draftTenants, .int v_draftLeases, .ref a_this_s, .ref a_this_kept, .ref a_this_isKept, .ref a_this_offers, .int v_offerMany, .ref a_this_seen, .int v_seenMany])), (a_this_s, .inl (G.2.1, 100, .inl v_s))] H → va_D A [(a_this, .inr (9, [.int v_thrown, .long v_trace, .ref a_this_text, .int v_typed, .int v_next, .int v_token, .int v_place, .int v_value, .int v_fault, .int v_squares, .ref a_this_stars, .ref a_this_purses, .ref a_this_leases, .int v_starMany, .int v_tenants, .int v_draftSquares, .int v_draftStars, .int v_draftTenants, .int v_draftLeases, .ref a_this_s, .ref a_this_kept, .ref a_this_isKept, .ref a_this_offers, .int v_offerMany, .ref a_this_seen, .int v_seenMany])), (a_this_s, .inl (G.2.1, 100, .inl v_s))] → va_S A s.heap H locs → f_X9_rate_b92 v_squares v_s x1 x2 x3 v_thrown v_trace nn x4 x5 = some (R0, R1, R2) → W p l e rm_X9_rate s m args below meth c H locs 0 0 QQ (F0 m 92 ls []) := by
    intro x1 x2 x3 v_thrown v_trace
    intro nn
    induction nn with
    | zero =>
      intro x4 x5 ls hl H locs hP hD hS hf
      rw [f_X9_rate_b92] at hf
      cases hf
    | succ n92 ih =>
      intro x4 x5 ls hl H locs hP hD hS hf
      rw [f_X9_rate_b92] at hf
      refine lv_iload hx hb dX9_rate_92 (lv_at hl 5 rfl) ?_
      refine lv_aload_n hx hb dX9_rate_94 rfl (lv_at hl 0 rfl) ?_
      refine va_get (D := G.1) (ci := 9) (v := .int v_squares) (C := RX9) (T := TX9) (N := 26) hx hb hts inX9 hown hK hP 0 rfl rfl 9 (by decide) lk38 (fun _ h9 => h9) rfl dX9_rate_95 ?_
      refine lv_icmp_ge (tgt := 133) hx hb dX9_rate_98 (by decide) (fun hc40 => ?_) (fun hc40 => ?_)
      · have hf := if_t hf hc40
        refine lv_aload_n hx hb dX9_rate_133 rfl (lv_at hl 0 rfl) ?_
        refine lv_dup hx hb dX9_rate_134 rfl ?_
        refine va_get (D := G.1) (ci := 9) (v := .long v_trace) (C := RX9) (T := TX9) (N := 26) hx hb hts inX9 hown hK hP 0 rfl rfl 1 (by decide) lk196 (fun _ h9 => h9) rfl dX9_rate_135 ?_
        refine lv_iload_n hx hb dX9_rate_138 rfl (lv_at hl 1 rfl) ?_
        refine lv_if_ne (tgt := 146) hx hb dX9_rate_139 (by decide) (fun hc41 => ?_) (fun hc41 => ?_)
        · have hf := if_f hf hc41
          refine lv_iload_n hx hb dX9_rate_146 rfl (lv_at hl 1 rfl) ?_
          refine lv_iconst (v := (1 : Int32)) hx hb dX9_rate_147 (by decide) ?_
          refine lv_icmp_ne (tgt := 157) hx hb dX9_rate_148 (by decide) (fun hc42 => ?_) (fun hc42 => ?_)
          · have hf := if_f hf hc42
            refine lv_iload_n hx hb dX9_rate_157 rfl (lv_at hl 1 rfl) ?_
            refine lv_iconst (v := (2 : Int32)) hx hb dX9_rate_158 (by decide) ?_
            refine lv_icmp_ne (tgt := 168) hx hb dX9_rate_159 (by decide) (fun hc43 => ?_) (fun hc43 => ?_)
            · have hf := if_f hf hc43
              refine lv_iload_n hx hb dX9_rate_168 rfl (lv_at hl 1 rfl) ?_
              refine lv_iconst (v := (3 : Int32)) hx hb dX9_rate_169 (by decide) ?_
              refine lv_icmp_ne (tgt := 179) hx hb dX9_rate_170 (by decide) (fun hc44 => ?_) (fun hc44 => ?_)
              · have hf := if_f hf hc44
                refine lv_iload_n hx hb dX9_rate_179 rfl (lv_at hl 1 rfl) ?_
                refine lv_iconst (v := (4 : Int32)) hx hb dX9_rate_180 (by decide) ?_
                refine lv_icmp_ne (tgt := 190) hx hb dX9_rate_181 (by decide) (fun hc45 => ?_) (fun hc45 => ?_)
                · have hf := if_f hf hc45
                  refine lv_ldc2 (own := RX9) (index := 208) (v := (100001 : Int64)) hx hb hown (hts (.constantLong RX9 208 (100001)) (by decide +kernel)) dX9_rate_190 ?_
                  exact j193 (x1) (x2) (x3) (x4) (v_trace) ((100001 : Int64)) (v_thrown) (v_trace) ls (lv_sub hl [0, 1, 2, 3, 4] rfl) _ _ hP hD hS hf
                · have hf := if_t hf hc45
                  refine lv_ldc2 (own := RX9) (index := 206) (v := (10101 : Int64)) hx hb hown (hts (.constantLong RX9 206 (10101)) (by decide +kernel)) dX9_rate_184 ?_
                  refine lv_goto (tgt := 193) hx hb dX9_rate_187 (by decide) ?_
                  exact j193 (x1) (x2) (x3) (x4) (v_trace) ((10101 : Int64)) (v_thrown) (v_trace) ls (lv_sub hl [0, 1, 2, 3, 4] rfl) _ _ hP hD hS hf
              · have hf := if_t hf hc44
                refine lv_ldc2 (own := RX9) (index := 204) (v := (1011 : Int64)) hx hb hown (hts (.constantLong RX9 204 (1011)) (by decide +kernel)) dX9_rate_173 ?_
                refine lv_goto (tgt := 193) hx hb dX9_rate_176 (by decide) ?_
                exact j193 (x1) (x2) (x3) (x4) (v_trace) ((1011 : Int64)) (v_thrown) (v_trace) ls (lv_sub hl [0, 1, 2, 3, 4] rfl) _ _ hP hD hS hf
            · have hf := if_t hf hc43
              refine lv_ldc2 (own := RX9) (index := 202) (v := (101 : Int64)) hx hb hown (hts (.constantLong RX9 202 (101)) (by decide +kernel)) dX9_rate_162 ?_
              refine lv_goto (tgt := 193) hx hb dX9_rate_165 (by decide) ?_
              exact j193 (x1) (x2) (x3) (x4) (v_trace) ((101 : Int64)) (v_thrown) (v_trace) ls (lv_sub hl [0, 1, 2, 3, 4] rfl) _ _ hP hD hS hf
          · have hf := if_t hf hc42
            refine lv_ldc2 (own := RX9) (index := 200) (v := (11 : Int64)) hx hb hown (hts (.constantLong RX9 200 (11)) (by decide +kernel)) dX9_rate_151 ?_
            refine lv_goto (tgt := 193) hx hb dX9_rate_154 (by decide) ?_
            exact j193 (x1) (x2) (x3) (x4) (v_trace) ((11 : Int64)) (v_thrown) (v_trace) ls (lv_sub hl [0, 1, 2, 3, 4] rfl) _ _ hP hD hS hf
        · have hf := if_t hf hc41
          refine lv_lconst (v := (1 : Int64)) hx hb dX9_rate_142 (by decide) ?_
          refine lv_goto (tgt := 193) hx hb dX9_rate_143 (by decide) ?_
          exact j193 (x1) (x2) (x3) (x4) (v_trace) ((1 : Int64)) (v_thrown) (v_trace) ls (lv_sub hl [0, 1, 2, 3, 4] rfl) _ _ hP hD hS hf
      · have hf := if_f hf hc40
        refine lv_iload hx hb dX9_rate_101 (lv_at hl 4 rfl) ?_
        refine lv_aload_n hx hb dX9_rate_103 rfl (lv_at hl 0 rfl) ?_
        refine lv_iload hx hb dX9_rate_104 (lv_at hl 5 rfl) ?_
        refine lv_aload_n hx hb dX9_rate_106 rfl (lv_at hl 0 rfl) ?_
        refine va_get (D := G.1) (ci := 9) (v := .ref a_this_s) (C := RX9) (T := TX9) (N := 26) hx hb hts inX9 hown hK hP 0 rfl rfl 19 (by decide) lk22 (fun _ h9 => h9) rfl dX9_rate_107 ?_
        refine lv_iconst (v := (0 : Int32)) hx hb dX9_rate_110 (by decide) ?_
        obtain ⟨hg46, hf⟩ := gd_some hf
        refine va_iald hx hb hK hP 1 0 rfl rfl (inB_in hg46) dX9_rate_111 ?_
        obtain ⟨r47, hu, hf⟩ := bd1_some hf
        refine zRi (va_runV (As := [.int x5, .int (v_s ((0 : Int32)).toNatClampNeg)]) (rest := [.int x4]) hC (c_X9_whoseIs l G a_this a_this_s a_this_text a_this_stars a_this_purses a_this_leases a_this_kept a_this_isKept a_this_offers a_this_seen (v_thrown) (v_trace) (v_typed) (v_next) (v_token) (v_place) (v_value) (v_fault) (v_squares) (v_starMany) (v_tenants) (v_draftSquares) (v_draftStars) (v_draftTenants) (v_draftLeases) (v_offerMany) (v_seenMany) (v_s) (x5) ((v_s ((0 : Int32)).toNatClampNeg)) r47 hu) (cwV 2 hts gX9_rate_X9_whoseIs rfl rfl rfl hd_X9_whoseIs ⟨(Nat.le_of_ble_eq_true rfl), (Nat.le_of_ble_eq_true rfl)⟩) (zPV hE hP [0, 1] rfl 0 rfl rfl) rfl rfl hl.1 rfl (lv_room (Nat.le_of_ble_eq_true rfl)) dX9_rate_112 ⟨Nat.zero_le _, Nat.zero_le _⟩) ?_
        refine lv_iload_n hx hb dX9_rate_115 rfl (lv_at hl 2 rfl) ?_
        refine lv_icmp_ne (tgt := 123) hx hb dX9_rate_116 (by decide) (fun hc48 => ?_) (fun hc48 => ?_)
        · have hf := if_f hf hc48
          refine lv_iconst (v := (0 : Int32)) hx hb dX9_rate_123 (by decide) ?_
          exact j124 (x1) (x2) (x3) (v_thrown) (v_trace) (f_X9_rate_b92 v_squares v_s x1 x2 x3 v_thrown v_trace n92) ih (x5) (x4) ((0 : Int32)) ls (lv_sub hl [0, 1, 2, 3, 5] rfl) _ _ hP hD hS hf
        · have hf := if_t hf hc48
          refine lv_iconst (v := (1 : Int32)) hx hb dX9_rate_119 (by decide) ?_
          refine lv_goto (tgt := 124) hx hb dX9_rate_120 (by decide) ?_
          exact j124 (x1) (x2) (x3) (v_thrown) (v_trace) (f_X9_rate_b92 v_squares v_s x1 x2 x3 v_thrown v_trace n92) ih (x5) (x4) ((1 : Int32)) ls (lv_sub hl [0, 1, 2, 3, 5] rfl) _ _ hP hD hS hf
  have j37 : ∀ (x1 : Int32), ∀ (x2 : Int32), ∀ (v_thrown : Int32), ∀ (v_trace : Int64), ∀ (nn : Nat), ∀ (x3 : Int32), ∀ (x4 : Int32), ∀ (ls : Array Slot), lv_has ls 6 [(0, .ref a_this), (1, .int x1), (2, .int x2), (3, .int x3), (4, .int x4)] → ∀ (H : Heap) (locs : List Loc), va_P G.1 vwCl [(a_this, .inr (9, [.int v_thrown, .long v_trace, .ref a_this_text, .int v_typed, .int v_next, .int v_token, .int v_place, .int v_value, .int v_fault, .int v_squares, .ref a_this_stars, .ref a_this_purses, .ref a_this_leases, .int v_starMany, .int v_tenants, .int v_draftSquares, .int v_draftStars, .int v_draftTenants, .int v_draftLeases, .ref a_this_s, .ref a_this_kept, .ref a_this_isKept, .ref a_this_offers, .int v_offerMany, .ref a_this_seen, .int v_seenMany])), (a_this_s, .inl (G.2.1, 100, .inl v_s))] H → va_D A [(a_this, .inr (9, [.int v_thrown, .long v_trace, .ref a_this_text, .int v_typed, .int v_next, .int v_token, .int v_place, .int v_value, .int v_fault, .int v_squares, .ref a_this_stars, .ref a_this_purses, .ref a_this_leases, .int v_starMany, .int v_tenants, .int v_draftSquares, .int v_draftStars, .int v_draftTenants, .int v_draftLeases, .ref a_this_s, .ref a_this_kept, .ref a_this_isKept, .ref a_this_offers, .int v_offerMany, .ref a_this_seen, .int v_seenMany])), (a_this_s, .inl (G.2.1, 100, .inl v_s))] → va_S A s.heap H locs → f_X9_rate_b37 v_squares v_s x1 x2 v_thrown v_trace nn x3 x4 = some (R0, R1, R2) → W p l e rm_X9_rate s m args below meth c H locs 0 0 QQ (F0 m 37 ls []) := by
    intro x1 x2 v_thrown v_trace
    intro nn
    induction nn with
    | zero =>
      intro x3 x4 ls hl H locs hP hD hS hf
      rw [f_X9_rate_b37] at hf
      cases hf
    | succ n37 ih =>
      intro x3 x4 ls hl H locs hP hD hS hf
      rw [f_X9_rate_b37] at hf
      refine lv_iload hx hb dX9_rate_37 (lv_at hl 4 rfl) ?_
      refine lv_aload_n hx hb dX9_rate_39 rfl (lv_at hl 0 rfl) ?_
      refine va_get (D := G.1) (ci := 9) (v := .ref a_this_s) (C := RX9) (T := TX9) (N := 26) hx hb hts inX9 hown hK hP 0 rfl rfl 19 (by decide) lk22 (fun _ h9 => h9) rfl dX9_rate_40 ?_
      refine lv_bipush (v := (6 : Int32)) hx hb dX9_rate_43 (by decide) ?_
      obtain ⟨hg49, hf⟩ := gd_some hf
      refine va_iald hx hb hK hP 1 0 rfl rfl (inB_in hg49) dX9_rate_45 ?_
      refine lv_icmp_ge (tgt := 79) hx hb dX9_rate_46 (by decide) (fun hc50 => ?_) (fun hc50 => ?_)
      · have hf := if_t hf hc50
        refine lv_aload_n hx hb dX9_rate_79 rfl (lv_at hl 0 rfl) ?_
        refine va_get (D := G.1) (ci := 9) (v := .ref a_this_s) (C := RX9) (T := TX9) (N := 26) hx hb hts inX9 hown hK hP 0 rfl rfl 19 (by decide) lk22 (fun _ h9 => h9) rfl dX9_rate_80 ?_
        refine lv_iconst (v := (2 : Int32)) hx hb dX9_rate_83 (by decide) ?_
        refine lv_iload_n hx hb dX9_rate_84 rfl (lv_at hl 2 rfl) ?_
        refine lv_iadd hx hb dX9_rate_85 ?_
        obtain ⟨hg51, hf⟩ := gd_some hf
        refine va_iald hx hb hK hP 1 0 rfl rfl (inB_in hg51) dX9_rate_86 ?_
        refine lv_topi (fun y52 ey52 => ?_)
        have hf := nm_to hf ey52
        refine lv_istore (lv' := [(4, .int y52), (0, .ref a_this), (1, .int x1), (2, .int x2), (3, .int x3)]) hx hb dX9_rate_87 hl (by decide) rfl (fun ls hl => ?_)
        refine lv_iconst (v := (0 : Int32)) hx hb dX9_rate_89 (by decide) ?_
        refine lv_istore (lv' := [(5, .int (0 : Int32)), (4, .int y52), (0, .ref a_this), (1, .int x1), (2, .int x2), (3, .int x3)]) hx hb dX9_rate_90 hl (by decide) rfl (fun ls hl => ?_)
        exact j92 (x1) (x2) (x3) (v_thrown) (v_trace) zF (y52) ((0 : Int32)) ls (lv_sub hl [2, 3, 4, 5, 1, 0] rfl) _ _ hP hD hS hf
      · have hf := if_f hf hc50
        refine lv_iload_n hx hb dX9_rate_49 rfl (lv_at hl 3 rfl) ?_
        refine lv_aload_n hx hb dX9_rate_50 rfl (lv_at hl 0 rfl) ?_
        refine va_get (D := G.1) (ci := 9) (v := .ref a_this_s) (C := RX9) (T := TX9) (N := 26) hx hb hts inX9 hown hK hP 0 rfl rfl 19 (by decide) lk22 (fun _ h9 => h9) rfl dX9_rate_51 ?_
        refine lv_bipush (v := (7 : Int32)) hx hb dX9_rate_54 (by decide) ?_
        refine lv_iconst (v := (5 : Int32)) hx hb dX9_rate_56 (by decide) ?_
        refine lv_iload hx hb dX9_rate_57 (lv_at hl 4 rfl) ?_
        refine lv_imul hx hb dX9_rate_59 ?_
        refine lv_iadd hx hb dX9_rate_60 ?_
        obtain ⟨hg53, hf⟩ := gd_some hf
        refine va_iald hx hb hK hP 1 0 rfl rfl (inB_in hg53) dX9_rate_61 ?_
        refine lv_iload_n hx hb dX9_rate_62 rfl (lv_at hl 2 rfl) ?_
        refine lv_icmp_ne (tgt := 70) hx hb dX9_rate_63 (by decide) (fun hc54 => ?_) (fun hc54 => ?_)
        · have hf := if_f hf hc54
          refine lv_iconst (v := (0 : Int32)) hx hb dX9_rate_70 (by decide) ?_
          exact j71 (x1) (x2) (v_thrown) (v_trace) (f_X9_rate_b37 v_squares v_s x1 x2 v_thrown v_trace n37) ih (x4) (x3) ((0 : Int32)) ls (lv_sub hl [0, 1, 2, 4] rfl) _ _ hP hD hS hf
        · have hf := if_t hf hc54
          refine lv_iconst (v := (1 : Int32)) hx hb dX9_rate_66 (by decide) ?_
          refine lv_goto (tgt := 71) hx hb dX9_rate_67 (by decide) ?_
          exact j71 (x1) (x2) (v_thrown) (v_trace) (f_X9_rate_b37 v_squares v_s x1 x2 v_thrown v_trace n37) ih (x4) (x3) ((1 : Int32)) ls (lv_sub hl [0, 1, 2, 4] rfl) _ _ hP hD hS hf
  have hSH := hS
  unfold f_X9_rate at hf
  refine lv_aload_n hx hb dX9_rate_0 rfl (lv_at hl 0 rfl) ?_
  refine lv_iconst (v := (0 : Int32)) hx hb dX9_rate_1 (by decide) ?_
  refine va_put (D := G.1) (ci := 9) (v := .int (0 : Int32)) (ty := .int) (C := RX9) (T := TX9) (N := 26) hx hb hts inX9 tyX9 tyX9_ok nmX9 hown hK hP hD hS 0 rfl rfl 0 (by decide) lk42 (fun _ h9 => h9) rfl (by decide +kernel) rfl rfl (Nat.le_of_ble_eq_true rfl) dX9_rate_2 (fun H locs hP hD hS => ?_)
  have hP : va_P G.1 vwCl [(a_this, .inr (9, [.int (0 : Int32), .long v_trace, .ref a_this_text, .int v_typed, .int v_next, .int v_token, .int v_place, .int v_value, .int v_fault, .int v_squares, .ref a_this_stars, .ref a_this_purses, .ref a_this_leases, .int v_starMany, .int v_tenants, .int v_draftSquares, .int v_draftStars, .int v_draftTenants, .int v_draftLeases, .ref a_this_s, .ref a_this_kept, .ref a_this_isKept, .ref a_this_offers, .int v_offerMany, .ref a_this_seen, .int v_seenMany])), (a_this_s, .inl (G.2.1, 100, .inl v_s))] H := hP
  have hD : va_D A [(a_this, .inr (9, [.int (0 : Int32), .long v_trace, .ref a_this_text, .int v_typed, .int v_next, .int v_token, .int v_place, .int v_value, .int v_fault, .int v_squares, .ref a_this_stars, .ref a_this_purses, .ref a_this_leases, .int v_starMany, .int v_tenants, .int v_draftSquares, .int v_draftStars, .int v_draftTenants, .int v_draftLeases, .ref a_this_s, .ref a_this_kept, .ref a_this_isKept, .ref a_this_offers, .int v_offerMany, .ref a_this_seen, .int v_seenMany])), (a_this_s, .inl (G.2.1, 100, .inl v_s))] := hD
  refine lv_iload_n hx hb dX9_rate_5 rfl (lv_at hl 1 rfl) ?_
  refine lv_iconst (v := (0 : Int32)) hx hb dX9_rate_6 (by decide) ?_
  refine lv_iconst (v := (5 : Int32)) hx hb dX9_rate_7 (by decide) ?_
  obtain ⟨r55, hu, hf⟩ := bd1_some hf
  refine zRi (va_runS (As := [.int g1, .int (0 : Int32), .int (5 : Int32)]) (rest := []) hC (c_X9_in l G (g1) ((0 : Int32)) ((5 : Int32)) r55 hu) (va_cwS 3 hts gX9_rate_X9_in rfl rfl rfl hd_X9_in.2 ⟨(Nat.le_of_ble_eq_true rfl), (Nat.le_of_ble_eq_true rfl)⟩) (zPS hE hP [] rfl) rfl rfl hl.1 rfl (lv_room (Nat.le_of_ble_eq_true rfl)) dX9_rate_8 ⟨Nat.zero_le _, Nat.zero_le _⟩) ?_
  refine lv_if_eq (tgt := 22) hx hb dX9_rate_11 (by decide) (fun hc56 => ?_) (fun hc56 => ?_)
  · have hf := if_t hf hc56
    refine lv_ldc (own := RX9) (index := 195) (v := (-1000000 : Int32)) hx hb hown (hts (.constant RX9 195 (-1000000)) (by decide +kernel)) dX9_rate_22 ?_
    obtain ⟨hr0, hr1, hr2⟩ := so3 hf
    subst hr0
    subst hr1
    subst hr2
    rw [← hQ]
    exact W.iret (v := (-1000000 : Int32)) hx hb hr (fun t ht hW => ⟨⟨rfl, by rw [ht]; exact hP⟩, hS.F ht⟩) hS.2.2 dX9_rate_24
  · have hf := if_f hf hc56
    refine lv_aload_n hx hb dX9_rate_14 rfl (lv_at hl 0 rfl) ?_
    refine lv_iload_n hx hb dX9_rate_15 rfl (lv_at hl 2 rfl) ?_
    obtain ⟨r57, hu, hf⟩ := bd1_some hf
    refine zRi (va_runV (As := [.int g2]) (rest := []) hC (c_X9_isTenant l G a_this a_this_text a_this_stars a_this_purses a_this_leases a_this_s a_this_kept a_this_isKept a_this_offers a_this_seen ((0 : Int32)) (v_trace) (v_typed) (v_next) (v_token) (v_place) (v_value) (v_fault) (v_squares) (v_starMany) (v_tenants) (v_draftSquares) (v_draftStars) (v_draftTenants) (v_draftLeases) (v_offerMany) (v_seenMany) (g2) r57 hu) (cwV 1 hts gX9_rate_X9_isTenant rfl rfl rfl hd_X9_isTenant ⟨(Nat.le_of_ble_eq_true rfl), (Nat.le_of_ble_eq_true rfl)⟩) (zPV hE hP [0] rfl 0 rfl rfl) rfl rfl hl.1 rfl (lv_room (Nat.le_of_ble_eq_true rfl)) dX9_rate_16 ⟨Nat.zero_le _, Nat.zero_le _⟩) ?_
    refine lv_if_ne (tgt := 25) hx hb dX9_rate_19 (by decide) (fun hc58 => ?_) (fun hc58 => ?_)
    · have hf := if_f hf hc58
      refine lv_aload_n hx hb dX9_rate_25 rfl (lv_at hl 0 rfl) ?_
      refine va_get (D := G.1) (ci := 9) (v := .ref a_this_s) (C := RX9) (T := TX9) (N := 26) hx hb hts inX9 hown hK hP 0 rfl rfl 19 (by decide) lk22 (fun _ h9 => h9) rfl dX9_rate_26 ?_
      refine lv_iconst (v := (2 : Int32)) hx hb dX9_rate_29 (by decide) ?_
      refine lv_iload_n hx hb dX9_rate_30 rfl (lv_at hl 2 rfl) ?_
      refine lv_iadd hx hb dX9_rate_31 ?_
      obtain ⟨hg59, hf⟩ := gd_some hf
      refine va_iald hx hb hK hP 1 0 rfl rfl (inB_in hg59) dX9_rate_32 ?_
      refine lv_topi (fun y60 ey60 => ?_)
      have hf := nm_to hf ey60
      refine lv_istore_n (lv' := [(3, .int y60), (0, .ref a_this), (1, .int g1), (2, .int g2)]) hx hb dX9_rate_33 rfl hl (by decide) rfl (fun ls hl => ?_)
      refine lv_iconst (v := (0 : Int32)) hx hb dX9_rate_34 (by decide) ?_
      refine lv_istore (lv' := [(4, .int (0 : Int32)), (3, .int y60), (0, .ref a_this), (1, .int g1), (2, .int g2)]) hx hb dX9_rate_35 hl (by decide) rfl (fun ls hl => ?_)
      exact j37 (g1) (g2) ((0 : Int32)) (v_trace) zF (y60) ((0 : Int32)) ls (lv_sub hl [2, 3, 4, 1, 0] rfl) _ _ hP hD hS hf
    · have hf := if_t hf hc58
      refine lv_ldc (own := RX9) (index := 195) (v := (-1000000 : Int32)) hx hb hown (hts (.constant RX9 195 (-1000000)) (by decide +kernel)) dX9_rate_22 ?_
      obtain ⟨hr0, hr1, hr2⟩ := so3 hf
      subst hr0
      subst hr1
      subst hr2
      rw [← hQ]
      exact W.iret (v := (-1000000 : Int32)) hx hb hr (fun t ht hW => ⟨⟨rfl, by rw [ht]; exact hP⟩, hS.F ht⟩) hS.2.2 dX9_rate_24
def f_X9_keep_b18 (v_s : (Nat → Int32))  (x1 : Int32) (v_thrown : Int32) (v_isKept : (Nat → Int32)) : Nat → Int32 → (Nat → Int32) → Option (Int32 × Int32 × (Nat → Int32) × (Nat → Int32))
  | 0, _, _ => none
  | n18 + 1, x2, v_kept => if (100 : Int32) ≤ x2 then (gd (inB x1 2) (nm (upd v_isKept (x1).toNatClampNeg (vp_nar .boolean (1 : Int32))) fun y12 => gd (inB (0 : Int32) 100) (some ((v_s ((0 : Int32)).toNatClampNeg), v_thrown, y12, v_kept)))) else (gd (inB x2 100) (gd (inB (((100 : Int32) * x1) + x2) 200) (nm (upd v_kept ((((100 : Int32) * x1) + x2)).toNatClampNeg (v_s (x2).toNatClampNeg)) fun y16 => f_X9_keep_b18 v_s x1 v_thrown v_isKept n18 ((x2 + (1 : Int32))) (y16))))
def f_X9_keep  (v_thrown : Int32) (v_isKept : (Nat → Int32)) (v_s : (Nat → Int32)) (v_kept : (Nat → Int32)) (g1 : Int32) : Option (Int32 × Int32 × (Nat → Int32) × (Nat → Int32)) := bd1 (f_X9_in (g1) ((0 : Int32)) ((1 : Int32))) fun r17 => if r17 = (0 : Int32) then (some ((-1 : Int32), (0 : Int32), v_isKept, v_kept)) else (f_X9_keep_b18 v_s (g1) ((0 : Int32)) (v_isKept) zF ((0 : Int32)) (v_kept))
abbrev rm_X9_keep : Room := { frames := 1, cells := 0, slots := 0, locals := 22 }
set_option maxHeartbeats 4000000 in
set_option maxRecDepth 100000 in
theorem c_X9_keep (l : Launch) (G : zG) (sz : Nat) (a_this : Nat) (a_this_isKept : Nat) (a_this_s : Nat) (a_this_kept : Nat) (a_this_text : Nat) (a_this_stars : Nat) (a_this_purses : Nat) (a_this_leases : Nat) (a_this_offers : Nat) (a_this_seen : Nat) (v_thrown : Int32) (v_trace : Int64) (v_typed : Int32) (v_next : Int32) (v_token : Int32) (v_place : Int32) (v_value : Int32) (v_fault : Int32) (v_squares : Int32) (v_starMany : Int32) (v_tenants : Int32) (v_draftSquares : Int32) (v_draftStars : Int32) (v_draftTenants : Int32) (v_draftLeases : Int32) (v_offerMany : Int32) (v_seenMany : Int32) (v_isKept : (Nat → Int32)) (v_s : (Nat → Int32)) (v_kept : (Nat → Int32)) (g1 : Int32) (R0 : Int32) (R1 : Int32) (R2 : (Nat → Int32)) (R3 : (Nat → Int32)) (hf : f_X9_keep v_thrown v_isKept v_s v_kept g1 = some (R0, R1, R2, R3)) : Met l yX9_keep wsX9_keep rm_X9_keep (va_Pc [.ref a_this, .int g1] (zB G [(a_this, .inr (9, [.int v_thrown, .long v_trace, .ref a_this_text, .int v_typed, .int v_next, .int v_token, .int v_place, .int v_value, .int v_fault, .int v_squares, .ref a_this_stars, .ref a_this_purses, .ref a_this_leases, .int v_starMany, .int v_tenants, .int v_draftSquares, .int v_draftStars, .int v_draftTenants, .int v_draftLeases, .ref a_this_s, .ref a_this_kept, .ref a_this_isKept, .ref a_this_offers, .int v_offerMany, .ref a_this_seen, .int v_seenMany])), (a_this_isKept, .inl (G.2.2.2, 2, .inl v_isKept)), (a_this_s, .inl (G.2.1, 100, .inl v_s)), (a_this_kept, .inl (G.2.1, 200, .inl v_kept))] sz)) (zQ G (some (.int R0)) [(a_this, .inr (9, [.int R1, .long v_trace, .ref a_this_text, .int v_typed, .int v_next, .int v_token, .int v_place, .int v_value, .int v_fault, .int v_squares, .ref a_this_stars, .ref a_this_purses, .ref a_this_leases, .int v_starMany, .int v_tenants, .int v_draftSquares, .int v_draftStars, .int v_draftTenants, .int v_draftLeases, .ref a_this_s, .ref a_this_kept, .ref a_this_isKept, .ref a_this_offers, .int v_offerMany, .ref a_this_seen, .int v_seenMany])), (a_this_isKept, .inl (G.2.2.2, 2, .inl R2)), (a_this_s, .inl (G.2.1, 100, .inl v_s)), (a_this_kept, .inl (G.2.1, 200, .inl R3))] (va_A [(a_this, .inr (9, [.int v_thrown, .long v_trace, .ref a_this_text, .int v_typed, .int v_next, .int v_token, .int v_place, .int v_value, .int v_fault, .int v_squares, .ref a_this_stars, .ref a_this_purses, .ref a_this_leases, .int v_starMany, .int v_tenants, .int v_draftSquares, .int v_draftStars, .int v_draftTenants, .int v_draftLeases, .ref a_this_s, .ref a_this_kept, .ref a_this_isKept, .ref a_this_offers, .int v_offerMany, .ref a_this_seen, .int v_seenMany])), (a_this_isKept, .inl (G.2.2.2, 2, .inl v_isKept)), (a_this_s, .inl (G.2.1, 100, .inl v_s)), (a_this_kept, .inl (G.2.1, 200, .inl v_kept))] sz)) 0 0 (va_A [(a_this, .inr (9, [.int v_thrown, .long v_trace, .ref a_this_text, .int v_typed, .int v_next, .int v_token, .int v_place, .int v_value, .int v_fault, .int v_squares, .ref a_this_stars, .ref a_this_purses, .ref a_this_leases, .int v_starMany, .int v_tenants, .int v_draftSquares, .int v_draftStars, .int v_draftTenants, .int v_draftLeases, .ref a_this_s, .ref a_this_kept, .ref a_this_isKept, .ref a_this_offers, .int v_offerMany, .ref a_this_seen, .int v_seenMany])), (a_this_isKept, .inl (G.2.2.2, 2, .inl v_isKept)), (a_this_s, .inl (G.2.1, 100, .inl v_s)), (a_this_kept, .inl (G.2.1, 200, .inl v_kept))] sz) := by
  refine Met.ofW (cc := cX9_keep) (maxL := 3) (ret := (some .int)) (by decide) rfl ?_
  intro p e s m args below meth c s₁ B hml hv
  obtain ⟨hargs, hsz, hP, hD0, hE⟩ := hv
  have hx := B.exec
  have hb := B.bytes
  have hr := B.returns
  have hts := atoms_spec (ws := wsX9_keep) B.pre
  have hown : s.vm.findClass RX9 = some m.cls := findClass_of_methodNamed B.named
  have hlocks := B.notSynchronized
  have hK := hE.1
  have hC : CallFix p m c cX9_keep 3 s args wsX9_keep RX9 := ⟨hx, hb, hml, hown, hts⟩
  have inX9 : ∀ w ∈ wsX90, w ∈ wsX9_keep := by decide +kernel
  have lk22 := hts (.fieldLink RX9 22 "SkyLeasesModel" "s" "[I") (by decide +kernel)
  have lk25 := hts (.fieldLink RX9 25 "SkyLeasesModel" "kept" "[I") (by decide +kernel)
  have lk28 := hts (.fieldLink RX9 28 "SkyLeasesModel" "isKept" "[Z") (by decide +kernel)
  have lk42 := hts (.fieldLink RX9 42 "SkyLeasesModel" "thrown" "I") (by decide +kernel)
  subst hsz
  have hD := hD0.self (sz := s.heap.size)
  generalize hAe : va_A [(a_this, .inr (9, [.int v_thrown, .long v_trace, .ref a_this_text, .int v_typed, .int v_next, .int v_token, .int v_place, .int v_value, .int v_fault, .int v_squares, .ref a_this_stars, .ref a_this_purses, .ref a_this_leases, .int v_starMany, .int v_tenants, .int v_draftSquares, .int v_draftStars, .int v_draftTenants, .int v_draftLeases, .ref a_this_s, .ref a_this_kept, .ref a_this_isKept, .ref a_this_offers, .int v_offerMany, .ref a_this_seen, .int v_seenMany])), (a_this_isKept, .inl (G.2.2.2, 2, .inl v_isKept)), (a_this_s, .inl (G.2.1, 100, .inl v_s)), (a_this_kept, .inl (G.2.1, 200, .inl v_kept))] s.heap.size = A at hD ⊢
  have hA : ∀ q : Nat, s.heap.size ≤ q → A q := fun q h => by rw [← hAe]; exact Or.inr h
  have hS : va_S A s.heap s.heap [] := va_S.rf
  have hP : va_P G.1 vwCl [(a_this, .inr (9, [.int v_thrown, .long v_trace, .ref a_this_text, .int v_typed, .int v_next, .int v_token, .int v_place, .int v_value, .int v_fault, .int v_squares, .ref a_this_stars, .ref a_this_purses, .ref a_this_leases, .int v_starMany, .int v_tenants, .int v_draftSquares, .int v_draftStars, .int v_draftTenants, .int v_draftLeases, .ref a_this_s, .ref a_this_kept, .ref a_this_isKept, .ref a_this_offers, .int v_offerMany, .ref a_this_seen, .int v_seenMany])), (a_this_isKept, .inl (G.2.2.2, 2, .inl v_isKept)), (a_this_s, .inl (G.2.1, 100, .inl v_s)), (a_this_kept, .inl (G.2.1, 200, .inl v_kept))] s.heap := hP
  have hl := lv_entry ([.ref a_this, .int g1]) (n := 3) (Nat.le_of_ble_eq_true rfl)
  have hent : entryFrame m args 3 = F0 m 0 ((lg_sl ([.ref a_this, .int g1]) ++ List.replicate (3 - (lg_sl ([.ref a_this, .int g1])).length) Slot.unset).toArray) [] := by rw [hargs]; exact lg_entry_eq m [.ref a_this, .int g1] 3
  refine W.eq hent ?_
  clear hent
  generalize (lg_sl ([.ref a_this, .int g1]) ++ List.replicate (3 - (lg_sl ([.ref a_this, .int g1])).length) Slot.unset).toArray = ls at hl ⊢
  have hl : lv_has ls 3 [(0, .ref a_this), (1, .int g1)] := hl
  generalize hQ : MQ below _ args s 0 0 _ = QQ
  change W p l e rm_X9_keep s m args below meth c s.heap [] 0 0 QQ _
  have j18 : ∀ (x1 : Int32), ∀ (v_thrown : Int32), ∀ (v_isKept : (Nat → Int32)), ∀ (nn : Nat), ∀ (x2 : Int32), ∀ (v_kept : (Nat → Int32)), ∀ (ls : Array Slot), lv_has ls 3 [(0, .ref a_this), (1, .int x1), (2, .int x2)] → ∀ (H : Heap) (locs : List Loc), va_P G.1 vwCl [(a_this, .inr (9, [.int v_thrown, .long v_trace, .ref a_this_text, .int v_typed, .int v_next, .int v_token, .int v_place, .int v_value, .int v_fault, .int v_squares, .ref a_this_stars, .ref a_this_purses, .ref a_this_leases, .int v_starMany, .int v_tenants, .int v_draftSquares, .int v_draftStars, .int v_draftTenants, .int v_draftLeases, .ref a_this_s, .ref a_this_kept, .ref a_this_isKept, .ref a_this_offers, .int v_offerMany, .ref a_this_seen, .int v_seenMany])), (a_this_isKept, .inl (G.2.2.2, 2, .inl v_isKept)), (a_this_s, .inl (G.2.1, 100, .inl v_s)), (a_this_kept, .inl (G.2.1, 200, .inl v_kept))] H → va_D A [(a_this, .inr (9, [.int v_thrown, .long v_trace, .ref a_this_text, .int v_typed, .int v_next, .int v_token, .int v_place, .int v_value, .int v_fault, .int v_squares, .ref a_this_stars, .ref a_this_purses, .ref a_this_leases, .int v_starMany, .int v_tenants, .int v_draftSquares, .int v_draftStars, .int v_draftTenants, .int v_draftLeases, .ref a_this_s, .ref a_this_kept, .ref a_this_isKept, .ref a_this_offers, .int v_offerMany, .ref a_this_seen, .int v_seenMany])), (a_this_isKept, .inl (G.2.2.2, 2, .inl v_isKept)), (a_this_s, .inl (G.2.1, 100, .inl v_s)), (a_this_kept, .inl (G.2.1, 200, .inl v_kept))] → va_S A s.heap H locs → f_X9_keep_b18 v_s x1 v_thrown v_isKept nn x2 v_kept = some (R0, R1, R2, R3) → W p l e rm_X9_keep s m args below meth c H locs 0 0 QQ (F0 m 18 ls []) := by
    intro x1 v_thrown v_isKept
    intro nn
    induction nn with
    | zero =>
      intro x2 v_kept ls hl H locs hP hD hS hf
      rw [f_X9_keep_b18] at hf
      cases hf
    | succ n18 ih =>
      intro x2 v_kept ls hl H locs hP hD hS hf
      rw [f_X9_keep_b18] at hf
      refine lv_iload_n hx hb dX9_keep_18 rfl (lv_at hl 2 rfl) ?_
      refine lv_bipush (v := (100 : Int32)) hx hb dX9_keep_19 (by decide) ?_
      refine lv_icmp_ge (tgt := 47) hx hb dX9_keep_21 (by decide) (fun hc10 => ?_) (fun hc10 => ?_)
      · have hf := if_t hf hc10
        refine lv_aload_n hx hb dX9_keep_47 rfl (lv_at hl 0 rfl) ?_
        refine va_get (D := G.1) (ci := 9) (v := .ref a_this_isKept) (C := RX9) (T := TX9) (N := 26) hx hb hts inX9 hown hK hP 0 rfl rfl 21 (by decide) lk28 (fun _ h9 => h9) rfl dX9_keep_48 ?_
        refine lv_iload_n hx hb dX9_keep_51 rfl (lv_at hl 1 rfl) ?_
        refine lv_iconst (v := (1 : Int32)) hx hb dX9_keep_52 (by decide) ?_
        obtain ⟨hg11, hf⟩ := gd_some hf
        refine z_zast hx hb hK hP hD hS 1 2 rfl rfl (inB_in hg11) dX9_keep_53 (fun gg => [(a_this, .inr (9, [.int v_thrown, .long v_trace, .ref a_this_text, .int v_typed, .int v_next, .int v_token, .int v_place, .int v_value, .int v_fault, .int v_squares, .ref a_this_stars, .ref a_this_purses, .ref a_this_leases, .int v_starMany, .int v_tenants, .int v_draftSquares, .int v_draftStars, .int v_draftTenants, .int v_draftLeases, .ref a_this_s, .ref a_this_kept, .ref a_this_isKept, .ref a_this_offers, .int v_offerMany, .ref a_this_seen, .int v_seenMany])), (a_this_isKept, .inl (G.2.2.2, 2, .inl gg)), (a_this_s, .inl (G.2.1, 100, .inl v_s)), (a_this_kept, .inl (G.2.1, 200, .inl v_kept))]) (fun gg => rfl) (fun y12 H locs ey12 hP hD hS => ?_)
        have hf := nm_to hf ey12
        have hP : va_P G.1 vwCl [(a_this, .inr (9, [.int v_thrown, .long v_trace, .ref a_this_text, .int v_typed, .int v_next, .int v_token, .int v_place, .int v_value, .int v_fault, .int v_squares, .ref a_this_stars, .ref a_this_purses, .ref a_this_leases, .int v_starMany, .int v_tenants, .int v_draftSquares, .int v_draftStars, .int v_draftTenants, .int v_draftLeases, .ref a_this_s, .ref a_this_kept, .ref a_this_isKept, .ref a_this_offers, .int v_offerMany, .ref a_this_seen, .int v_seenMany])), (a_this_isKept, .inl (G.2.2.2, 2, .inl y12)), (a_this_s, .inl (G.2.1, 100, .inl v_s)), (a_this_kept, .inl (G.2.1, 200, .inl v_kept))] H := hP
        have hD : va_D A [(a_this, .inr (9, [.int v_thrown, .long v_trace, .ref a_this_text, .int v_typed, .int v_next, .int v_token, .int v_place, .int v_value, .int v_fault, .int v_squares, .ref a_this_stars, .ref a_this_purses, .ref a_this_leases, .int v_starMany, .int v_tenants, .int v_draftSquares, .int v_draftStars, .int v_draftTenants, .int v_draftLeases, .ref a_this_s, .ref a_this_kept, .ref a_this_isKept, .ref a_this_offers, .int v_offerMany, .ref a_this_seen, .int v_seenMany])), (a_this_isKept, .inl (G.2.2.2, 2, .inl y12)), (a_this_s, .inl (G.2.1, 100, .inl v_s)), (a_this_kept, .inl (G.2.1, 200, .inl v_kept))] := hD
        refine lv_aload_n hx hb dX9_keep_54 rfl (lv_at hl 0 rfl) ?_
        refine va_get (D := G.1) (ci := 9) (v := .ref a_this_s) (C := RX9) (T := TX9) (N := 26) hx hb hts inX9 hown hK hP 0 rfl rfl 19 (by decide) lk22 (fun _ h9 => h9) rfl dX9_keep_55 ?_
        refine lv_iconst (v := (0 : Int32)) hx hb dX9_keep_58 (by decide) ?_
        obtain ⟨hg13, hf⟩ := gd_some hf
        refine va_iald hx hb hK hP 2 0 rfl rfl (inB_in hg13) dX9_keep_59 ?_
        obtain ⟨hr0, hr1, hr2, hr3⟩ := so4 hf
        subst hr0
        subst hr1
        subst hr2
        subst hr3
        rw [← hQ]
        exact W.iret (v := (v_s ((0 : Int32)).toNatClampNeg)) hx hb hr (fun t ht hW => ⟨⟨rfl, by rw [ht]; exact hP⟩, hS.F ht⟩) hS.2.2 dX9_keep_60
      · have hf := if_f hf hc10
        refine lv_aload_n hx hb dX9_keep_24 rfl (lv_at hl 0 rfl) ?_
        refine va_get (D := G.1) (ci := 9) (v := .ref a_this_kept) (C := RX9) (T := TX9) (N := 26) hx hb hts inX9 hown hK hP 0 rfl rfl 20 (by decide) lk25 (fun _ h9 => h9) rfl dX9_keep_25 ?_
        refine lv_bipush (v := (100 : Int32)) hx hb dX9_keep_28 (by decide) ?_
        refine lv_iload_n hx hb dX9_keep_30 rfl (lv_at hl 1 rfl) ?_
        refine lv_imul hx hb dX9_keep_31 ?_
        refine lv_iload_n hx hb dX9_keep_32 rfl (lv_at hl 2 rfl) ?_
        refine lv_iadd hx hb dX9_keep_33 ?_
        refine lv_aload_n hx hb dX9_keep_34 rfl (lv_at hl 0 rfl) ?_
        refine va_get (D := G.1) (ci := 9) (v := .ref a_this_s) (C := RX9) (T := TX9) (N := 26) hx hb hts inX9 hown hK hP 0 rfl rfl 19 (by decide) lk22 (fun _ h9 => h9) rfl dX9_keep_35 ?_
        refine lv_iload_n hx hb dX9_keep_38 rfl (lv_at hl 2 rfl) ?_
        obtain ⟨hg14, hf⟩ := gd_some hf
        refine va_iald hx hb hK hP 2 0 rfl rfl (inB_in hg14) dX9_keep_39 ?_
        obtain ⟨hg15, hf⟩ := gd_some hf
        refine z_iast hx hb hK hP hD hS 3 0 rfl rfl (inB_in hg15) dX9_keep_40 (fun gg => [(a_this, .inr (9, [.int v_thrown, .long v_trace, .ref a_this_text, .int v_typed, .int v_next, .int v_token, .int v_place, .int v_value, .int v_fault, .int v_squares, .ref a_this_stars, .ref a_this_purses, .ref a_this_leases, .int v_starMany, .int v_tenants, .int v_draftSquares, .int v_draftStars, .int v_draftTenants, .int v_draftLeases, .ref a_this_s, .ref a_this_kept, .ref a_this_isKept, .ref a_this_offers, .int v_offerMany, .ref a_this_seen, .int v_seenMany])), (a_this_isKept, .inl (G.2.2.2, 2, .inl v_isKept)), (a_this_s, .inl (G.2.1, 100, .inl v_s)), (a_this_kept, .inl (G.2.1, 200, .inl gg))]) (fun gg => rfl) (fun y16 H locs ey16 hP hD hS => ?_)
        have hf := nm_to hf ey16
        have hP : va_P G.1 vwCl [(a_this, .inr (9, [.int v_thrown, .long v_trace, .ref a_this_text, .int v_typed, .int v_next, .int v_token, .int v_place, .int v_value, .int v_fault, .int v_squares, .ref a_this_stars, .ref a_this_purses, .ref a_this_leases, .int v_starMany, .int v_tenants, .int v_draftSquares, .int v_draftStars, .int v_draftTenants, .int v_draftLeases, .ref a_this_s, .ref a_this_kept, .ref a_this_isKept, .ref a_this_offers, .int v_offerMany, .ref a_this_seen, .int v_seenMany])), (a_this_isKept, .inl (G.2.2.2, 2, .inl v_isKept)), (a_this_s, .inl (G.2.1, 100, .inl v_s)), (a_this_kept, .inl (G.2.1, 200, .inl y16))] H := hP
        have hD : va_D A [(a_this, .inr (9, [.int v_thrown, .long v_trace, .ref a_this_text, .int v_typed, .int v_next, .int v_token, .int v_place, .int v_value, .int v_fault, .int v_squares, .ref a_this_stars, .ref a_this_purses, .ref a_this_leases, .int v_starMany, .int v_tenants, .int v_draftSquares, .int v_draftStars, .int v_draftTenants, .int v_draftLeases, .ref a_this_s, .ref a_this_kept, .ref a_this_isKept, .ref a_this_offers, .int v_offerMany, .ref a_this_seen, .int v_seenMany])), (a_this_isKept, .inl (G.2.2.2, 2, .inl v_isKept)), (a_this_s, .inl (G.2.1, 100, .inl v_s)), (a_this_kept, .inl (G.2.1, 200, .inl y16))] := hD
        refine lv_iinc (v := (x2 + (1 : Int32))) (lv' := [(2, .int (x2 + (1 : Int32))), (0, .ref a_this), (1, .int x1)]) hx hb dX9_keep_41 hl (k := 2) rfl rfl (by decide) rfl (fun ls hl => ?_)
        refine lv_goto (tgt := 18) hx hb dX9_keep_44 (by decide) ?_
        exact ih ((x2 + (1 : Int32))) (y16) ls (lv_sub hl [1, 2, 0] rfl) _ _ hP hD hS hf
  have hSH := hS
  unfold f_X9_keep at hf
  refine lv_aload_n hx hb dX9_keep_0 rfl (lv_at hl 0 rfl) ?_
  refine lv_iconst (v := (0 : Int32)) hx hb dX9_keep_1 (by decide) ?_
  refine va_put (D := G.1) (ci := 9) (v := .int (0 : Int32)) (ty := .int) (C := RX9) (T := TX9) (N := 26) hx hb hts inX9 tyX9 tyX9_ok nmX9 hown hK hP hD hS 0 rfl rfl 0 (by decide) lk42 (fun _ h9 => h9) rfl (by decide +kernel) rfl rfl (Nat.le_of_ble_eq_true rfl) dX9_keep_2 (fun H locs hP hD hS => ?_)
  have hP : va_P G.1 vwCl [(a_this, .inr (9, [.int (0 : Int32), .long v_trace, .ref a_this_text, .int v_typed, .int v_next, .int v_token, .int v_place, .int v_value, .int v_fault, .int v_squares, .ref a_this_stars, .ref a_this_purses, .ref a_this_leases, .int v_starMany, .int v_tenants, .int v_draftSquares, .int v_draftStars, .int v_draftTenants, .int v_draftLeases, .ref a_this_s, .ref a_this_kept, .ref a_this_isKept, .ref a_this_offers, .int v_offerMany, .ref a_this_seen, .int v_seenMany])), (a_this_isKept, .inl (G.2.2.2, 2, .inl v_isKept)), (a_this_s, .inl (G.2.1, 100, .inl v_s)), (a_this_kept, .inl (G.2.1, 200, .inl v_kept))] H := hP
  have hD : va_D A [(a_this, .inr (9, [.int (0 : Int32), .long v_trace, .ref a_this_text, .int v_typed, .int v_next, .int v_token, .int v_place, .int v_value, .int v_fault, .int v_squares, .ref a_this_stars, .ref a_this_purses, .ref a_this_leases, .int v_starMany, .int v_tenants, .int v_draftSquares, .int v_draftStars, .int v_draftTenants, .int v_draftLeases, .ref a_this_s, .ref a_this_kept, .ref a_this_isKept, .ref a_this_offers, .int v_offerMany, .ref a_this_seen, .int v_seenMany])), (a_this_isKept, .inl (G.2.2.2, 2, .inl v_isKept)), (a_this_s, .inl (G.2.1, 100, .inl v_s)), (a_this_kept, .inl (G.2.1, 200, .inl v_kept))] := hD
  refine lv_iload_n hx hb dX9_keep_5 rfl (lv_at hl 1 rfl) ?_
  refine lv_iconst (v := (0 : Int32)) hx hb dX9_keep_6 (by decide) ?_
  refine lv_iconst (v := (1 : Int32)) hx hb dX9_keep_7 (by decide) ?_
  obtain ⟨r17, hu, hf⟩ := bd1_some hf
  refine zRi (va_runS (As := [.int g1, .int (0 : Int32), .int (1 : Int32)]) (rest := []) hC (c_X9_in l G (g1) ((0 : Int32)) ((1 : Int32)) r17 hu) (va_cwS 3 hts gX9_keep_X9_in rfl rfl rfl hd_X9_in.2 ⟨(Nat.le_of_ble_eq_true rfl), (Nat.le_of_ble_eq_true rfl)⟩) (zPS hE hP [] rfl) rfl rfl hl.1 rfl (lv_room (Nat.le_of_ble_eq_true rfl)) dX9_keep_8 ⟨Nat.zero_le _, Nat.zero_le _⟩) ?_
  refine lv_if_ne (tgt := 16) hx hb dX9_keep_11 (by decide) (fun hc18 => ?_) (fun hc18 => ?_)
  · have hf := if_f hf hc18
    refine lv_iconst (v := (0 : Int32)) hx hb dX9_keep_16 (by decide) ?_
    refine lv_istore_n (lv' := [(2, .int (0 : Int32)), (0, .ref a_this), (1, .int g1)]) hx hb dX9_keep_17 rfl hl (by decide) rfl (fun ls hl => ?_)
    exact j18 (g1) ((0 : Int32)) (v_isKept) zF ((0 : Int32)) (v_kept) ls (lv_sub hl [1, 2, 0] rfl) _ _ hP hD hS hf
  · have hf := if_t hf hc18
    refine lv_iconst (v := (-1 : Int32)) hx hb dX9_keep_14 (by decide) ?_
    obtain ⟨hr0, hr1, hr2, hr3⟩ := so4 hf
    subst hr0
    subst hr1
    subst hr2
    subst hr3
    rw [← hQ]
    exact W.iret (v := (-1 : Int32)) hx hb hr (fun t ht hW => ⟨⟨rfl, by rw [ht]; exact hP⟩, hS.F ht⟩) hS.2.2 dX9_keep_15
def f_X9_back_b30 (v_kept : (Nat → Int32))  (x1 : Int32) (v_thrown : Int32) : Nat → Int32 → (Nat → Int32) → Option (Int32 × Int32 × (Nat → Int32))
  | 0, _, _ => none
  | n30 + 1, x2, v_s => if (100 : Int32) ≤ x2 then (gd (inB (0 : Int32) 100) (some ((v_s ((0 : Int32)).toNatClampNeg), v_thrown, v_s))) else (gd (inB (((100 : Int32) * x1) + x2) 200) (gd (inB x2 100) (nm (upd v_s (x2).toNatClampNeg (v_kept ((((100 : Int32) * x1) + x2)).toNatClampNeg)) fun y14 => f_X9_back_b30 v_kept x1 v_thrown n30 ((x2 + (1 : Int32))) (y14))))
def f_X9_back  (v_thrown : Int32) (v_isKept : (Nat → Int32)) (v_s : (Nat → Int32)) (v_kept : (Nat → Int32)) (g1 : Int32) : Option (Int32 × Int32 × (Nat → Int32)) := bd1 (f_X9_in (g1) ((0 : Int32)) ((1 : Int32))) fun r15 => if r15 = (0 : Int32) then (some ((-1 : Int32), (0 : Int32), v_s)) else (gd (inB g1 2) (if (v_isKept (g1).toNatClampNeg) = (0 : Int32) then (some ((-2 : Int32), (0 : Int32), v_s)) else (f_X9_back_b30 v_kept (g1) ((0 : Int32)) zF ((0 : Int32)) (v_s))))
abbrev rm_X9_back : Room := { frames := 1, cells := 0, slots := 0, locals := 22 }
set_option maxHeartbeats 4000000 in
set_option maxRecDepth 100000 in
theorem c_X9_back (l : Launch) (G : zG) (sz : Nat) (a_this : Nat) (a_this_isKept : Nat) (a_this_s : Nat) (a_this_kept : Nat) (a_this_text : Nat) (a_this_stars : Nat) (a_this_purses : Nat) (a_this_leases : Nat) (a_this_offers : Nat) (a_this_seen : Nat) (v_thrown : Int32) (v_trace : Int64) (v_typed : Int32) (v_next : Int32) (v_token : Int32) (v_place : Int32) (v_value : Int32) (v_fault : Int32) (v_squares : Int32) (v_starMany : Int32) (v_tenants : Int32) (v_draftSquares : Int32) (v_draftStars : Int32) (v_draftTenants : Int32) (v_draftLeases : Int32) (v_offerMany : Int32) (v_seenMany : Int32) (v_isKept : (Nat → Int32)) (v_s : (Nat → Int32)) (v_kept : (Nat → Int32)) (g1 : Int32) (R0 : Int32) (R1 : Int32) (R2 : (Nat → Int32)) (hf : f_X9_back v_thrown v_isKept v_s v_kept g1 = some (R0, R1, R2)) : Met l yX9_back wsX9_back rm_X9_back (va_Pc [.ref a_this, .int g1] (zB G [(a_this, .inr (9, [.int v_thrown, .long v_trace, .ref a_this_text, .int v_typed, .int v_next, .int v_token, .int v_place, .int v_value, .int v_fault, .int v_squares, .ref a_this_stars, .ref a_this_purses, .ref a_this_leases, .int v_starMany, .int v_tenants, .int v_draftSquares, .int v_draftStars, .int v_draftTenants, .int v_draftLeases, .ref a_this_s, .ref a_this_kept, .ref a_this_isKept, .ref a_this_offers, .int v_offerMany, .ref a_this_seen, .int v_seenMany])), (a_this_isKept, .inl (G.2.2.2, 2, .inl v_isKept)), (a_this_s, .inl (G.2.1, 100, .inl v_s)), (a_this_kept, .inl (G.2.1, 200, .inl v_kept))] sz)) (zQ G (some (.int R0)) [(a_this, .inr (9, [.int R1, .long v_trace, .ref a_this_text, .int v_typed, .int v_next, .int v_token, .int v_place, .int v_value, .int v_fault, .int v_squares, .ref a_this_stars, .ref a_this_purses, .ref a_this_leases, .int v_starMany, .int v_tenants, .int v_draftSquares, .int v_draftStars, .int v_draftTenants, .int v_draftLeases, .ref a_this_s, .ref a_this_kept, .ref a_this_isKept, .ref a_this_offers, .int v_offerMany, .ref a_this_seen, .int v_seenMany])), (a_this_isKept, .inl (G.2.2.2, 2, .inl v_isKept)), (a_this_s, .inl (G.2.1, 100, .inl R2)), (a_this_kept, .inl (G.2.1, 200, .inl v_kept))] (va_A [(a_this, .inr (9, [.int v_thrown, .long v_trace, .ref a_this_text, .int v_typed, .int v_next, .int v_token, .int v_place, .int v_value, .int v_fault, .int v_squares, .ref a_this_stars, .ref a_this_purses, .ref a_this_leases, .int v_starMany, .int v_tenants, .int v_draftSquares, .int v_draftStars, .int v_draftTenants, .int v_draftLeases, .ref a_this_s, .ref a_this_kept, .ref a_this_isKept, .ref a_this_offers, .int v_offerMany, .ref a_this_seen, .int v_seenMany])), (a_this_isKept, .inl (G.2.2.2, 2, .inl v_isKept)), (a_this_s, .inl (G.2.1, 100, .inl v_s)), (a_this_kept, .inl (G.2.1, 200, .inl v_kept))] sz)) 0 0 (va_A [(a_this, .inr (9, [.int v_thrown, .long v_trace, .ref a_this_text, .int v_typed, .int v_next, .int v_token, .int v_place, .int v_value, .int v_fault, .int v_squares, .ref a_this_stars, .ref a_this_purses, .ref a_this_leases, .int v_starMany, .int v_tenants, .int v_draftSquares, .int v_draftStars, .int v_draftTenants, .int v_draftLeases, .ref a_this_s, .ref a_this_kept, .ref a_this_isKept, .ref a_this_offers, .int v_offerMany, .ref a_this_seen, .int v_seenMany])), (a_this_isKept, .inl (G.2.2.2, 2, .inl v_isKept)), (a_this_s, .inl (G.2.1, 100, .inl v_s)), (a_this_kept, .inl (G.2.1, 200, .inl v_kept))] sz) := by
  refine Met.ofW (cc := cX9_back) (maxL := 3) (ret := (some .int)) (by decide) rfl ?_
  intro p e s m args below meth c s₁ B hml hv
  obtain ⟨hargs, hsz, hP, hD0, hE⟩ := hv
  have hx := B.exec
  have hb := B.bytes
  have hr := B.returns
  have hts := atoms_spec (ws := wsX9_back) B.pre
  have hown : s.vm.findClass RX9 = some m.cls := findClass_of_methodNamed B.named
  have hlocks := B.notSynchronized
  have hK := hE.1
  have hC : CallFix p m c cX9_back 3 s args wsX9_back RX9 := ⟨hx, hb, hml, hown, hts⟩
  have inX9 : ∀ w ∈ wsX90, w ∈ wsX9_back := by decide +kernel
  have lk22 := hts (.fieldLink RX9 22 "SkyLeasesModel" "s" "[I") (by decide +kernel)
  have lk25 := hts (.fieldLink RX9 25 "SkyLeasesModel" "kept" "[I") (by decide +kernel)
  have lk28 := hts (.fieldLink RX9 28 "SkyLeasesModel" "isKept" "[Z") (by decide +kernel)
  have lk42 := hts (.fieldLink RX9 42 "SkyLeasesModel" "thrown" "I") (by decide +kernel)
  subst hsz
  have hD := hD0.self (sz := s.heap.size)
  generalize hAe : va_A [(a_this, .inr (9, [.int v_thrown, .long v_trace, .ref a_this_text, .int v_typed, .int v_next, .int v_token, .int v_place, .int v_value, .int v_fault, .int v_squares, .ref a_this_stars, .ref a_this_purses, .ref a_this_leases, .int v_starMany, .int v_tenants, .int v_draftSquares, .int v_draftStars, .int v_draftTenants, .int v_draftLeases, .ref a_this_s, .ref a_this_kept, .ref a_this_isKept, .ref a_this_offers, .int v_offerMany, .ref a_this_seen, .int v_seenMany])), (a_this_isKept, .inl (G.2.2.2, 2, .inl v_isKept)), (a_this_s, .inl (G.2.1, 100, .inl v_s)), (a_this_kept, .inl (G.2.1, 200, .inl v_kept))] s.heap.size = A at hD ⊢
  have hA : ∀ q : Nat, s.heap.size ≤ q → A q := fun q h => by rw [← hAe]; exact Or.inr h
  have hS : va_S A s.heap s.heap [] := va_S.rf
  have hP : va_P G.1 vwCl [(a_this, .inr (9, [.int v_thrown, .long v_trace, .ref a_this_text, .int v_typed, .int v_next, .int v_token, .int v_place, .int v_value, .int v_fault, .int v_squares, .ref a_this_stars, .ref a_this_purses, .ref a_this_leases, .int v_starMany, .int v_tenants, .int v_draftSquares, .int v_draftStars, .int v_draftTenants, .int v_draftLeases, .ref a_this_s, .ref a_this_kept, .ref a_this_isKept, .ref a_this_offers, .int v_offerMany, .ref a_this_seen, .int v_seenMany])), (a_this_isKept, .inl (G.2.2.2, 2, .inl v_isKept)), (a_this_s, .inl (G.2.1, 100, .inl v_s)), (a_this_kept, .inl (G.2.1, 200, .inl v_kept))] s.heap := hP
  have hl := lv_entry ([.ref a_this, .int g1]) (n := 3) (Nat.le_of_ble_eq_true rfl)
  have hent : entryFrame m args 3 = F0 m 0 ((lg_sl ([.ref a_this, .int g1]) ++ List.replicate (3 - (lg_sl ([.ref a_this, .int g1])).length) Slot.unset).toArray) [] := by rw [hargs]; exact lg_entry_eq m [.ref a_this, .int g1] 3
  refine W.eq hent ?_
  clear hent
  generalize (lg_sl ([.ref a_this, .int g1]) ++ List.replicate (3 - (lg_sl ([.ref a_this, .int g1])).length) Slot.unset).toArray = ls at hl ⊢
  have hl : lv_has ls 3 [(0, .ref a_this), (1, .int g1)] := hl
  generalize hQ : MQ below _ args s 0 0 _ = QQ
  change W p l e rm_X9_back s m args below meth c s.heap [] 0 0 QQ _
  have j30 : ∀ (x1 : Int32), ∀ (v_thrown : Int32), ∀ (nn : Nat), ∀ (x2 : Int32), ∀ (v_s : (Nat → Int32)), ∀ (ls : Array Slot), lv_has ls 3 [(0, .ref a_this), (1, .int x1), (2, .int x2)] → ∀ (H : Heap) (locs : List Loc), va_P G.1 vwCl [(a_this, .inr (9, [.int v_thrown, .long v_trace, .ref a_this_text, .int v_typed, .int v_next, .int v_token, .int v_place, .int v_value, .int v_fault, .int v_squares, .ref a_this_stars, .ref a_this_purses, .ref a_this_leases, .int v_starMany, .int v_tenants, .int v_draftSquares, .int v_draftStars, .int v_draftTenants, .int v_draftLeases, .ref a_this_s, .ref a_this_kept, .ref a_this_isKept, .ref a_this_offers, .int v_offerMany, .ref a_this_seen, .int v_seenMany])), (a_this_isKept, .inl (G.2.2.2, 2, .inl v_isKept)), (a_this_s, .inl (G.2.1, 100, .inl v_s)), (a_this_kept, .inl (G.2.1, 200, .inl v_kept))] H → va_D A [(a_this, .inr (9, [.int v_thrown, .long v_trace, .ref a_this_text, .int v_typed, .int v_next, .int v_token, .int v_place, .int v_value, .int v_fault, .int v_squares, .ref a_this_stars, .ref a_this_purses, .ref a_this_leases, .int v_starMany, .int v_tenants, .int v_draftSquares, .int v_draftStars, .int v_draftTenants, .int v_draftLeases, .ref a_this_s, .ref a_this_kept, .ref a_this_isKept, .ref a_this_offers, .int v_offerMany, .ref a_this_seen, .int v_seenMany])), (a_this_isKept, .inl (G.2.2.2, 2, .inl v_isKept)), (a_this_s, .inl (G.2.1, 100, .inl v_s)), (a_this_kept, .inl (G.2.1, 200, .inl v_kept))] → va_S A s.heap H locs → f_X9_back_b30 v_kept x1 v_thrown nn x2 v_s = some (R0, R1, R2) → W p l e rm_X9_back s m args below meth c H locs 0 0 QQ (F0 m 30 ls []) := by
    intro x1 v_thrown
    intro nn
    induction nn with
    | zero =>
      intro x2 v_s ls hl H locs hP hD hS hf
      rw [f_X9_back_b30] at hf
      cases hf
    | succ n30 ih =>
      intro x2 v_s ls hl H locs hP hD hS hf
      rw [f_X9_back_b30] at hf
      refine lv_iload_n hx hb dX9_back_30 rfl (lv_at hl 2 rfl) ?_
      refine lv_bipush (v := (100 : Int32)) hx hb dX9_back_31 (by decide) ?_
      refine lv_icmp_ge (tgt := 59) hx hb dX9_back_33 (by decide) (fun hc10 => ?_) (fun hc10 => ?_)
      · have hf := if_t hf hc10
        refine lv_aload_n hx hb dX9_back_59 rfl (lv_at hl 0 rfl) ?_
        refine va_get (D := G.1) (ci := 9) (v := .ref a_this_s) (C := RX9) (T := TX9) (N := 26) hx hb hts inX9 hown hK hP 0 rfl rfl 19 (by decide) lk22 (fun _ h9 => h9) rfl dX9_back_60 ?_
        refine lv_iconst (v := (0 : Int32)) hx hb dX9_back_63 (by decide) ?_
        obtain ⟨hg11, hf⟩ := gd_some hf
        refine va_iald hx hb hK hP 2 0 rfl rfl (inB_in hg11) dX9_back_64 ?_
        obtain ⟨hr0, hr1, hr2⟩ := so3 hf
        subst hr0
        subst hr1
        subst hr2
        rw [← hQ]
        exact W.iret (v := (v_s ((0 : Int32)).toNatClampNeg)) hx hb hr (fun t ht hW => ⟨⟨rfl, by rw [ht]; exact hP⟩, hS.F ht⟩) hS.2.2 dX9_back_65
      · have hf := if_f hf hc10
        refine lv_aload_n hx hb dX9_back_36 rfl (lv_at hl 0 rfl) ?_
        refine va_get (D := G.1) (ci := 9) (v := .ref a_this_s) (C := RX9) (T := TX9) (N := 26) hx hb hts inX9 hown hK hP 0 rfl rfl 19 (by decide) lk22 (fun _ h9 => h9) rfl dX9_back_37 ?_
        refine lv_iload_n hx hb dX9_back_40 rfl (lv_at hl 2 rfl) ?_
        refine lv_aload_n hx hb dX9_back_41 rfl (lv_at hl 0 rfl) ?_
        refine va_get (D := G.1) (ci := 9) (v := .ref a_this_kept) (C := RX9) (T := TX9) (N := 26) hx hb hts inX9 hown hK hP 0 rfl rfl 20 (by decide) lk25 (fun _ h9 => h9) rfl dX9_back_42 ?_
        refine lv_bipush (v := (100 : Int32)) hx hb dX9_back_45 (by decide) ?_
        refine lv_iload_n hx hb dX9_back_47 rfl (lv_at hl 1 rfl) ?_
        refine lv_imul hx hb dX9_back_48 ?_
        refine lv_iload_n hx hb dX9_back_49 rfl (lv_at hl 2 rfl) ?_
        refine lv_iadd hx hb dX9_back_50 ?_
        obtain ⟨hg12, hf⟩ := gd_some hf
        refine va_iald hx hb hK hP 3 0 rfl rfl (inB_in hg12) dX9_back_51 ?_
        obtain ⟨hg13, hf⟩ := gd_some hf
        refine z_iast hx hb hK hP hD hS 2 0 rfl rfl (inB_in hg13) dX9_back_52 (fun gg => [(a_this, .inr (9, [.int v_thrown, .long v_trace, .ref a_this_text, .int v_typed, .int v_next, .int v_token, .int v_place, .int v_value, .int v_fault, .int v_squares, .ref a_this_stars, .ref a_this_purses, .ref a_this_leases, .int v_starMany, .int v_tenants, .int v_draftSquares, .int v_draftStars, .int v_draftTenants, .int v_draftLeases, .ref a_this_s, .ref a_this_kept, .ref a_this_isKept, .ref a_this_offers, .int v_offerMany, .ref a_this_seen, .int v_seenMany])), (a_this_isKept, .inl (G.2.2.2, 2, .inl v_isKept)), (a_this_s, .inl (G.2.1, 100, .inl gg)), (a_this_kept, .inl (G.2.1, 200, .inl v_kept))]) (fun gg => rfl) (fun y14 H locs ey14 hP hD hS => ?_)
        have hf := nm_to hf ey14
        have hP : va_P G.1 vwCl [(a_this, .inr (9, [.int v_thrown, .long v_trace, .ref a_this_text, .int v_typed, .int v_next, .int v_token, .int v_place, .int v_value, .int v_fault, .int v_squares, .ref a_this_stars, .ref a_this_purses, .ref a_this_leases, .int v_starMany, .int v_tenants, .int v_draftSquares, .int v_draftStars, .int v_draftTenants, .int v_draftLeases, .ref a_this_s, .ref a_this_kept, .ref a_this_isKept, .ref a_this_offers, .int v_offerMany, .ref a_this_seen, .int v_seenMany])), (a_this_isKept, .inl (G.2.2.2, 2, .inl v_isKept)), (a_this_s, .inl (G.2.1, 100, .inl y14)), (a_this_kept, .inl (G.2.1, 200, .inl v_kept))] H := hP
        have hD : va_D A [(a_this, .inr (9, [.int v_thrown, .long v_trace, .ref a_this_text, .int v_typed, .int v_next, .int v_token, .int v_place, .int v_value, .int v_fault, .int v_squares, .ref a_this_stars, .ref a_this_purses, .ref a_this_leases, .int v_starMany, .int v_tenants, .int v_draftSquares, .int v_draftStars, .int v_draftTenants, .int v_draftLeases, .ref a_this_s, .ref a_this_kept, .ref a_this_isKept, .ref a_this_offers, .int v_offerMany, .ref a_this_seen, .int v_seenMany])), (a_this_isKept, .inl (G.2.2.2, 2, .inl v_isKept)), (a_this_s, .inl (G.2.1, 100, .inl y14)), (a_this_kept, .inl (G.2.1, 200, .inl v_kept))] := hD
        refine lv_iinc (v := (x2 + (1 : Int32))) (lv' := [(2, .int (x2 + (1 : Int32))), (0, .ref a_this), (1, .int x1)]) hx hb dX9_back_53 hl (k := 2) rfl rfl (by decide) rfl (fun ls hl => ?_)
        refine lv_goto (tgt := 30) hx hb dX9_back_56 (by decide) ?_
        exact ih ((x2 + (1 : Int32))) (y14) ls (lv_sub hl [1, 2, 0] rfl) _ _ hP hD hS hf
  have hSH := hS
  unfold f_X9_back at hf
  refine lv_aload_n hx hb dX9_back_0 rfl (lv_at hl 0 rfl) ?_
  refine lv_iconst (v := (0 : Int32)) hx hb dX9_back_1 (by decide) ?_
  refine va_put (D := G.1) (ci := 9) (v := .int (0 : Int32)) (ty := .int) (C := RX9) (T := TX9) (N := 26) hx hb hts inX9 tyX9 tyX9_ok nmX9 hown hK hP hD hS 0 rfl rfl 0 (by decide) lk42 (fun _ h9 => h9) rfl (by decide +kernel) rfl rfl (Nat.le_of_ble_eq_true rfl) dX9_back_2 (fun H locs hP hD hS => ?_)
  have hP : va_P G.1 vwCl [(a_this, .inr (9, [.int (0 : Int32), .long v_trace, .ref a_this_text, .int v_typed, .int v_next, .int v_token, .int v_place, .int v_value, .int v_fault, .int v_squares, .ref a_this_stars, .ref a_this_purses, .ref a_this_leases, .int v_starMany, .int v_tenants, .int v_draftSquares, .int v_draftStars, .int v_draftTenants, .int v_draftLeases, .ref a_this_s, .ref a_this_kept, .ref a_this_isKept, .ref a_this_offers, .int v_offerMany, .ref a_this_seen, .int v_seenMany])), (a_this_isKept, .inl (G.2.2.2, 2, .inl v_isKept)), (a_this_s, .inl (G.2.1, 100, .inl v_s)), (a_this_kept, .inl (G.2.1, 200, .inl v_kept))] H := hP
  have hD : va_D A [(a_this, .inr (9, [.int (0 : Int32), .long v_trace, .ref a_this_text, .int v_typed, .int v_next, .int v_token, .int v_place, .int v_value, .int v_fault, .int v_squares, .ref a_this_stars, .ref a_this_purses, .ref a_this_leases, .int v_starMany, .int v_tenants, .int v_draftSquares, .int v_draftStars, .int v_draftTenants, .int v_draftLeases, .ref a_this_s, .ref a_this_kept, .ref a_this_isKept, .ref a_this_offers, .int v_offerMany, .ref a_this_seen, .int v_seenMany])), (a_this_isKept, .inl (G.2.2.2, 2, .inl v_isKept)), (a_this_s, .inl (G.2.1, 100, .inl v_s)), (a_this_kept, .inl (G.2.1, 200, .inl v_kept))] := hD
  refine lv_iload_n hx hb dX9_back_5 rfl (lv_at hl 1 rfl) ?_
  refine lv_iconst (v := (0 : Int32)) hx hb dX9_back_6 (by decide) ?_
  refine lv_iconst (v := (1 : Int32)) hx hb dX9_back_7 (by decide) ?_
  obtain ⟨r15, hu, hf⟩ := bd1_some hf
  refine zRi (va_runS (As := [.int g1, .int (0 : Int32), .int (1 : Int32)]) (rest := []) hC (c_X9_in l G (g1) ((0 : Int32)) ((1 : Int32)) r15 hu) (va_cwS 3 hts gX9_back_X9_in rfl rfl rfl hd_X9_in.2 ⟨(Nat.le_of_ble_eq_true rfl), (Nat.le_of_ble_eq_true rfl)⟩) (zPS hE hP [] rfl) rfl rfl hl.1 rfl (lv_room (Nat.le_of_ble_eq_true rfl)) dX9_back_8 ⟨Nat.zero_le _, Nat.zero_le _⟩) ?_
  refine lv_if_ne (tgt := 16) hx hb dX9_back_11 (by decide) (fun hc16 => ?_) (fun hc16 => ?_)
  · have hf := if_f hf hc16
    refine lv_aload_n hx hb dX9_back_16 rfl (lv_at hl 0 rfl) ?_
    refine va_get (D := G.1) (ci := 9) (v := .ref a_this_isKept) (C := RX9) (T := TX9) (N := 26) hx hb hts inX9 hown hK hP 0 rfl rfl 21 (by decide) lk28 (fun _ h9 => h9) rfl dX9_back_17 ?_
    refine lv_iload_n hx hb dX9_back_20 rfl (lv_at hl 1 rfl) ?_
    obtain ⟨hg17, hf⟩ := gd_some hf
    refine va_zald hx hb hK hP 1 2 rfl rfl (inB_in hg17) dX9_back_21 ?_
    refine lv_if_ne (tgt := 28) hx hb dX9_back_22 (by decide) (fun hc18 => ?_) (fun hc18 => ?_)
    · have hf := if_f hf hc18
      refine lv_iconst (v := (0 : Int32)) hx hb dX9_back_28 (by decide) ?_
      refine lv_istore_n (lv' := [(2, .int (0 : Int32)), (0, .ref a_this), (1, .int g1)]) hx hb dX9_back_29 rfl hl (by decide) rfl (fun ls hl => ?_)
      exact j30 (g1) ((0 : Int32)) zF ((0 : Int32)) (v_s) ls (lv_sub hl [1, 2, 0] rfl) _ _ hP hD hS hf
    · have hf := if_t hf hc18
      refine lv_bipush (v := (-2 : Int32)) hx hb dX9_back_25 (by decide) ?_
      obtain ⟨hr0, hr1, hr2⟩ := so3 hf
      subst hr0
      subst hr1
      subst hr2
      rw [← hQ]
      exact W.iret (v := (-2 : Int32)) hx hb hr (fun t ht hW => ⟨⟨rfl, by rw [ht]; exact hP⟩, hS.F ht⟩) hS.2.2 dX9_back_27
  · have hf := if_t hf hc16
    refine lv_iconst (v := (-1 : Int32)) hx hb dX9_back_14 (by decide) ?_
    obtain ⟨hr0, hr1, hr2⟩ := so3 hf
    subst hr0
    subst hr1
    subst hr2
    rw [← hQ]
    exact W.iret (v := (-1 : Int32)) hx hb hr (fun t ht hW => ⟨⟨rfl, by rw [ht]; exact hP⟩, hS.F ht⟩) hS.2.2 dX9_back_15
def f_X9_count  (v_thrown : Int32) (v_typed : Int32) (v_squares : Int32) (v_starMany : Int32) (v_tenants : Int32) (v_offerMany : Int32) (v_seenMany : Int32) (v_s : (Nat → Int32)) (g1 : Int32) : Option (Int32 × Int32) := if (4 : Int32) ≤ g1 then (if g1 = (4 : Int32) then (some (v_offerMany, (0 : Int32))) else (if g1 = (5 : Int32) then (some (v_seenMany, (0 : Int32))) else (if g1 = (6 : Int32) then (gd (inB (0 : Int32) 100) (some ((v_s ((0 : Int32)).toNatClampNeg), (0 : Int32)))) else (if g1 = (7 : Int32) then (gd (inB (57 : Int32) 100) (some ((v_s ((57 : Int32)).toNatClampNeg), (0 : Int32)))) else (if g1 = (8 : Int32) then (some (v_typed, (0 : Int32))) else (some ((-1 : Int32), (0 : Int32)))))))) else (if g1 = (0 : Int32) then (some (v_squares, (0 : Int32))) else (if g1 = (1 : Int32) then (some (v_starMany, (0 : Int32))) else (if g1 = (2 : Int32) then (some (v_tenants, (0 : Int32))) else (if g1 = (3 : Int32) then (gd (inB (6 : Int32) 100) (some ((v_s ((6 : Int32)).toNatClampNeg), (0 : Int32)))) else (some ((-1 : Int32), (0 : Int32)))))))
abbrev rm_X9_count : Room := { frames := 0, cells := 0, slots := 0, locals := 0 }
set_option maxHeartbeats 4000000 in
set_option maxRecDepth 100000 in
theorem c_X9_count (l : Launch) (G : zG) (sz : Nat) (a_this : Nat) (a_this_s : Nat) (a_this_text : Nat) (a_this_stars : Nat) (a_this_purses : Nat) (a_this_leases : Nat) (a_this_kept : Nat) (a_this_isKept : Nat) (a_this_offers : Nat) (a_this_seen : Nat) (v_thrown : Int32) (v_trace : Int64) (v_typed : Int32) (v_next : Int32) (v_token : Int32) (v_place : Int32) (v_value : Int32) (v_fault : Int32) (v_squares : Int32) (v_starMany : Int32) (v_tenants : Int32) (v_draftSquares : Int32) (v_draftStars : Int32) (v_draftTenants : Int32) (v_draftLeases : Int32) (v_offerMany : Int32) (v_seenMany : Int32) (v_s : (Nat → Int32)) (g1 : Int32) (R0 : Int32) (R1 : Int32) (hf : f_X9_count v_thrown v_typed v_squares v_starMany v_tenants v_offerMany v_seenMany v_s g1 = some (R0, R1)) : Met l yX9_count wsX9_count rm_X9_count (va_Pc [.ref a_this, .int g1] (zB G [(a_this, .inr (9, [.int v_thrown, .long v_trace, .ref a_this_text, .int v_typed, .int v_next, .int v_token, .int v_place, .int v_value, .int v_fault, .int v_squares, .ref a_this_stars, .ref a_this_purses, .ref a_this_leases, .int v_starMany, .int v_tenants, .int v_draftSquares, .int v_draftStars, .int v_draftTenants, .int v_draftLeases, .ref a_this_s, .ref a_this_kept, .ref a_this_isKept, .ref a_this_offers, .int v_offerMany, .ref a_this_seen, .int v_seenMany])), (a_this_s, .inl (G.2.1, 100, .inl v_s))] sz)) (zQ G (some (.int R0)) [(a_this, .inr (9, [.int R1, .long v_trace, .ref a_this_text, .int v_typed, .int v_next, .int v_token, .int v_place, .int v_value, .int v_fault, .int v_squares, .ref a_this_stars, .ref a_this_purses, .ref a_this_leases, .int v_starMany, .int v_tenants, .int v_draftSquares, .int v_draftStars, .int v_draftTenants, .int v_draftLeases, .ref a_this_s, .ref a_this_kept, .ref a_this_isKept, .ref a_this_offers, .int v_offerMany, .ref a_this_seen, .int v_seenMany])), (a_this_s, .inl (G.2.1, 100, .inl v_s))] (va_A [(a_this, .inr (9, [.int v_thrown, .long v_trace, .ref a_this_text, .int v_typed, .int v_next, .int v_token, .int v_place, .int v_value, .int v_fault, .int v_squares, .ref a_this_stars, .ref a_this_purses, .ref a_this_leases, .int v_starMany, .int v_tenants, .int v_draftSquares, .int v_draftStars, .int v_draftTenants, .int v_draftLeases, .ref a_this_s, .ref a_this_kept, .ref a_this_isKept, .ref a_this_offers, .int v_offerMany, .ref a_this_seen, .int v_seenMany])), (a_this_s, .inl (G.2.1, 100, .inl v_s))] sz)) 0 0 (va_A [(a_this, .inr (9, [.int v_thrown, .long v_trace, .ref a_this_text, .int v_typed, .int v_next, .int v_token, .int v_place, .int v_value, .int v_fault, .int v_squares, .ref a_this_stars, .ref a_this_purses, .ref a_this_leases, .int v_starMany, .int v_tenants, .int v_draftSquares, .int v_draftStars, .int v_draftTenants, .int v_draftLeases, .ref a_this_s, .ref a_this_kept, .ref a_this_isKept, .ref a_this_offers, .int v_offerMany, .ref a_this_seen, .int v_seenMany])), (a_this_s, .inl (G.2.1, 100, .inl v_s))] sz) := by
  refine Met.ofW (cc := cX9_count) (maxL := 2) (ret := (some .int)) (by decide) rfl ?_
  intro p e s m args below meth c s₁ B hml hv
  obtain ⟨hargs, hsz, hP, hD0, hE⟩ := hv
  have hx := B.exec
  have hb := B.bytes
  have hr := B.returns
  have hts := atoms_spec (ws := wsX9_count) B.pre
  have hown : s.vm.findClass RX9 = some m.cls := findClass_of_methodNamed B.named
  have hlocks := B.notSynchronized
  have hK := hE.1
  have hC : CallFix p m c cX9_count 2 s args wsX9_count RX9 := ⟨hx, hb, hml, hown, hts⟩
  have inX9 : ∀ w ∈ wsX90, w ∈ wsX9_count := by decide +kernel
  have lk22 := hts (.fieldLink RX9 22 "SkyLeasesModel" "s" "[I") (by decide +kernel)
  have lk38 := hts (.fieldLink RX9 38 "SkyLeasesModel" "squares" "I") (by decide +kernel)
  have lk42 := hts (.fieldLink RX9 42 "SkyLeasesModel" "thrown" "I") (by decide +kernel)
  have lk49 := hts (.fieldLink RX9 49 "SkyLeasesModel" "typed" "I") (by decide +kernel)
  have lk118 := hts (.fieldLink RX9 118 "SkyLeasesModel" "starMany" "I") (by decide +kernel)
  have lk121 := hts (.fieldLink RX9 121 "SkyLeasesModel" "tenants" "I") (by decide +kernel)
  have lk124 := hts (.fieldLink RX9 124 "SkyLeasesModel" "offerMany" "I") (by decide +kernel)
  have lk127 := hts (.fieldLink RX9 127 "SkyLeasesModel" "seenMany" "I") (by decide +kernel)
  subst hsz
  have hD := hD0.self (sz := s.heap.size)
  generalize hAe : va_A [(a_this, .inr (9, [.int v_thrown, .long v_trace, .ref a_this_text, .int v_typed, .int v_next, .int v_token, .int v_place, .int v_value, .int v_fault, .int v_squares, .ref a_this_stars, .ref a_this_purses, .ref a_this_leases, .int v_starMany, .int v_tenants, .int v_draftSquares, .int v_draftStars, .int v_draftTenants, .int v_draftLeases, .ref a_this_s, .ref a_this_kept, .ref a_this_isKept, .ref a_this_offers, .int v_offerMany, .ref a_this_seen, .int v_seenMany])), (a_this_s, .inl (G.2.1, 100, .inl v_s))] s.heap.size = A at hD ⊢
  have hA : ∀ q : Nat, s.heap.size ≤ q → A q := fun q h => by rw [← hAe]; exact Or.inr h
  have hS : va_S A s.heap s.heap [] := va_S.rf
  have hP : va_P G.1 vwCl [(a_this, .inr (9, [.int v_thrown, .long v_trace, .ref a_this_text, .int v_typed, .int v_next, .int v_token, .int v_place, .int v_value, .int v_fault, .int v_squares, .ref a_this_stars, .ref a_this_purses, .ref a_this_leases, .int v_starMany, .int v_tenants, .int v_draftSquares, .int v_draftStars, .int v_draftTenants, .int v_draftLeases, .ref a_this_s, .ref a_this_kept, .ref a_this_isKept, .ref a_this_offers, .int v_offerMany, .ref a_this_seen, .int v_seenMany])), (a_this_s, .inl (G.2.1, 100, .inl v_s))] s.heap := hP
  have hl := lv_entry ([.ref a_this, .int g1]) (n := 2) (Nat.le_of_ble_eq_true rfl)
  have hent : entryFrame m args 2 = F0 m 0 ((lg_sl ([.ref a_this, .int g1]) ++ List.replicate (2 - (lg_sl ([.ref a_this, .int g1])).length) Slot.unset).toArray) [] := by rw [hargs]; exact lg_entry_eq m [.ref a_this, .int g1] 2
  refine W.eq hent ?_
  clear hent
  generalize (lg_sl ([.ref a_this, .int g1]) ++ List.replicate (2 - (lg_sl ([.ref a_this, .int g1])).length) Slot.unset).toArray = ls at hl ⊢
  have hl : lv_has ls 2 [(0, .ref a_this), (1, .int g1)] := hl
  generalize hQ : MQ below _ args s 0 0 _ = QQ
  change W p l e rm_X9_count s m args below meth c s.heap [] 0 0 QQ _
  have hSH := hS
  unfold f_X9_count at hf
  refine lv_aload_n hx hb dX9_count_0 rfl (lv_at hl 0 rfl) ?_
  refine lv_iconst (v := (0 : Int32)) hx hb dX9_count_1 (by decide) ?_
  refine va_put (D := G.1) (ci := 9) (v := .int (0 : Int32)) (ty := .int) (C := RX9) (T := TX9) (N := 26) hx hb hts inX9 tyX9 tyX9_ok nmX9 hown hK hP hD hS 0 rfl rfl 0 (by decide) lk42 (fun _ h9 => h9) rfl (by decide +kernel) rfl rfl (Nat.le_of_ble_eq_true rfl) dX9_count_2 (fun H locs hP hD hS => ?_)
  have hP : va_P G.1 vwCl [(a_this, .inr (9, [.int (0 : Int32), .long v_trace, .ref a_this_text, .int v_typed, .int v_next, .int v_token, .int v_place, .int v_value, .int v_fault, .int v_squares, .ref a_this_stars, .ref a_this_purses, .ref a_this_leases, .int v_starMany, .int v_tenants, .int v_draftSquares, .int v_draftStars, .int v_draftTenants, .int v_draftLeases, .ref a_this_s, .ref a_this_kept, .ref a_this_isKept, .ref a_this_offers, .int v_offerMany, .ref a_this_seen, .int v_seenMany])), (a_this_s, .inl (G.2.1, 100, .inl v_s))] H := hP
  have hD : va_D A [(a_this, .inr (9, [.int (0 : Int32), .long v_trace, .ref a_this_text, .int v_typed, .int v_next, .int v_token, .int v_place, .int v_value, .int v_fault, .int v_squares, .ref a_this_stars, .ref a_this_purses, .ref a_this_leases, .int v_starMany, .int v_tenants, .int v_draftSquares, .int v_draftStars, .int v_draftTenants, .int v_draftLeases, .ref a_this_s, .ref a_this_kept, .ref a_this_isKept, .ref a_this_offers, .int v_offerMany, .ref a_this_seen, .int v_seenMany])), (a_this_s, .inl (G.2.1, 100, .inl v_s))] := hD
  refine lv_iload_n hx hb dX9_count_5 rfl (lv_at hl 1 rfl) ?_
  refine lv_iconst (v := (4 : Int32)) hx hb dX9_count_6 (by decide) ?_
  refine lv_icmp_ge (tgt := 62) hx hb dX9_count_7 (by decide) (fun hc14 => ?_) (fun hc14 => ?_)
  · have hf := if_t hf hc14
    refine lv_iload_n hx hb dX9_count_62 rfl (lv_at hl 1 rfl) ?_
    refine lv_iconst (v := (4 : Int32)) hx hb dX9_count_63 (by decide) ?_
    refine lv_icmp_ne (tgt := 74) hx hb dX9_count_64 (by decide) (fun hc15 => ?_) (fun hc15 => ?_)
    · have hf := if_f hf hc15
      refine lv_iload_n hx hb dX9_count_74 rfl (lv_at hl 1 rfl) ?_
      refine lv_iconst (v := (5 : Int32)) hx hb dX9_count_75 (by decide) ?_
      refine lv_icmp_ne (tgt := 86) hx hb dX9_count_76 (by decide) (fun hc16 => ?_) (fun hc16 => ?_)
      · have hf := if_f hf hc16
        refine lv_iload_n hx hb dX9_count_86 rfl (lv_at hl 1 rfl) ?_
        refine lv_bipush (v := (6 : Int32)) hx hb dX9_count_87 (by decide) ?_
        refine lv_icmp_ne (tgt := 101) hx hb dX9_count_89 (by decide) (fun hc17 => ?_) (fun hc17 => ?_)
        · have hf := if_f hf hc17
          refine lv_iload_n hx hb dX9_count_101 rfl (lv_at hl 1 rfl) ?_
          refine lv_bipush (v := (7 : Int32)) hx hb dX9_count_102 (by decide) ?_
          refine lv_icmp_ne (tgt := 117) hx hb dX9_count_104 (by decide) (fun hc18 => ?_) (fun hc18 => ?_)
          · have hf := if_f hf hc18
            refine lv_iload_n hx hb dX9_count_117 rfl (lv_at hl 1 rfl) ?_
            refine lv_bipush (v := (8 : Int32)) hx hb dX9_count_118 (by decide) ?_
            refine lv_icmp_ne (tgt := 130) hx hb dX9_count_120 (by decide) (fun hc19 => ?_) (fun hc19 => ?_)
            · have hf := if_f hf hc19
              refine lv_iconst (v := (-1 : Int32)) hx hb dX9_count_130 (by decide) ?_
              obtain ⟨hr0, hr1⟩ := so2 hf
              subst hr0
              subst hr1
              rw [← hQ]
              exact W.iret (v := (-1 : Int32)) hx hb hr (fun t ht hW => ⟨⟨rfl, by rw [ht]; exact hP⟩, hS.F ht⟩) hS.2.2 dX9_count_131
            · have hf := if_t hf hc19
              refine lv_aload_n hx hb dX9_count_123 rfl (lv_at hl 0 rfl) ?_
              refine va_get (D := G.1) (ci := 9) (v := .int v_typed) (C := RX9) (T := TX9) (N := 26) hx hb hts inX9 hown hK hP 0 rfl rfl 3 (by decide) lk49 (fun _ h9 => h9) rfl dX9_count_124 ?_
              refine lv_goto (tgt := 131) hx hb dX9_count_127 (by decide) ?_
              obtain ⟨hr0, hr1⟩ := so2 hf
              subst hr0
              subst hr1
              rw [← hQ]
              exact W.iret (v := v_typed) hx hb hr (fun t ht hW => ⟨⟨rfl, by rw [ht]; exact hP⟩, hS.F ht⟩) hS.2.2 dX9_count_131
          · have hf := if_t hf hc18
            refine lv_aload_n hx hb dX9_count_107 rfl (lv_at hl 0 rfl) ?_
            refine va_get (D := G.1) (ci := 9) (v := .ref a_this_s) (C := RX9) (T := TX9) (N := 26) hx hb hts inX9 hown hK hP 0 rfl rfl 19 (by decide) lk22 (fun _ h9 => h9) rfl dX9_count_108 ?_
            refine lv_bipush (v := (57 : Int32)) hx hb dX9_count_111 (by decide) ?_
            obtain ⟨hg20, hf⟩ := gd_some hf
            refine va_iald hx hb hK hP 1 0 rfl rfl (inB_in hg20) dX9_count_113 ?_
            refine lv_goto (tgt := 131) hx hb dX9_count_114 (by decide) ?_
            obtain ⟨hr0, hr1⟩ := so2 hf
            subst hr0
            subst hr1
            rw [← hQ]
            exact W.iret (v := (v_s ((57 : Int32)).toNatClampNeg)) hx hb hr (fun t ht hW => ⟨⟨rfl, by rw [ht]; exact hP⟩, hS.F ht⟩) hS.2.2 dX9_count_131
        · have hf := if_t hf hc17
          refine lv_aload_n hx hb dX9_count_92 rfl (lv_at hl 0 rfl) ?_
          refine va_get (D := G.1) (ci := 9) (v := .ref a_this_s) (C := RX9) (T := TX9) (N := 26) hx hb hts inX9 hown hK hP 0 rfl rfl 19 (by decide) lk22 (fun _ h9 => h9) rfl dX9_count_93 ?_
          refine lv_iconst (v := (0 : Int32)) hx hb dX9_count_96 (by decide) ?_
          obtain ⟨hg21, hf⟩ := gd_some hf
          refine va_iald hx hb hK hP 1 0 rfl rfl (inB_in hg21) dX9_count_97 ?_
          refine lv_goto (tgt := 131) hx hb dX9_count_98 (by decide) ?_
          obtain ⟨hr0, hr1⟩ := so2 hf
          subst hr0
          subst hr1
          rw [← hQ]
          exact W.iret (v := (v_s ((0 : Int32)).toNatClampNeg)) hx hb hr (fun t ht hW => ⟨⟨rfl, by rw [ht]; exact hP⟩, hS.F ht⟩) hS.2.2 dX9_count_131
      · have hf := if_t hf hc16
        refine lv_aload_n hx hb dX9_count_79 rfl (lv_at hl 0 rfl) ?_
        refine va_get (D := G.1) (ci := 9) (v := .int v_seenMany) (C := RX9) (T := TX9) (N := 26) hx hb hts inX9 hown hK hP 0 rfl rfl 25 (by decide) lk127 (fun _ h9 => h9) rfl dX9_count_80 ?_
        refine lv_goto (tgt := 131) hx hb dX9_count_83 (by decide) ?_
        obtain ⟨hr0, hr1⟩ := so2 hf
        subst hr0
        subst hr1
        rw [← hQ]
        exact W.iret (v := v_seenMany) hx hb hr (fun t ht hW => ⟨⟨rfl, by rw [ht]; exact hP⟩, hS.F ht⟩) hS.2.2 dX9_count_131
    · have hf := if_t hf hc15
      refine lv_aload_n hx hb dX9_count_67 rfl (lv_at hl 0 rfl) ?_
      refine va_get (D := G.1) (ci := 9) (v := .int v_offerMany) (C := RX9) (T := TX9) (N := 26) hx hb hts inX9 hown hK hP 0 rfl rfl 23 (by decide) lk124 (fun _ h9 => h9) rfl dX9_count_68 ?_
      refine lv_goto (tgt := 131) hx hb dX9_count_71 (by decide) ?_
      obtain ⟨hr0, hr1⟩ := so2 hf
      subst hr0
      subst hr1
      rw [← hQ]
      exact W.iret (v := v_offerMany) hx hb hr (fun t ht hW => ⟨⟨rfl, by rw [ht]; exact hP⟩, hS.F ht⟩) hS.2.2 dX9_count_131
  · have hf := if_f hf hc14
    refine lv_iload_n hx hb dX9_count_10 rfl (lv_at hl 1 rfl) ?_
    refine lv_if_ne (tgt := 21) hx hb dX9_count_11 (by decide) (fun hc22 => ?_) (fun hc22 => ?_)
    · have hf := if_f hf hc22
      refine lv_iload_n hx hb dX9_count_21 rfl (lv_at hl 1 rfl) ?_
      refine lv_iconst (v := (1 : Int32)) hx hb dX9_count_22 (by decide) ?_
      refine lv_icmp_ne (tgt := 33) hx hb dX9_count_23 (by decide) (fun hc23 => ?_) (fun hc23 => ?_)
      · have hf := if_f hf hc23
        refine lv_iload_n hx hb dX9_count_33 rfl (lv_at hl 1 rfl) ?_
        refine lv_iconst (v := (2 : Int32)) hx hb dX9_count_34 (by decide) ?_
        refine lv_icmp_ne (tgt := 45) hx hb dX9_count_35 (by decide) (fun hc24 => ?_) (fun hc24 => ?_)
        · have hf := if_f hf hc24
          refine lv_iload_n hx hb dX9_count_45 rfl (lv_at hl 1 rfl) ?_
          refine lv_iconst (v := (3 : Int32)) hx hb dX9_count_46 (by decide) ?_
          refine lv_icmp_ne (tgt := 60) hx hb dX9_count_47 (by decide) (fun hc25 => ?_) (fun hc25 => ?_)
          · have hf := if_f hf hc25
            refine lv_iconst (v := (-1 : Int32)) hx hb dX9_count_60 (by decide) ?_
            obtain ⟨hr0, hr1⟩ := so2 hf
            subst hr0
            subst hr1
            rw [← hQ]
            exact W.iret (v := (-1 : Int32)) hx hb hr (fun t ht hW => ⟨⟨rfl, by rw [ht]; exact hP⟩, hS.F ht⟩) hS.2.2 dX9_count_61
          · have hf := if_t hf hc25
            refine lv_aload_n hx hb dX9_count_50 rfl (lv_at hl 0 rfl) ?_
            refine va_get (D := G.1) (ci := 9) (v := .ref a_this_s) (C := RX9) (T := TX9) (N := 26) hx hb hts inX9 hown hK hP 0 rfl rfl 19 (by decide) lk22 (fun _ h9 => h9) rfl dX9_count_51 ?_
            refine lv_bipush (v := (6 : Int32)) hx hb dX9_count_54 (by decide) ?_
            obtain ⟨hg26, hf⟩ := gd_some hf
            refine va_iald hx hb hK hP 1 0 rfl rfl (inB_in hg26) dX9_count_56 ?_
            refine lv_goto (tgt := 61) hx hb dX9_count_57 (by decide) ?_
            obtain ⟨hr0, hr1⟩ := so2 hf
            subst hr0
            subst hr1
            rw [← hQ]
            exact W.iret (v := (v_s ((6 : Int32)).toNatClampNeg)) hx hb hr (fun t ht hW => ⟨⟨rfl, by rw [ht]; exact hP⟩, hS.F ht⟩) hS.2.2 dX9_count_61
        · have hf := if_t hf hc24
          refine lv_aload_n hx hb dX9_count_38 rfl (lv_at hl 0 rfl) ?_
          refine va_get (D := G.1) (ci := 9) (v := .int v_tenants) (C := RX9) (T := TX9) (N := 26) hx hb hts inX9 hown hK hP 0 rfl rfl 14 (by decide) lk121 (fun _ h9 => h9) rfl dX9_count_39 ?_
          refine lv_goto (tgt := 61) hx hb dX9_count_42 (by decide) ?_
          obtain ⟨hr0, hr1⟩ := so2 hf
          subst hr0
          subst hr1
          rw [← hQ]
          exact W.iret (v := v_tenants) hx hb hr (fun t ht hW => ⟨⟨rfl, by rw [ht]; exact hP⟩, hS.F ht⟩) hS.2.2 dX9_count_61
      · have hf := if_t hf hc23
        refine lv_aload_n hx hb dX9_count_26 rfl (lv_at hl 0 rfl) ?_
        refine va_get (D := G.1) (ci := 9) (v := .int v_starMany) (C := RX9) (T := TX9) (N := 26) hx hb hts inX9 hown hK hP 0 rfl rfl 13 (by decide) lk118 (fun _ h9 => h9) rfl dX9_count_27 ?_
        refine lv_goto (tgt := 61) hx hb dX9_count_30 (by decide) ?_
        obtain ⟨hr0, hr1⟩ := so2 hf
        subst hr0
        subst hr1
        rw [← hQ]
        exact W.iret (v := v_starMany) hx hb hr (fun t ht hW => ⟨⟨rfl, by rw [ht]; exact hP⟩, hS.F ht⟩) hS.2.2 dX9_count_61
    · have hf := if_t hf hc22
      refine lv_aload_n hx hb dX9_count_14 rfl (lv_at hl 0 rfl) ?_
      refine va_get (D := G.1) (ci := 9) (v := .int v_squares) (C := RX9) (T := TX9) (N := 26) hx hb hts inX9 hown hK hP 0 rfl rfl 9 (by decide) lk38 (fun _ h9 => h9) rfl dX9_count_15 ?_
      refine lv_goto (tgt := 61) hx hb dX9_count_18 (by decide) ?_
      obtain ⟨hr0, hr1⟩ := so2 hf
      subst hr0
      subst hr1
      rw [← hQ]
      exact W.iret (v := v_squares) hx hb hr (fun t ht hW => ⟨⟨rfl, by rw [ht]; exact hP⟩, hS.F ht⟩) hS.2.2 dX9_count_61
def f_X9_trace  (v_thrown : Int32) (v_trace : Int64)  : Option (Int64 × Int32) := some (v_trace, (0 : Int32))
abbrev rm_X9_trace : Room := { frames := 0, cells := 0, slots := 0, locals := 0 }
set_option maxHeartbeats 4000000 in
set_option maxRecDepth 100000 in
theorem c_X9_trace (l : Launch) (G : zG) (sz : Nat) (a_this : Nat) (a_this_text : Nat) (a_this_stars : Nat) (a_this_purses : Nat) (a_this_leases : Nat) (a_this_s : Nat) (a_this_kept : Nat) (a_this_isKept : Nat) (a_this_offers : Nat) (a_this_seen : Nat) (v_thrown : Int32) (v_trace : Int64) (v_typed : Int32) (v_next : Int32) (v_token : Int32) (v_place : Int32) (v_value : Int32) (v_fault : Int32) (v_squares : Int32) (v_starMany : Int32) (v_tenants : Int32) (v_draftSquares : Int32) (v_draftStars : Int32) (v_draftTenants : Int32) (v_draftLeases : Int32) (v_offerMany : Int32) (v_seenMany : Int32) (R0 : Int64) (R1 : Int32) (hf : f_X9_trace v_thrown v_trace = some (R0, R1)) : Met l yX9_trace wsX9_trace rm_X9_trace (va_Pc [.ref a_this] (zB G [(a_this, .inr (9, [.int v_thrown, .long v_trace, .ref a_this_text, .int v_typed, .int v_next, .int v_token, .int v_place, .int v_value, .int v_fault, .int v_squares, .ref a_this_stars, .ref a_this_purses, .ref a_this_leases, .int v_starMany, .int v_tenants, .int v_draftSquares, .int v_draftStars, .int v_draftTenants, .int v_draftLeases, .ref a_this_s, .ref a_this_kept, .ref a_this_isKept, .ref a_this_offers, .int v_offerMany, .ref a_this_seen, .int v_seenMany]))] sz)) (zQ G (some (.long R0)) [(a_this, .inr (9, [.int R1, .long v_trace, .ref a_this_text, .int v_typed, .int v_next, .int v_token, .int v_place, .int v_value, .int v_fault, .int v_squares, .ref a_this_stars, .ref a_this_purses, .ref a_this_leases, .int v_starMany, .int v_tenants, .int v_draftSquares, .int v_draftStars, .int v_draftTenants, .int v_draftLeases, .ref a_this_s, .ref a_this_kept, .ref a_this_isKept, .ref a_this_offers, .int v_offerMany, .ref a_this_seen, .int v_seenMany]))] (va_A [(a_this, .inr (9, [.int v_thrown, .long v_trace, .ref a_this_text, .int v_typed, .int v_next, .int v_token, .int v_place, .int v_value, .int v_fault, .int v_squares, .ref a_this_stars, .ref a_this_purses, .ref a_this_leases, .int v_starMany, .int v_tenants, .int v_draftSquares, .int v_draftStars, .int v_draftTenants, .int v_draftLeases, .ref a_this_s, .ref a_this_kept, .ref a_this_isKept, .ref a_this_offers, .int v_offerMany, .ref a_this_seen, .int v_seenMany]))] sz)) 0 0 (va_A [(a_this, .inr (9, [.int v_thrown, .long v_trace, .ref a_this_text, .int v_typed, .int v_next, .int v_token, .int v_place, .int v_value, .int v_fault, .int v_squares, .ref a_this_stars, .ref a_this_purses, .ref a_this_leases, .int v_starMany, .int v_tenants, .int v_draftSquares, .int v_draftStars, .int v_draftTenants, .int v_draftLeases, .ref a_this_s, .ref a_this_kept, .ref a_this_isKept, .ref a_this_offers, .int v_offerMany, .ref a_this_seen, .int v_seenMany]))] sz) := by
  refine Met.ofW (cc := cX9_trace) (maxL := 1) (ret := (some .long)) (by decide) rfl ?_
  intro p e s m args below meth c s₁ B hml hv
  obtain ⟨hargs, hsz, hP, hD0, hE⟩ := hv
  have hx := B.exec
  have hb := B.bytes
  have hr := B.returns
  have hts := atoms_spec (ws := wsX9_trace) B.pre
  have hown : s.vm.findClass RX9 = some m.cls := findClass_of_methodNamed B.named
  have hlocks := B.notSynchronized
  have hK := hE.1
  have hC : CallFix p m c cX9_trace 1 s args wsX9_trace RX9 := ⟨hx, hb, hml, hown, hts⟩
  have inX9 : ∀ w ∈ wsX90, w ∈ wsX9_trace := by decide +kernel
  have lk42 := hts (.fieldLink RX9 42 "SkyLeasesModel" "thrown" "I") (by decide +kernel)
  have lk196 := hts (.fieldLink RX9 196 "SkyLeasesModel" "trace" "J") (by decide +kernel)
  subst hsz
  have hD := hD0.self (sz := s.heap.size)
  generalize hAe : va_A [(a_this, .inr (9, [.int v_thrown, .long v_trace, .ref a_this_text, .int v_typed, .int v_next, .int v_token, .int v_place, .int v_value, .int v_fault, .int v_squares, .ref a_this_stars, .ref a_this_purses, .ref a_this_leases, .int v_starMany, .int v_tenants, .int v_draftSquares, .int v_draftStars, .int v_draftTenants, .int v_draftLeases, .ref a_this_s, .ref a_this_kept, .ref a_this_isKept, .ref a_this_offers, .int v_offerMany, .ref a_this_seen, .int v_seenMany]))] s.heap.size = A at hD ⊢
  have hA : ∀ q : Nat, s.heap.size ≤ q → A q := fun q h => by rw [← hAe]; exact Or.inr h
  have hS : va_S A s.heap s.heap [] := va_S.rf
  have hP : va_P G.1 vwCl [(a_this, .inr (9, [.int v_thrown, .long v_trace, .ref a_this_text, .int v_typed, .int v_next, .int v_token, .int v_place, .int v_value, .int v_fault, .int v_squares, .ref a_this_stars, .ref a_this_purses, .ref a_this_leases, .int v_starMany, .int v_tenants, .int v_draftSquares, .int v_draftStars, .int v_draftTenants, .int v_draftLeases, .ref a_this_s, .ref a_this_kept, .ref a_this_isKept, .ref a_this_offers, .int v_offerMany, .ref a_this_seen, .int v_seenMany]))] s.heap := hP
  have hl := lv_entry ([.ref a_this]) (n := 1) (Nat.le_of_ble_eq_true rfl)
  have hent : entryFrame m args 1 = F0 m 0 ((lg_sl ([.ref a_this]) ++ List.replicate (1 - (lg_sl ([.ref a_this])).length) Slot.unset).toArray) [] := by rw [hargs]; exact lg_entry_eq m [.ref a_this] 1
  refine W.eq hent ?_
  clear hent
  generalize (lg_sl ([.ref a_this]) ++ List.replicate (1 - (lg_sl ([.ref a_this])).length) Slot.unset).toArray = ls at hl ⊢
  have hl : lv_has ls 1 [(0, .ref a_this)] := hl
  generalize hQ : MQ below _ args s 0 0 _ = QQ
  change W p l e rm_X9_trace s m args below meth c s.heap [] 0 0 QQ _
  have hSH := hS
  unfold f_X9_trace at hf
  refine lv_aload_n hx hb dX9_trace_0 rfl (lv_at hl 0 rfl) ?_
  refine lv_iconst (v := (0 : Int32)) hx hb dX9_trace_1 (by decide) ?_
  refine va_put (D := G.1) (ci := 9) (v := .int (0 : Int32)) (ty := .int) (C := RX9) (T := TX9) (N := 26) hx hb hts inX9 tyX9 tyX9_ok nmX9 hown hK hP hD hS 0 rfl rfl 0 (by decide) lk42 (fun _ h9 => h9) rfl (by decide +kernel) rfl rfl (Nat.le_of_ble_eq_true rfl) dX9_trace_2 (fun H locs hP hD hS => ?_)
  have hP : va_P G.1 vwCl [(a_this, .inr (9, [.int (0 : Int32), .long v_trace, .ref a_this_text, .int v_typed, .int v_next, .int v_token, .int v_place, .int v_value, .int v_fault, .int v_squares, .ref a_this_stars, .ref a_this_purses, .ref a_this_leases, .int v_starMany, .int v_tenants, .int v_draftSquares, .int v_draftStars, .int v_draftTenants, .int v_draftLeases, .ref a_this_s, .ref a_this_kept, .ref a_this_isKept, .ref a_this_offers, .int v_offerMany, .ref a_this_seen, .int v_seenMany]))] H := hP
  have hD : va_D A [(a_this, .inr (9, [.int (0 : Int32), .long v_trace, .ref a_this_text, .int v_typed, .int v_next, .int v_token, .int v_place, .int v_value, .int v_fault, .int v_squares, .ref a_this_stars, .ref a_this_purses, .ref a_this_leases, .int v_starMany, .int v_tenants, .int v_draftSquares, .int v_draftStars, .int v_draftTenants, .int v_draftLeases, .ref a_this_s, .ref a_this_kept, .ref a_this_isKept, .ref a_this_offers, .int v_offerMany, .ref a_this_seen, .int v_seenMany]))] := hD
  refine lv_aload_n hx hb dX9_trace_5 rfl (lv_at hl 0 rfl) ?_
  refine va_get (D := G.1) (ci := 9) (v := .long v_trace) (C := RX9) (T := TX9) (N := 26) hx hb hts inX9 hown hK hP 0 rfl rfl 1 (by decide) lk196 (fun _ h9 => h9) rfl dX9_trace_6 ?_
  obtain ⟨hr0, hr1⟩ := so2 hf
  subst hr0
  subst hr1
  rw [← hQ]
  exact W.lret (v := v_trace) hx hb hr (fun t ht hW => ⟨⟨rfl, by rw [ht]; exact hP⟩, hS.F ht⟩) hS.2.2 dX9_trace_9
