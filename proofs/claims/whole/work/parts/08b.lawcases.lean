set_option maxHeartbeats 4000000 in
set_option maxRecDepth 100000 in
theorem lc_cycle {p : Program} {l : Launch} {e : Env} {s : State} {m : MethodId} {below : List Frame} {meth : Method} {c : Code} {G : zG} {KV : zKV} {b L : Nat} {xs : Nat → Int32} (C0 : lw_At p s m meth c b L xs) (hE : zE G s) (hZ : zS KV (zA s) s s.heap) {x3 : Int32} (hin : ∀ j : Nat, j < 7 → vp_in (x3 + nI j) L) (cont : lAt p l e s m below meth c G b x3 1007) : lAt p l e s m below meth c G b x3 381 := by
  intro a am v r t vm rm tm hI H locs hP hD hS ls hl
  obtain ⟨hx, hb, hr, hml, hown, hts0, hX, hbl, hlocks, hgv⟩ := C0
  have hts : ∀ w ∈ wsL_law, w.before #[Value.ref b] s = true := fun w h => hts0 w (wsL_law_in w h)
  have hbA : ¬ zA s b := Nat.not_le.mpr hbl
  have hA : ∀ q : Nat, s.heap.size ≤ q → zA s q := fun _ h => h
  have hC : CallFix p m c cL_law 4 s #[Value.ref b] wsL_law RL := ⟨hx, hb, hml, hown, hts⟩
  obtain ⟨R0, z0, h1, h2, hI2⟩ := pm_cycle v r t vm rm tm hI 
  refine lv_aload_n hx hb dL_law_381 rfl (lv_at hl 1 rfl) ?_
  refine zRi (va_runV (As := []) (rest := []) hC (c_X8_cycle l G (a 0) (a 5) (a 7) (a 1) (a 3) (a 12) (a 19) (a 27) (a 35) (a 43) (a 44) (a 52) (a 55) (a 6) (a 8) (a 9) (a 10) t (v 5) (v 6) (v 7) (r 3) R0 h1) (cwV 0 hts gL_law_X8_cycle rfl rfl rfl hd_X8_cycle ⟨(Nat.le_of_ble_eq_true rfl), (Nat.le_of_ble_eq_true rfl)⟩) (zPV hE hP [0, 5, 7] rfl 0 rfl rfl) rfl rfl hl.1 rfl (lv_room (Nat.le_of_ble_eq_true rfl)) dL_law_382 ⟨(Nat.le_of_ble_eq_true rfl), (Nat.le_of_ble_eq_true rfl)⟩) ?_
  refine lv_aload_n hx hb dL_law_385 rfl (lv_at hl 2 rfl) ?_
  refine zWi (wr := zpick (wXM G a am v r t vm rm tm) [0, 1, 2, 3, 4, 5, 6, 7, 8, 9, 10, 11, 12, 13, 14, 15, 16, 17, 18, 19, 20, 21, 22, 23, 24, 25, 26, 27, 28, 29, 30, 31, 32, 33, 34, 35, 36, 37, 38, 39, 40, 41, 42, 43, 44, 45, 46, 47, 48, 49, 50, 51, 52, 53, 54, 55, 57, 59, 60, 61, 62, 63, 64, 65]) (ws2 := wXM G a am v r t (upd vm 0 z0) rm tm) (va_runV (As := []) (rest := [.int R0]) hC (c_X9_cycle l G _ (am 0) (am 2) (am 1) (am 3) (am 4) (am 5) (am 6) (am 7) (am 8) (am 9) (vm 0) tm (vm 1) (vm 2) (vm 3) (vm 4) (vm 5) (vm 6) (vm 7) (vm 8) (vm 9) (vm 10) (vm 11) (vm 12) (vm 13) (vm 14) (vm 15) (rm 1) R0 z0 h2) (cwV 0 hts gL_law_X9_cycle rfl rfl rfl hd_X9_cycle ⟨(Nat.le_of_ble_eq_true rfl), (Nat.le_of_ble_eq_true rfl)⟩) (zPVw hE hP hD [56, 58] rfl rfl 56 rfl rfl) rfl rfl hl.1 rfl (lv_room (Nat.le_of_ble_eq_true rfl)) dL_law_386 ⟨(Nat.le_of_ble_eq_true rfl), (Nat.le_of_ble_eq_true rfl)⟩) hP hD hS hA [56, 58] [0, 1, 2, 3, 4, 5, 6, 7, 8, 9, 10, 11, 12, 13, 14, 15, 16, 17, 18, 19, 20, 21, 22, 23, 24, 25, 26, 27, 28, 29, 30, 31, 32, 33, 34, 35, 36, 37, 38, 39, 40, 41, 42, 43, 44, 45, 46, 47, 48, 49, 50, 51, 52, 53, 54, 55, 57, 59, 60, 61, 62, 63, 64, 65] [0, 1, 2, 3, 4, 5, 6, 7, 8, 9, 10, 11, 12, 13, 14, 15, 16, 17, 18, 19, 20, 21, 22, 23, 24, 25, 26, 27, 28, 29, 30, 31, 32, 33, 34, 35, 36, 37, 38, 39, 40, 41, 42, 43, 44, 45, 46, 47, 48, 49, 50, 51, 52, 53, 54, 55, 64, 56, 65, 57, 58, 59, 60, 61, 62, 63] rfl rfl rfl rfl (by decide) rfl rfl rfl (fun H locs hP hD hS => ?_)
  refine lv_icmp_eq (tgt := 1007) hx hb dL_law_389 (by decide) (fun _ => ?_) (fun h => absurd rfl h)
  exact cont _ _ _ _ _ _ _ _ hI2 _ _ hP hD hS ls hl
set_option maxHeartbeats 4000000 in
set_option maxRecDepth 100000 in
theorem lc_night {p : Program} {l : Launch} {e : Env} {s : State} {m : MethodId} {below : List Frame} {meth : Method} {c : Code} {G : zG} {KV : zKV} {b L : Nat} {xs : Nat → Int32} (C0 : lw_At p s m meth c b L xs) (hE : zE G s) (hZ : zS KV (zA s) s s.heap) {x3 : Int32} (hin : ∀ j : Nat, j < 7 → vp_in (x3 + nI j) L) (cont : lAt p l e s m below meth c G b x3 1007) : lAt p l e s m below meth c G b x3 394 := by
  intro a am v r t vm rm tm hI H locs hP hD hS ls hl
  obtain ⟨hx, hb, hr, hml, hown, hts0, hX, hbl, hlocks, hgv⟩ := C0
  have hts : ∀ w ∈ wsL_law, w.before #[Value.ref b] s = true := fun w h => hts0 w (wsL_law_in w h)
  have hbA : ¬ zA s b := Nat.not_le.mpr hbl
  have hA : ∀ q : Nat, s.heap.size ≤ q → zA s q := fun _ h => h
  have hC : CallFix p m c cL_law 4 s #[Value.ref b] wsL_law RL := ⟨hx, hb, hml, hown, hts⟩
  obtain ⟨R0, w0, w1, w2, z0, z1, h1, h2, hI2⟩ := pm_night v r t vm rm tm hI 
  refine lv_aload_n hx hb dL_law_394 rfl (lv_at hl 1 rfl) ?_
  refine zWi (wr := zpick (wXM G a am v r t vm rm tm) [1, 2, 3, 4, 9, 10, 11, 12, 13, 14, 15, 16, 17, 18, 23, 24, 25, 26, 27, 28, 29, 30, 31, 32, 33, 34, 35, 36, 37, 38, 39, 40, 41, 42, 43, 44, 45, 46, 47, 48, 49, 50, 51, 52, 53, 54, 55, 56, 57, 58, 59, 60, 61, 62, 63, 64, 65]) (ws2 := wXM G a am (upd (upd v 15 w0) 16 w1) (updA r 12 w2) t vm rm tm) (va_runV (As := []) (rest := []) hC (c_X8_night l G _ (a 0) (a 19) (a 5) (a 20) (a 7) (a 6) (a 21) (a 22) (a 8) (a 1) (a 3) (a 12) (a 27) (a 35) (a 43) (a 44) (a 52) (a 55) (a 23) (a 9) (a 10) t (v 15) (v 16) (v 5) (v 6) (v 7) (r 12) (r 3) (r 2) (v 17) (v 18) (r 13) (r 4) R0 w0 w1 w2 h1) (cwV 0 hts gL_law_X8_night rfl rfl rfl hd_X8_night ⟨(Nat.le_of_ble_eq_true rfl), (Nat.le_of_ble_eq_true rfl)⟩) (zPVw hE hP hD [0, 19, 5, 20, 7, 6, 21, 22, 8] rfl rfl 0 rfl rfl) rfl rfl hl.1 rfl (lv_room (Nat.le_of_ble_eq_true rfl)) dL_law_395 ⟨(Nat.le_of_ble_eq_true rfl), (Nat.le_of_ble_eq_true rfl)⟩) hP hD hS hA [0, 19, 5, 20, 7, 6, 21, 22, 8] [1, 2, 3, 4, 9, 10, 11, 12, 13, 14, 15, 16, 17, 18, 23, 24, 25, 26, 27, 28, 29, 30, 31, 32, 33, 34, 35, 36, 37, 38, 39, 40, 41, 42, 43, 44, 45, 46, 47, 48, 49, 50, 51, 52, 53, 54, 55, 56, 57, 58, 59, 60, 61, 62, 63, 64, 65] [57, 0, 1, 2, 3, 59, 62, 61, 65, 4, 5, 6, 7, 8, 9, 10, 11, 12, 13, 58, 60, 63, 64, 14, 15, 16, 17, 18, 19, 20, 21, 22, 23, 24, 25, 26, 27, 28, 29, 30, 31, 32, 33, 34, 35, 36, 37, 38, 39, 40, 41, 42, 43, 44, 45, 46, 47, 48, 49, 50, 51, 52, 53, 54, 55, 56] rfl rfl rfl rfl (by decide) rfl rfl rfl (fun H locs hP hD hS => ?_)
  refine lv_aload_n hx hb dL_law_398 rfl (lv_at hl 2 rfl) ?_
  refine zWi (wr := zpick (wXM G a am (upd (upd v 15 w0) 16 w1) (updA r 12 w2) t vm rm tm) [0, 1, 2, 3, 4, 5, 6, 7, 8, 9, 10, 11, 12, 13, 14, 15, 16, 17, 18, 19, 20, 21, 22, 23, 24, 25, 26, 27, 28, 29, 30, 31, 32, 33, 34, 35, 36, 37, 38, 39, 40, 41, 42, 43, 44, 45, 46, 47, 48, 49, 50, 51, 52, 53, 54, 55, 57, 59, 60, 62, 63, 64, 65]) (ws2 := wXM G a am (upd (upd v 15 w0) 16 w1) (updA r 12 w2) t (upd vm 0 z0) (updA rm 4 z1) tm) (va_runV (As := []) (rest := [.int R0]) hC (c_X9_night l G _ (am 0) (am 5) (am 2) (am 1) (am 3) (am 4) (am 6) (am 7) (am 8) (am 9) (vm 0) tm (vm 1) (vm 2) (vm 3) (vm 4) (vm 5) (vm 6) (vm 7) (vm 8) (vm 9) (vm 10) (vm 11) (vm 12) (vm 13) (vm 14) (vm 15) (rm 4) (rm 1) R0 z0 z1 h2) (cwV 0 hts gL_law_X9_night rfl rfl rfl hd_X9_night ⟨(Nat.le_of_ble_eq_true rfl), (Nat.le_of_ble_eq_true rfl)⟩) (zPVw hE hP hD [56, 61, 58] rfl rfl 56 rfl rfl) rfl rfl hl.1 rfl (lv_room (Nat.le_of_ble_eq_true rfl)) dL_law_399 ⟨(Nat.le_of_ble_eq_true rfl), (Nat.le_of_ble_eq_true rfl)⟩) hP hD hS hA [56, 61, 58] [0, 1, 2, 3, 4, 5, 6, 7, 8, 9, 10, 11, 12, 13, 14, 15, 16, 17, 18, 19, 20, 21, 22, 23, 24, 25, 26, 27, 28, 29, 30, 31, 32, 33, 34, 35, 36, 37, 38, 39, 40, 41, 42, 43, 44, 45, 46, 47, 48, 49, 50, 51, 52, 53, 54, 55, 57, 59, 60, 62, 63, 64, 65] [0, 1, 2, 3, 4, 5, 6, 7, 8, 9, 10, 11, 12, 13, 14, 15, 16, 17, 18, 19, 20, 21, 22, 23, 24, 25, 26, 27, 28, 29, 30, 31, 32, 33, 34, 35, 36, 37, 38, 39, 40, 41, 42, 43, 44, 45, 46, 47, 48, 49, 50, 51, 52, 53, 54, 55, 63, 56, 65, 57, 58, 64, 59, 60, 61, 62] rfl rfl rfl rfl (by decide) rfl rfl rfl (fun H locs hP hD hS => ?_)
  refine lv_icmp_eq (tgt := 1007) hx hb dL_law_402 (by decide) (fun _ => ?_) (fun h => absurd rfl h)
  exact cont _ _ _ _ _ _ _ _ hI2 _ _ hP hD hS ls hl
set_option maxHeartbeats 4000000 in
set_option maxRecDepth 100000 in
theorem lc_purse {p : Program} {l : Launch} {e : Env} {s : State} {m : MethodId} {below : List Frame} {meth : Method} {c : Code} {G : zG} {KV : zKV} {b L : Nat} {xs : Nat → Int32} (C0 : lw_At p s m meth c b L xs) (hE : zE G s) (hZ : zS KV (zA s) s s.heap) {x3 : Int32} (hin : ∀ j : Nat, j < 7 → vp_in (x3 + nI j) L) (cont : lAt p l e s m below meth c G b x3 1007) : lAt p l e s m below meth c G b x3 407 := by
  intro a am v r t vm rm tm hI H locs hP hD hS ls hl
  obtain ⟨hx, hb, hr, hml, hown, hts0, hX, hbl, hlocks, hgv⟩ := C0
  have hts : ∀ w ∈ wsL_law, w.before #[Value.ref b] s = true := fun w h => hts0 w (wsL_law_in w h)
  have hbA : ¬ zA s b := Nat.not_le.mpr hbl
  have hA : ∀ q : Nat, s.heap.size ≤ q → zA s q := fun _ h => h
  have hC : CallFix p m c cL_law 4 s #[Value.ref b] wsL_law RL := ⟨hx, hb, hml, hown, hts⟩
  obtain ⟨p1, hp1⟩ : ∃ y : Int32, xs (x3 + (1 : Int32)).toNatClampNeg = y := ⟨_, rfl⟩
  obtain ⟨R0, z0, h1, h2, hI2⟩ := pm_purse v r t vm rm tm hI (p1)
  refine lv_aload_n hx hb dL_law_407 rfl (lv_at hl 1 rfl) ?_
  refine lv_aload_n hx hb dL_law_408 rfl (lv_at hl 0 rfl) ?_
  refine lv_iload_n hx hb dL_law_409 rfl (lv_at hl 3 rfl) ?_
  refine lv_iconst (v := (1 : Int32)) hx hb dL_law_410 (by decide) ?_
  refine lv_iadd hx hb dL_law_411 ?_
  refine z_sld (v := p1) hx hb hX hbl hbA hS (hin 1 (by decide)) hp1 dL_law_412 ?_
  refine zRi (va_runV (As := [.int p1]) (rest := []) hC (c_X8_purse l G (a 0) (a 5) (a 19) (a 20) (a 1) (a 3) (a 12) (a 27) (a 35) (a 43) (a 44) (a 52) (a 55) (a 6) (a 7) (a 8) (a 9) (a 10) (a 21) (a 23) t (v 5) (v 6) (v 7) (v 15) (v 16) (r 12) (p1) R0 h1) (cwV 1 hts gL_law_X8_purse rfl rfl rfl hd_X8_purse ⟨(Nat.le_of_ble_eq_true rfl), (Nat.le_of_ble_eq_true rfl)⟩) (zPV hE hP [0, 5, 19, 20] rfl 0 rfl rfl) rfl rfl hl.1 rfl (lv_room (Nat.le_of_ble_eq_true rfl)) dL_law_413 ⟨(Nat.le_of_ble_eq_true rfl), (Nat.le_of_ble_eq_true rfl)⟩) ?_
  refine lv_aload_n hx hb dL_law_416 rfl (lv_at hl 2 rfl) ?_
  refine lv_aload_n hx hb dL_law_417 rfl (lv_at hl 0 rfl) ?_
  refine lv_iload_n hx hb dL_law_418 rfl (lv_at hl 3 rfl) ?_
  refine lv_iconst (v := (1 : Int32)) hx hb dL_law_419 (by decide) ?_
  refine lv_iadd hx hb dL_law_420 ?_
  refine z_sld (v := p1) hx hb hX hbl hbA hS (hin 1 (by decide)) hp1 dL_law_421 ?_
  refine zWi (wr := zpick (wXM G a am v r t vm rm tm) [0, 1, 2, 3, 4, 5, 6, 7, 8, 9, 10, 11, 12, 13, 14, 15, 16, 17, 18, 19, 20, 21, 22, 23, 24, 25, 26, 27, 28, 29, 30, 31, 32, 33, 34, 35, 36, 37, 38, 39, 40, 41, 42, 43, 44, 45, 46, 47, 48, 49, 50, 51, 52, 53, 54, 55, 57, 58, 59, 60, 62, 63, 64, 65]) (ws2 := wXM G a am v r t (upd vm 0 z0) rm tm) (va_runV (As := [.int p1]) (rest := [.int R0]) hC (c_X9_purse l G _ (am 0) (am 5) (am 1) (am 2) (am 3) (am 4) (am 6) (am 7) (am 8) (am 9) (vm 0) tm (vm 1) (vm 2) (vm 3) (vm 4) (vm 5) (vm 6) (vm 7) (vm 8) (vm 9) (vm 10) (vm 11) (vm 12) (vm 13) (vm 14) (vm 15) (rm 4) (p1) R0 z0 h2) (cwV 1 hts gL_law_X9_purse rfl rfl rfl hd_X9_purse ⟨(Nat.le_of_ble_eq_true rfl), (Nat.le_of_ble_eq_true rfl)⟩) (zPVw hE hP hD [56, 61] rfl rfl 56 rfl rfl) rfl rfl hl.1 rfl (lv_room (Nat.le_of_ble_eq_true rfl)) dL_law_422 ⟨(Nat.le_of_ble_eq_true rfl), (Nat.le_of_ble_eq_true rfl)⟩) hP hD hS hA [56, 61] [0, 1, 2, 3, 4, 5, 6, 7, 8, 9, 10, 11, 12, 13, 14, 15, 16, 17, 18, 19, 20, 21, 22, 23, 24, 25, 26, 27, 28, 29, 30, 31, 32, 33, 34, 35, 36, 37, 38, 39, 40, 41, 42, 43, 44, 45, 46, 47, 48, 49, 50, 51, 52, 53, 54, 55, 57, 58, 59, 60, 62, 63, 64, 65] [0, 1, 2, 3, 4, 5, 6, 7, 8, 9, 10, 11, 12, 13, 14, 15, 16, 17, 18, 19, 20, 21, 22, 23, 24, 25, 26, 27, 28, 29, 30, 31, 32, 33, 34, 35, 36, 37, 38, 39, 40, 41, 42, 43, 44, 45, 46, 47, 48, 49, 50, 51, 52, 53, 54, 55, 64, 56, 57, 58, 59, 65, 60, 61, 62, 63] rfl rfl rfl rfl (by decide) rfl rfl rfl (fun H locs hP hD hS => ?_)
  refine lv_icmp_eq (tgt := 1007) hx hb dL_law_425 (by decide) (fun _ => ?_) (fun h => absurd rfl h)
  exact cont _ _ _ _ _ _ _ _ hI2 _ _ hP hD hS ls hl
set_option maxHeartbeats 4000000 in
set_option maxRecDepth 100000 in
theorem lc_begins {p : Program} {l : Launch} {e : Env} {s : State} {m : MethodId} {below : List Frame} {meth : Method} {c : Code} {G : zG} {KV : zKV} {b L : Nat} {xs : Nat → Int32} (C0 : lw_At p s m meth c b L xs) (hE : zE G s) (hZ : zS KV (zA s) s s.heap) {x3 : Int32} (hin : ∀ j : Nat, j < 7 → vp_in (x3 + nI j) L) (cont : lAt p l e s m below meth c G b x3 1007) : lAt p l e s m below meth c G b x3 430 := by
  intro a am v r t vm rm tm hI H locs hP hD hS ls hl
  obtain ⟨hx, hb, hr, hml, hown, hts0, hX, hbl, hlocks, hgv⟩ := C0
  have hts : ∀ w ∈ wsL_law, w.before #[Value.ref b] s = true := fun w h => hts0 w (wsL_law_in w h)
  have hbA : ¬ zA s b := Nat.not_le.mpr hbl
  have hA : ∀ q : Nat, s.heap.size ≤ q → zA s q := fun _ h => h
  have hC : CallFix p m c cL_law 4 s #[Value.ref b] wsL_law RL := ⟨hx, hb, hml, hown, hts⟩
  obtain ⟨p1, hp1⟩ : ∃ y : Int32, xs (x3 + (1 : Int32)).toNatClampNeg = y := ⟨_, rfl⟩
  obtain ⟨p2, hp2⟩ : ∃ y : Int32, xs (x3 + (2 : Int32)).toNatClampNeg = y := ⟨_, rfl⟩
  obtain ⟨p3, hp3⟩ : ∃ y : Int32, xs (x3 + (3 : Int32)).toNatClampNeg = y := ⟨_, rfl⟩
  obtain ⟨p4, hp4⟩ : ∃ y : Int32, xs (x3 + (4 : Int32)).toNatClampNeg = y := ⟨_, rfl⟩
  obtain ⟨p5, hp5⟩ : ∃ y : Int32, xs (x3 + (5 : Int32)).toNatClampNeg = y := ⟨_, rfl⟩
  obtain ⟨R0, w0, w1, w2, w3, w4, z0, z1, h1, h2, hI2⟩ := pm_begins v r t vm rm tm hI (p1) (p2) (p3) (p4) (p5)
  refine lv_aload_n hx hb dL_law_430 rfl (lv_at hl 1 rfl) ?_
  refine lv_aload_n hx hb dL_law_431 rfl (lv_at hl 0 rfl) ?_
  refine lv_iload_n hx hb dL_law_432 rfl (lv_at hl 3 rfl) ?_
  refine lv_iconst (v := (1 : Int32)) hx hb dL_law_433 (by decide) ?_
  refine lv_iadd hx hb dL_law_434 ?_
  refine z_sld (v := p1) hx hb hX hbl hbA hS (hin 1 (by decide)) hp1 dL_law_435 ?_
  refine lv_aload_n hx hb dL_law_436 rfl (lv_at hl 0 rfl) ?_
  refine lv_iload_n hx hb dL_law_437 rfl (lv_at hl 3 rfl) ?_
  refine lv_iconst (v := (2 : Int32)) hx hb dL_law_438 (by decide) ?_
  refine lv_iadd hx hb dL_law_439 ?_
  refine z_sld (v := p2) hx hb hX hbl hbA hS (hin 2 (by decide)) hp2 dL_law_440 ?_
  refine lv_aload_n hx hb dL_law_441 rfl (lv_at hl 0 rfl) ?_
  refine lv_iload_n hx hb dL_law_442 rfl (lv_at hl 3 rfl) ?_
  refine lv_iconst (v := (3 : Int32)) hx hb dL_law_443 (by decide) ?_
  refine lv_iadd hx hb dL_law_444 ?_
  refine z_sld (v := p3) hx hb hX hbl hbA hS (hin 3 (by decide)) hp3 dL_law_445 ?_
  refine lv_aload_n hx hb dL_law_446 rfl (lv_at hl 0 rfl) ?_
  refine lv_iload_n hx hb dL_law_447 rfl (lv_at hl 3 rfl) ?_
  refine lv_iconst (v := (4 : Int32)) hx hb dL_law_448 (by decide) ?_
  refine lv_iadd hx hb dL_law_449 ?_
  refine z_sld (v := p4) hx hb hX hbl hbA hS (hin 4 (by decide)) hp4 dL_law_450 ?_
  refine lv_aload_n hx hb dL_law_451 rfl (lv_at hl 0 rfl) ?_
  refine lv_iload_n hx hb dL_law_452 rfl (lv_at hl 3 rfl) ?_
  refine lv_iconst (v := (5 : Int32)) hx hb dL_law_453 (by decide) ?_
  refine lv_iadd hx hb dL_law_454 ?_
  refine z_sld (v := p5) hx hb hX hbl hbA hS (hin 5 (by decide)) hp5 dL_law_455 ?_
  refine zWi (wr := zpick (wXM G a am v r t vm rm tm) [1, 2, 3, 4, 6, 7, 8, 9, 10, 11, 12, 13, 14, 15, 16, 17, 18, 20, 27, 28, 29, 30, 31, 32, 33, 34, 35, 36, 37, 38, 39, 40, 41, 42, 43, 44, 45, 46, 47, 48, 49, 50, 51, 52, 53, 54, 55, 56, 57, 58, 59, 60, 61, 62, 63, 64, 65]) (ws2 := wXM G a am (upd (upd v 18 w0) 20 w2) (updA (updA (updA r 13 w1) 14 w3) 15 w4) t vm rm tm) (va_runV (As := [.int p1, .int p2, .int p3, .int p4, .int p5]) (rest := []) hC (c_X8_begins l G _ (a 0) (a 5) (a 19) (a 21) (a 22) (a 23) (a 24) (a 25) (a 26) (a 1) (a 3) (a 12) (a 27) (a 35) (a 43) (a 44) (a 52) (a 55) (a 6) (a 7) (a 8) (a 9) (a 10) (a 20) t (v 5) (v 6) (v 7) (v 15) (v 16) (v 17) (v 18) (r 13) (v 19) (v 20) (r 14) (r 15) (p1) (p2) (p3) (p4) (p5) R0 w0 w1 w2 w3 w4 h1) (cwV 5 hts gL_law_X8_begins rfl rfl rfl hd_X8_begins ⟨(Nat.le_of_ble_eq_true rfl), (Nat.le_of_ble_eq_true rfl)⟩) (zPVw hE hP hD [0, 5, 19, 21, 22, 23, 24, 25, 26] rfl rfl 0 rfl rfl) rfl rfl hl.1 rfl (lv_room (Nat.le_of_ble_eq_true rfl)) dL_law_456 ⟨(Nat.le_of_ble_eq_true rfl), (Nat.le_of_ble_eq_true rfl)⟩) hP hD hS hA [0, 5, 19, 21, 22, 23, 24, 25, 26] [1, 2, 3, 4, 6, 7, 8, 9, 10, 11, 12, 13, 14, 15, 16, 17, 18, 20, 27, 28, 29, 30, 31, 32, 33, 34, 35, 36, 37, 38, 39, 40, 41, 42, 43, 44, 45, 46, 47, 48, 49, 50, 51, 52, 53, 54, 55, 56, 57, 58, 59, 60, 61, 62, 63, 64, 65] [57, 0, 1, 2, 3, 58, 4, 5, 6, 7, 8, 9, 10, 11, 12, 13, 14, 15, 16, 59, 17, 60, 61, 62, 63, 64, 65, 18, 19, 20, 21, 22, 23, 24, 25, 26, 27, 28, 29, 30, 31, 32, 33, 34, 35, 36, 37, 38, 39, 40, 41, 42, 43, 44, 45, 46, 47, 48, 49, 50, 51, 52, 53, 54, 55, 56] rfl rfl rfl rfl (by decide) rfl rfl rfl (fun H locs hP hD hS => ?_)
  refine lv_aload_n hx hb dL_law_459 rfl (lv_at hl 2 rfl) ?_
  refine lv_aload_n hx hb dL_law_460 rfl (lv_at hl 0 rfl) ?_
  refine lv_iload_n hx hb dL_law_461 rfl (lv_at hl 3 rfl) ?_
  refine lv_iconst (v := (1 : Int32)) hx hb dL_law_462 (by decide) ?_
  refine lv_iadd hx hb dL_law_463 ?_
  refine z_sld (v := p1) hx hb hX hbl hbA hS (hin 1 (by decide)) hp1 dL_law_464 ?_
  refine lv_aload_n hx hb dL_law_465 rfl (lv_at hl 0 rfl) ?_
  refine lv_iload_n hx hb dL_law_466 rfl (lv_at hl 3 rfl) ?_
  refine lv_iconst (v := (2 : Int32)) hx hb dL_law_467 (by decide) ?_
  refine lv_iadd hx hb dL_law_468 ?_
  refine z_sld (v := p2) hx hb hX hbl hbA hS (hin 2 (by decide)) hp2 dL_law_469 ?_
  refine lv_aload_n hx hb dL_law_470 rfl (lv_at hl 0 rfl) ?_
  refine lv_iload_n hx hb dL_law_471 rfl (lv_at hl 3 rfl) ?_
  refine lv_iconst (v := (3 : Int32)) hx hb dL_law_472 (by decide) ?_
  refine lv_iadd hx hb dL_law_473 ?_
  refine z_sld (v := p3) hx hb hX hbl hbA hS (hin 3 (by decide)) hp3 dL_law_474 ?_
  refine lv_aload_n hx hb dL_law_475 rfl (lv_at hl 0 rfl) ?_
  refine lv_iload_n hx hb dL_law_476 rfl (lv_at hl 3 rfl) ?_
  refine lv_iconst (v := (4 : Int32)) hx hb dL_law_477 (by decide) ?_
  refine lv_iadd hx hb dL_law_478 ?_
  refine z_sld (v := p4) hx hb hX hbl hbA hS (hin 4 (by decide)) hp4 dL_law_479 ?_
  refine lv_aload_n hx hb dL_law_480 rfl (lv_at hl 0 rfl) ?_
  refine lv_iload_n hx hb dL_law_481 rfl (lv_at hl 3 rfl) ?_
  refine lv_iconst (v := (5 : Int32)) hx hb dL_law_482 (by decide) ?_
  refine lv_iadd hx hb dL_law_483 ?_
  refine z_sld (v := p5) hx hb hX hbl hbA hS (hin 5 (by decide)) hp5 dL_law_484 ?_
  refine zWi (wr := zpick (wXM G a am (upd (upd v 18 w0) 20 w2) (updA (updA (updA r 13 w1) 14 w3) 15 w4) t vm rm tm) [0, 1, 2, 3, 4, 5, 6, 7, 8, 9, 10, 11, 12, 13, 14, 15, 16, 17, 18, 19, 20, 21, 22, 23, 24, 25, 26, 27, 28, 29, 30, 31, 32, 33, 34, 35, 36, 37, 38, 39, 40, 41, 42, 43, 44, 45, 46, 47, 48, 49, 50, 51, 52, 53, 54, 55, 57, 58, 59, 60, 62, 63, 64, 65]) (ws2 := wXM G a am (upd (upd v 18 w0) 20 w2) (updA (updA (updA r 13 w1) 14 w3) 15 w4) t (upd vm 0 z0) (updA rm 4 z1) tm) (va_runV (As := [.int p1, .int p2, .int p3, .int p4, .int p5]) (rest := [.int R0]) hC (c_X9_begins l G _ (am 0) (am 5) (am 1) (am 2) (am 3) (am 4) (am 6) (am 7) (am 8) (am 9) (vm 0) tm (vm 1) (vm 2) (vm 3) (vm 4) (vm 5) (vm 6) (vm 7) (vm 8) (vm 9) (vm 10) (vm 11) (vm 12) (vm 13) (vm 14) (vm 15) (rm 4) (p1) (p2) (p3) (p4) (p5) R0 z0 z1 h2) (cwV 5 hts gL_law_X9_begins rfl rfl rfl hd_X9_begins ⟨(Nat.le_of_ble_eq_true rfl), (Nat.le_of_ble_eq_true rfl)⟩) (zPVw hE hP hD [56, 61] rfl rfl 56 rfl rfl) rfl rfl hl.1 rfl (lv_room (Nat.le_of_ble_eq_true rfl)) dL_law_485 ⟨(Nat.le_of_ble_eq_true rfl), (Nat.le_of_ble_eq_true rfl)⟩) hP hD hS hA [56, 61] [0, 1, 2, 3, 4, 5, 6, 7, 8, 9, 10, 11, 12, 13, 14, 15, 16, 17, 18, 19, 20, 21, 22, 23, 24, 25, 26, 27, 28, 29, 30, 31, 32, 33, 34, 35, 36, 37, 38, 39, 40, 41, 42, 43, 44, 45, 46, 47, 48, 49, 50, 51, 52, 53, 54, 55, 57, 58, 59, 60, 62, 63, 64, 65] [0, 1, 2, 3, 4, 5, 6, 7, 8, 9, 10, 11, 12, 13, 14, 15, 16, 17, 18, 19, 20, 21, 22, 23, 24, 25, 26, 27, 28, 29, 30, 31, 32, 33, 34, 35, 36, 37, 38, 39, 40, 41, 42, 43, 44, 45, 46, 47, 48, 49, 50, 51, 52, 53, 54, 55, 64, 56, 57, 58, 59, 65, 60, 61, 62, 63] rfl rfl rfl rfl (by decide) rfl rfl rfl (fun H locs hP hD hS => ?_)
  refine lv_icmp_eq (tgt := 1007) hx hb dL_law_488 (by decide) (fun _ => ?_) (fun h => absurd rfl h)
  exact cont _ _ _ _ _ _ _ _ hI2 _ _ hP hD hS ls hl
set_option maxHeartbeats 4000000 in
set_option maxRecDepth 100000 in
theorem lc_ends {p : Program} {l : Launch} {e : Env} {s : State} {m : MethodId} {below : List Frame} {meth : Method} {c : Code} {G : zG} {KV : zKV} {b L : Nat} {xs : Nat → Int32} (C0 : lw_At p s m meth c b L xs) (hE : zE G s) (hZ : zS KV (zA s) s s.heap) {x3 : Int32} (hin : ∀ j : Nat, j < 7 → vp_in (x3 + nI j) L) (cont : lAt p l e s m below meth c G b x3 1007) : lAt p l e s m below meth c G b x3 493 := by
  intro a am v r t vm rm tm hI H locs hP hD hS ls hl
  obtain ⟨hx, hb, hr, hml, hown, hts0, hX, hbl, hlocks, hgv⟩ := C0
  have hts : ∀ w ∈ wsL_law, w.before #[Value.ref b] s = true := fun w h => hts0 w (wsL_law_in w h)
  have hbA : ¬ zA s b := Nat.not_le.mpr hbl
  have hA : ∀ q : Nat, s.heap.size ≤ q → zA s q := fun _ h => h
  have hC : CallFix p m c cL_law 4 s #[Value.ref b] wsL_law RL := ⟨hx, hb, hml, hown, hts⟩
  obtain ⟨p1, hp1⟩ : ∃ y : Int32, xs (x3 + (1 : Int32)).toNatClampNeg = y := ⟨_, rfl⟩
  obtain ⟨R0, w0, w1, w2, w3, w4, z0, z1, h1, h2, hI2⟩ := pm_ends v r t vm rm tm hI (p1)
  refine lv_aload_n hx hb dL_law_493 rfl (lv_at hl 1 rfl) ?_
  refine lv_aload_n hx hb dL_law_494 rfl (lv_at hl 0 rfl) ?_
  refine lv_iload_n hx hb dL_law_495 rfl (lv_at hl 3 rfl) ?_
  refine lv_iconst (v := (1 : Int32)) hx hb dL_law_496 (by decide) ?_
  refine lv_iadd hx hb dL_law_497 ?_
  refine z_sld (v := p1) hx hb hX hbl hbA hS (hin 1 (by decide)) hp1 dL_law_498 ?_
  refine zWi (wr := zpick (wXM G a am v r t vm rm tm) [1, 2, 3, 4, 5, 6, 7, 8, 9, 10, 11, 12, 13, 14, 15, 16, 17, 18, 20, 27, 28, 29, 30, 31, 32, 33, 34, 35, 36, 37, 38, 39, 40, 41, 42, 43, 44, 45, 46, 47, 48, 49, 50, 51, 52, 53, 54, 55, 56, 57, 58, 59, 60, 61, 62, 63, 64, 65]) (ws2 := wXM G a am (upd (upd v 18 w0) 20 w1) (updA (updA (updA r 14 w2) 15 w3) 13 w4) t vm rm tm) (va_runV (As := [.int p1]) (rest := []) hC (c_X8_ends l G _ (a 0) (a 19) (a 21) (a 23) (a 24) (a 25) (a 26) (a 22) (a 1) (a 3) (a 5) (a 12) (a 27) (a 35) (a 43) (a 44) (a 52) (a 55) (a 20) t (v 15) (v 16) (v 17) (v 18) (v 19) (v 20) (r 14) (r 15) (r 13) (p1) R0 w0 w1 w2 w3 w4 h1) (cwV 1 hts gL_law_X8_ends rfl rfl rfl hd_X8_ends ⟨(Nat.le_of_ble_eq_true rfl), (Nat.le_of_ble_eq_true rfl)⟩) (zPVw hE hP hD [0, 19, 21, 23, 24, 25, 26, 22] rfl rfl 0 rfl rfl) rfl rfl hl.1 rfl (lv_room (Nat.le_of_ble_eq_true rfl)) dL_law_499 ⟨(Nat.le_of_ble_eq_true rfl), (Nat.le_of_ble_eq_true rfl)⟩) hP hD hS hA [0, 19, 21, 23, 24, 25, 26, 22] [1, 2, 3, 4, 5, 6, 7, 8, 9, 10, 11, 12, 13, 14, 15, 16, 17, 18, 20, 27, 28, 29, 30, 31, 32, 33, 34, 35, 36, 37, 38, 39, 40, 41, 42, 43, 44, 45, 46, 47, 48, 49, 50, 51, 52, 53, 54, 55, 56, 57, 58, 59, 60, 61, 62, 63, 64, 65] [58, 0, 1, 2, 3, 4, 5, 6, 7, 8, 9, 10, 11, 12, 13, 14, 15, 16, 17, 59, 18, 60, 65, 61, 62, 63, 64, 19, 20, 21, 22, 23, 24, 25, 26, 27, 28, 29, 30, 31, 32, 33, 34, 35, 36, 37, 38, 39, 40, 41, 42, 43, 44, 45, 46, 47, 48, 49, 50, 51, 52, 53, 54, 55, 56, 57] rfl rfl rfl rfl (by decide) rfl rfl rfl (fun H locs hP hD hS => ?_)
  refine lv_aload_n hx hb dL_law_502 rfl (lv_at hl 2 rfl) ?_
  refine lv_aload_n hx hb dL_law_503 rfl (lv_at hl 0 rfl) ?_
  refine lv_iload_n hx hb dL_law_504 rfl (lv_at hl 3 rfl) ?_
  refine lv_iconst (v := (1 : Int32)) hx hb dL_law_505 (by decide) ?_
  refine lv_iadd hx hb dL_law_506 ?_
  refine z_sld (v := p1) hx hb hX hbl hbA hS (hin 1 (by decide)) hp1 dL_law_507 ?_
  refine zWi (wr := zpick (wXM G a am (upd (upd v 18 w0) 20 w1) (updA (updA (updA r 14 w2) 15 w3) 13 w4) t vm rm tm) [0, 1, 2, 3, 4, 5, 6, 7, 8, 9, 10, 11, 12, 13, 14, 15, 16, 17, 18, 19, 20, 21, 22, 23, 24, 25, 26, 27, 28, 29, 30, 31, 32, 33, 34, 35, 36, 37, 38, 39, 40, 41, 42, 43, 44, 45, 46, 47, 48, 49, 50, 51, 52, 53, 54, 55, 57, 58, 59, 60, 62, 63, 64, 65]) (ws2 := wXM G a am (upd (upd v 18 w0) 20 w1) (updA (updA (updA r 14 w2) 15 w3) 13 w4) t (upd vm 0 z0) (updA rm 4 z1) tm) (va_runV (As := [.int p1]) (rest := [.int R0]) hC (c_X9_ends l G _ (am 0) (am 5) (am 1) (am 2) (am 3) (am 4) (am 6) (am 7) (am 8) (am 9) (vm 0) tm (vm 1) (vm 2) (vm 3) (vm 4) (vm 5) (vm 6) (vm 7) (vm 8) (vm 9) (vm 10) (vm 11) (vm 12) (vm 13) (vm 14) (vm 15) (rm 4) (p1) R0 z0 z1 h2) (cwV 1 hts gL_law_X9_ends rfl rfl rfl hd_X9_ends ⟨(Nat.le_of_ble_eq_true rfl), (Nat.le_of_ble_eq_true rfl)⟩) (zPVw hE hP hD [56, 61] rfl rfl 56 rfl rfl) rfl rfl hl.1 rfl (lv_room (Nat.le_of_ble_eq_true rfl)) dL_law_508 ⟨(Nat.le_of_ble_eq_true rfl), (Nat.le_of_ble_eq_true rfl)⟩) hP hD hS hA [56, 61] [0, 1, 2, 3, 4, 5, 6, 7, 8, 9, 10, 11, 12, 13, 14, 15, 16, 17, 18, 19, 20, 21, 22, 23, 24, 25, 26, 27, 28, 29, 30, 31, 32, 33, 34, 35, 36, 37, 38, 39, 40, 41, 42, 43, 44, 45, 46, 47, 48, 49, 50, 51, 52, 53, 54, 55, 57, 58, 59, 60, 62, 63, 64, 65] [0, 1, 2, 3, 4, 5, 6, 7, 8, 9, 10, 11, 12, 13, 14, 15, 16, 17, 18, 19, 20, 21, 22, 23, 24, 25, 26, 27, 28, 29, 30, 31, 32, 33, 34, 35, 36, 37, 38, 39, 40, 41, 42, 43, 44, 45, 46, 47, 48, 49, 50, 51, 52, 53, 54, 55, 64, 56, 57, 58, 59, 65, 60, 61, 62, 63] rfl rfl rfl rfl (by decide) rfl rfl rfl (fun H locs hP hD hS => ?_)
  refine lv_icmp_eq (tgt := 1007) hx hb dL_law_511 (by decide) (fun _ => ?_) (fun h => absurd rfl h)
  exact cont _ _ _ _ _ _ _ _ hI2 _ _ hP hD hS ls hl
set_option maxHeartbeats 4000000 in
set_option maxRecDepth 100000 in
theorem lc_undo {p : Program} {l : Launch} {e : Env} {s : State} {m : MethodId} {below : List Frame} {meth : Method} {c : Code} {G : zG} {KV : zKV} {b L : Nat} {xs : Nat → Int32} (C0 : lw_At p s m meth c b L xs) (hE : zE G s) (hZ : zS KV (zA s) s s.heap) {x3 : Int32} (hin : ∀ j : Nat, j < 7 → vp_in (x3 + nI j) L) (cont : lAt p l e s m below meth c G b x3 1007) : lAt p l e s m below meth c G b x3 516 := by
  intro a am v r t vm rm tm hI H locs hP hD hS ls hl
  obtain ⟨hx, hb, hr, hml, hown, hts0, hX, hbl, hlocks, hgv⟩ := C0
  have hts : ∀ w ∈ wsL_law, w.before #[Value.ref b] s = true := fun w h => hts0 w (wsL_law_in w h)
  have hbA : ¬ zA s b := Nat.not_le.mpr hbl
  have hA : ∀ q : Nat, s.heap.size ≤ q → zA s q := fun _ h => h
  have hC : CallFix p m c cL_law 4 s #[Value.ref b] wsL_law RL := ⟨hx, hb, hml, hown, hts⟩
  obtain ⟨R0, w0, w1, w2, w3, z0, z1, h1, h2, hI2⟩ := pm_undo v r t vm rm tm hI 
  refine lv_aload_n hx hb dL_law_516 rfl (lv_at hl 1 rfl) ?_
  refine zWi (wr := zpick (wXM G a am v r t vm rm tm) [1, 2, 3, 4, 5, 6, 7, 8, 9, 10, 11, 12, 13, 14, 15, 16, 17, 18, 20, 27, 28, 29, 30, 31, 32, 33, 34, 35, 36, 37, 38, 39, 40, 41, 42, 43, 44, 45, 46, 47, 48, 49, 50, 51, 52, 53, 54, 55, 56, 57, 58, 59, 60, 61, 62, 63, 64, 65]) (ws2 := wXM G a am (upd (upd v 20 w0) 18 w1) (updA (updA r 13 w2) 14 w3) t vm rm tm) (va_runV (As := []) (rest := []) hC (c_X8_undo l G _ (a 0) (a 19) (a 23) (a 24) (a 21) (a 26) (a 22) (a 25) (a 1) (a 3) (a 5) (a 12) (a 27) (a 35) (a 43) (a 44) (a 52) (a 55) (a 20) t (v 15) (v 16) (v 19) (v 20) (v 17) (v 18) (r 15) (r 13) (r 14) R0 w0 w1 w2 w3 h1) (cwV 0 hts gL_law_X8_undo rfl rfl rfl hd_X8_undo ⟨(Nat.le_of_ble_eq_true rfl), (Nat.le_of_ble_eq_true rfl)⟩) (zPVw hE hP hD [0, 19, 23, 24, 21, 26, 22, 25] rfl rfl 0 rfl rfl) rfl rfl hl.1 rfl (lv_room (Nat.le_of_ble_eq_true rfl)) dL_law_517 ⟨(Nat.le_of_ble_eq_true rfl), (Nat.le_of_ble_eq_true rfl)⟩) hP hD hS hA [0, 19, 23, 24, 21, 26, 22, 25] [1, 2, 3, 4, 5, 6, 7, 8, 9, 10, 11, 12, 13, 14, 15, 16, 17, 18, 20, 27, 28, 29, 30, 31, 32, 33, 34, 35, 36, 37, 38, 39, 40, 41, 42, 43, 44, 45, 46, 47, 48, 49, 50, 51, 52, 53, 54, 55, 56, 57, 58, 59, 60, 61, 62, 63, 64, 65] [58, 0, 1, 2, 3, 4, 5, 6, 7, 8, 9, 10, 11, 12, 13, 14, 15, 16, 17, 59, 18, 62, 64, 60, 61, 65, 63, 19, 20, 21, 22, 23, 24, 25, 26, 27, 28, 29, 30, 31, 32, 33, 34, 35, 36, 37, 38, 39, 40, 41, 42, 43, 44, 45, 46, 47, 48, 49, 50, 51, 52, 53, 54, 55, 56, 57] rfl rfl rfl rfl (by decide) rfl rfl rfl (fun H locs hP hD hS => ?_)
  refine lv_aload_n hx hb dL_law_520 rfl (lv_at hl 2 rfl) ?_
  refine zWi (wr := zpick (wXM G a am (upd (upd v 20 w0) 18 w1) (updA (updA r 13 w2) 14 w3) t vm rm tm) [0, 1, 2, 3, 4, 5, 6, 7, 8, 9, 10, 11, 12, 13, 14, 15, 16, 17, 18, 19, 20, 21, 22, 23, 24, 25, 26, 27, 28, 29, 30, 31, 32, 33, 34, 35, 36, 37, 38, 39, 40, 41, 42, 43, 44, 45, 46, 47, 48, 49, 50, 51, 52, 53, 54, 55, 57, 58, 59, 60, 62, 63, 64, 65]) (ws2 := wXM G a am (upd (upd v 20 w0) 18 w1) (updA (updA r 13 w2) 14 w3) t (upd vm 0 z0) (updA rm 4 z1) tm) (va_runV (As := []) (rest := [.int R0]) hC (c_X9_undo l G _ (am 0) (am 5) (am 1) (am 2) (am 3) (am 4) (am 6) (am 7) (am 8) (am 9) (vm 0) tm (vm 1) (vm 2) (vm 3) (vm 4) (vm 5) (vm 6) (vm 7) (vm 8) (vm 9) (vm 10) (vm 11) (vm 12) (vm 13) (vm 14) (vm 15) (rm 4) R0 z0 z1 h2) (cwV 0 hts gL_law_X9_undo rfl rfl rfl hd_X9_undo ⟨(Nat.le_of_ble_eq_true rfl), (Nat.le_of_ble_eq_true rfl)⟩) (zPVw hE hP hD [56, 61] rfl rfl 56 rfl rfl) rfl rfl hl.1 rfl (lv_room (Nat.le_of_ble_eq_true rfl)) dL_law_521 ⟨(Nat.le_of_ble_eq_true rfl), (Nat.le_of_ble_eq_true rfl)⟩) hP hD hS hA [56, 61] [0, 1, 2, 3, 4, 5, 6, 7, 8, 9, 10, 11, 12, 13, 14, 15, 16, 17, 18, 19, 20, 21, 22, 23, 24, 25, 26, 27, 28, 29, 30, 31, 32, 33, 34, 35, 36, 37, 38, 39, 40, 41, 42, 43, 44, 45, 46, 47, 48, 49, 50, 51, 52, 53, 54, 55, 57, 58, 59, 60, 62, 63, 64, 65] [0, 1, 2, 3, 4, 5, 6, 7, 8, 9, 10, 11, 12, 13, 14, 15, 16, 17, 18, 19, 20, 21, 22, 23, 24, 25, 26, 27, 28, 29, 30, 31, 32, 33, 34, 35, 36, 37, 38, 39, 40, 41, 42, 43, 44, 45, 46, 47, 48, 49, 50, 51, 52, 53, 54, 55, 64, 56, 57, 58, 59, 65, 60, 61, 62, 63] rfl rfl rfl rfl (by decide) rfl rfl rfl (fun H locs hP hD hS => ?_)
  refine lv_icmp_eq (tgt := 1007) hx hb dL_law_524 (by decide) (fun _ => ?_) (fun h => absurd rfl h)
  exact cont _ _ _ _ _ _ _ _ hI2 _ _ hP hD hS ls hl
set_option maxHeartbeats 4000000 in
set_option maxRecDepth 100000 in
theorem lc_lot {p : Program} {l : Launch} {e : Env} {s : State} {m : MethodId} {below : List Frame} {meth : Method} {c : Code} {G : zG} {KV : zKV} {b L : Nat} {xs : Nat → Int32} (C0 : lw_At p s m meth c b L xs) (hE : zE G s) (hZ : zS KV (zA s) s s.heap) {x3 : Int32} (hin : ∀ j : Nat, j < 7 → vp_in (x3 + nI j) L) (cont : lAt p l e s m below meth c G b x3 1007) : lAt p l e s m below meth c G b x3 529 := by
  intro a am v r t vm rm tm hI H locs hP hD hS ls hl
  obtain ⟨hx, hb, hr, hml, hown, hts0, hX, hbl, hlocks, hgv⟩ := C0
  have hts : ∀ w ∈ wsL_law, w.before #[Value.ref b] s = true := fun w h => hts0 w (wsL_law_in w h)
  have hbA : ¬ zA s b := Nat.not_le.mpr hbl
  have hA : ∀ q : Nat, s.heap.size ≤ q → zA s q := fun _ h => h
  have hC : CallFix p m c cL_law 4 s #[Value.ref b] wsL_law RL := ⟨hx, hb, hml, hown, hts⟩
  obtain ⟨p1, hp1⟩ : ∃ y : Int32, xs (x3 + (1 : Int32)).toNatClampNeg = y := ⟨_, rfl⟩
  obtain ⟨R0, w0, z0, z1, h1, h2, hI2⟩ := pm_lot v r t vm rm tm hI (p1)
  refine lv_aload_n hx hb dL_law_529 rfl (lv_at hl 1 rfl) ?_
  refine lv_aload_n hx hb dL_law_530 rfl (lv_at hl 0 rfl) ?_
  refine lv_iload_n hx hb dL_law_531 rfl (lv_at hl 3 rfl) ?_
  refine lv_iconst (v := (1 : Int32)) hx hb dL_law_532 (by decide) ?_
  refine lv_iadd hx hb dL_law_533 ?_
  refine z_sld (v := p1) hx hb hX hbl hbA hS (hin 1 (by decide)) hp1 dL_law_534 ?_
  refine zWi (wr := zpick (wXM G a am v r t vm rm tm) [1, 2, 3, 4, 5, 6, 7, 8, 9, 10, 11, 12, 13, 14, 15, 16, 17, 18, 20, 21, 22, 23, 24, 25, 26, 27, 28, 29, 30, 31, 32, 33, 34, 35, 36, 37, 38, 39, 40, 41, 42, 43, 44, 45, 46, 47, 48, 49, 50, 51, 52, 53, 54, 55, 56, 57, 58, 59, 60, 61, 62, 63, 64, 65]) (ws2 := wXM G a am (upd v 16 w0) r t vm rm tm) (va_runV (As := [.int p1]) (rest := []) hC (c_X8_lot l G _ (a 0) (a 19) (a 1) (a 3) (a 5) (a 12) (a 27) (a 35) (a 43) (a 44) (a 52) (a 55) (a 20) (a 21) (a 23) t (v 15) (v 16) (p1) R0 w0 h1) (cwV 1 hts gL_law_X8_lot rfl rfl rfl hd_X8_lot ⟨(Nat.le_of_ble_eq_true rfl), (Nat.le_of_ble_eq_true rfl)⟩) (zPVw hE hP hD [0, 19] rfl rfl 0 rfl rfl) rfl rfl hl.1 rfl (lv_room (Nat.le_of_ble_eq_true rfl)) dL_law_535 ⟨(Nat.le_of_ble_eq_true rfl), (Nat.le_of_ble_eq_true rfl)⟩) hP hD hS hA [0, 19] [1, 2, 3, 4, 5, 6, 7, 8, 9, 10, 11, 12, 13, 14, 15, 16, 17, 18, 20, 21, 22, 23, 24, 25, 26, 27, 28, 29, 30, 31, 32, 33, 34, 35, 36, 37, 38, 39, 40, 41, 42, 43, 44, 45, 46, 47, 48, 49, 50, 51, 52, 53, 54, 55, 56, 57, 58, 59, 60, 61, 62, 63, 64, 65] [64, 0, 1, 2, 3, 4, 5, 6, 7, 8, 9, 10, 11, 12, 13, 14, 15, 16, 17, 65, 18, 19, 20, 21, 22, 23, 24, 25, 26, 27, 28, 29, 30, 31, 32, 33, 34, 35, 36, 37, 38, 39, 40, 41, 42, 43, 44, 45, 46, 47, 48, 49, 50, 51, 52, 53, 54, 55, 56, 57, 58, 59, 60, 61, 62, 63] rfl rfl rfl rfl (by decide) rfl rfl rfl (fun H locs hP hD hS => ?_)
  refine lv_aload_n hx hb dL_law_538 rfl (lv_at hl 2 rfl) ?_
  refine lv_aload_n hx hb dL_law_539 rfl (lv_at hl 0 rfl) ?_
  refine lv_iload_n hx hb dL_law_540 rfl (lv_at hl 3 rfl) ?_
  refine lv_iconst (v := (1 : Int32)) hx hb dL_law_541 (by decide) ?_
  refine lv_iadd hx hb dL_law_542 ?_
  refine z_sld (v := p1) hx hb hX hbl hbA hS (hin 1 (by decide)) hp1 dL_law_543 ?_
  refine zWi (wr := zpick (wXM G a am (upd v 16 w0) r t vm rm tm) [0, 1, 2, 3, 4, 5, 6, 7, 8, 9, 10, 11, 12, 13, 14, 15, 16, 17, 18, 19, 20, 21, 22, 23, 24, 25, 26, 27, 28, 29, 30, 31, 32, 33, 34, 35, 36, 37, 38, 39, 40, 41, 42, 43, 44, 45, 46, 47, 48, 49, 50, 51, 52, 53, 54, 55, 57, 58, 59, 60, 62, 63, 64, 65]) (ws2 := wXM G a am (upd v 16 w0) r t (upd vm 0 z0) (updA rm 4 z1) tm) (va_runV (As := [.int p1]) (rest := [.int R0]) hC (c_X9_lot l G _ (am 0) (am 5) (am 1) (am 2) (am 3) (am 4) (am 6) (am 7) (am 8) (am 9) (vm 0) tm (vm 1) (vm 2) (vm 3) (vm 4) (vm 5) (vm 6) (vm 7) (vm 8) (vm 9) (vm 10) (vm 11) (vm 12) (vm 13) (vm 14) (vm 15) (rm 4) (p1) R0 z0 z1 h2) (cwV 1 hts gL_law_X9_lot rfl rfl rfl hd_X9_lot ⟨(Nat.le_of_ble_eq_true rfl), (Nat.le_of_ble_eq_true rfl)⟩) (zPVw hE hP hD [56, 61] rfl rfl 56 rfl rfl) rfl rfl hl.1 rfl (lv_room (Nat.le_of_ble_eq_true rfl)) dL_law_544 ⟨(Nat.le_of_ble_eq_true rfl), (Nat.le_of_ble_eq_true rfl)⟩) hP hD hS hA [56, 61] [0, 1, 2, 3, 4, 5, 6, 7, 8, 9, 10, 11, 12, 13, 14, 15, 16, 17, 18, 19, 20, 21, 22, 23, 24, 25, 26, 27, 28, 29, 30, 31, 32, 33, 34, 35, 36, 37, 38, 39, 40, 41, 42, 43, 44, 45, 46, 47, 48, 49, 50, 51, 52, 53, 54, 55, 57, 58, 59, 60, 62, 63, 64, 65] [0, 1, 2, 3, 4, 5, 6, 7, 8, 9, 10, 11, 12, 13, 14, 15, 16, 17, 18, 19, 20, 21, 22, 23, 24, 25, 26, 27, 28, 29, 30, 31, 32, 33, 34, 35, 36, 37, 38, 39, 40, 41, 42, 43, 44, 45, 46, 47, 48, 49, 50, 51, 52, 53, 54, 55, 64, 56, 57, 58, 59, 65, 60, 61, 62, 63] rfl rfl rfl rfl (by decide) rfl rfl rfl (fun H locs hP hD hS => ?_)
  refine lv_icmp_eq (tgt := 1007) hx hb dL_law_547 (by decide) (fun _ => ?_) (fun h => absurd rfl h)
  exact cont _ _ _ _ _ _ _ _ hI2 _ _ hP hD hS ls hl
