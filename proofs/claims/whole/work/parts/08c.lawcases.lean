set_option maxHeartbeats 4000000 in
set_option maxRecDepth 100000 in
theorem lc_dark {p : Program} {l : Launch} {e : Env} {s : State} {m : MethodId} {below : List Frame} {meth : Method} {c : Code} {G : zG} {KV : zKV} {b L : Nat} {xs : Nat → Int32} (C0 : lw_At p s m meth c b L xs) (hE : zE G s) (hZ : zS KV (zA s) s s.heap) {x3 : Int32} (hin : ∀ j : Nat, j < 7 → vp_in (x3 + nI j) L) (cont : lAt p l e s m below meth c G b x3 1007) : lAt p l e s m below meth c G b x3 552 := by
  intro a am v r t vm rm tm hI H locs hP hD hS ls hl
  obtain ⟨hx, hb, hr, hml, hown, hts0, hX, hbl, hlocks, hgv⟩ := C0
  have hts : ∀ w ∈ wsL_law, w.before #[Value.ref b] s = true := fun w h => hts0 w (wsL_law_in w h)
  have hbA : ¬ zA s b := Nat.not_le.mpr hbl
  have hA : ∀ q : Nat, s.heap.size ≤ q → zA s q := fun _ h => h
  have hC : CallFix p m c cL_law 4 s #[Value.ref b] wsL_law RL := ⟨hx, hb, hml, hown, hts⟩
  obtain ⟨p1, hp1⟩ : ∃ y : Int32, xs (x3 + (1 : Int32)).toNatClampNeg = y := ⟨_, rfl⟩
  obtain ⟨p2, hp2⟩ : ∃ y : Int32, xs (x3 + (2 : Int32)).toNatClampNeg = y := ⟨_, rfl⟩
  obtain ⟨p3, hp3⟩ : ∃ y : Int32, xs (x3 + (3 : Int32)).toNatClampNeg = y := ⟨_, rfl⟩
  obtain ⟨R0, z0, h1, h2, hI2⟩ := pm_dark v r t vm rm tm hI (p1) (p2) (p3)
  refine lv_aload_n hx hb dL_law_552 rfl (lv_at hl 1 rfl) ?_
  refine lv_aload_n hx hb dL_law_553 rfl (lv_at hl 0 rfl) ?_
  refine lv_iload_n hx hb dL_law_554 rfl (lv_at hl 3 rfl) ?_
  refine lv_iconst (v := (1 : Int32)) hx hb dL_law_555 (by decide) ?_
  refine lv_iadd hx hb dL_law_556 ?_
  refine z_sld (v := p1) hx hb hX hbl hbA hS (hin 1 (by decide)) hp1 dL_law_557 ?_
  refine lv_aload_n hx hb dL_law_558 rfl (lv_at hl 0 rfl) ?_
  refine lv_iload_n hx hb dL_law_559 rfl (lv_at hl 3 rfl) ?_
  refine lv_iconst (v := (2 : Int32)) hx hb dL_law_560 (by decide) ?_
  refine lv_iadd hx hb dL_law_561 ?_
  refine z_sld (v := p2) hx hb hX hbl hbA hS (hin 2 (by decide)) hp2 dL_law_562 ?_
  refine lv_aload_n hx hb dL_law_563 rfl (lv_at hl 0 rfl) ?_
  refine lv_iload_n hx hb dL_law_564 rfl (lv_at hl 3 rfl) ?_
  refine lv_iconst (v := (3 : Int32)) hx hb dL_law_565 (by decide) ?_
  refine lv_iadd hx hb dL_law_566 ?_
  refine z_sld (v := p3) hx hb hX hbl hbA hS (hin 3 (by decide)) hp3 dL_law_567 ?_
  refine zRi (va_runV (As := [.int p1, .int p2, .int p3]) (rest := []) hC (c_X8_dark l G (a 0) (a 5) (a 19) (a 21) (a 22) (a 7) (a 6) (a 1) (a 3) (a 12) (a 27) (a 35) (a 43) (a 44) (a 52) (a 55) (a 8) (a 9) (a 10) (a 20) (a 23) t (v 5) (v 6) (v 7) (v 15) (v 16) (v 17) (v 18) (r 13) (r 3) (r 2) (p1) (p2) (p3) R0 h1) (cwV 3 hts gL_law_X8_dark rfl rfl rfl hd_X8_dark ⟨(Nat.le_of_ble_eq_true rfl), (Nat.le_of_ble_eq_true rfl)⟩) (zPV hE hP [0, 5, 19, 21, 22, 7, 6] rfl 0 rfl rfl) rfl rfl hl.1 rfl (lv_room (Nat.le_of_ble_eq_true rfl)) dL_law_568 ⟨(Nat.le_of_ble_eq_true rfl), (Nat.le_of_ble_eq_true rfl)⟩) ?_
  refine lv_aload_n hx hb dL_law_571 rfl (lv_at hl 2 rfl) ?_
  refine lv_aload_n hx hb dL_law_572 rfl (lv_at hl 0 rfl) ?_
  refine lv_iload_n hx hb dL_law_573 rfl (lv_at hl 3 rfl) ?_
  refine lv_iconst (v := (1 : Int32)) hx hb dL_law_574 (by decide) ?_
  refine lv_iadd hx hb dL_law_575 ?_
  refine z_sld (v := p1) hx hb hX hbl hbA hS (hin 1 (by decide)) hp1 dL_law_576 ?_
  refine lv_aload_n hx hb dL_law_577 rfl (lv_at hl 0 rfl) ?_
  refine lv_iload_n hx hb dL_law_578 rfl (lv_at hl 3 rfl) ?_
  refine lv_iconst (v := (2 : Int32)) hx hb dL_law_579 (by decide) ?_
  refine lv_iadd hx hb dL_law_580 ?_
  refine z_sld (v := p2) hx hb hX hbl hbA hS (hin 2 (by decide)) hp2 dL_law_581 ?_
  refine lv_aload_n hx hb dL_law_582 rfl (lv_at hl 0 rfl) ?_
  refine lv_iload_n hx hb dL_law_583 rfl (lv_at hl 3 rfl) ?_
  refine lv_iconst (v := (3 : Int32)) hx hb dL_law_584 (by decide) ?_
  refine lv_iadd hx hb dL_law_585 ?_
  refine z_sld (v := p3) hx hb hX hbl hbA hS (hin 3 (by decide)) hp3 dL_law_586 ?_
  refine zWi (wr := zpick (wXM G a am v r t vm rm tm) [0, 1, 2, 3, 4, 5, 6, 7, 8, 9, 10, 11, 12, 13, 14, 15, 16, 17, 18, 19, 20, 21, 22, 23, 24, 25, 26, 27, 28, 29, 30, 31, 32, 33, 34, 35, 36, 37, 38, 39, 40, 41, 42, 43, 44, 45, 46, 47, 48, 49, 50, 51, 52, 53, 54, 55, 57, 59, 60, 62, 63, 64, 65]) (ws2 := wXM G a am v r t (upd vm 0 z0) rm tm) (va_runV (As := [.int p1, .int p2, .int p3]) (rest := [.int R0]) hC (c_X9_dark l G _ (am 0) (am 5) (am 2) (am 1) (am 3) (am 4) (am 6) (am 7) (am 8) (am 9) (vm 0) tm (vm 1) (vm 2) (vm 3) (vm 4) (vm 5) (vm 6) (vm 7) (vm 8) (vm 9) (vm 10) (vm 11) (vm 12) (vm 13) (vm 14) (vm 15) (rm 4) (rm 1) (p1) (p2) (p3) R0 z0 h2) (cwV 3 hts gL_law_X9_dark rfl rfl rfl hd_X9_dark ⟨(Nat.le_of_ble_eq_true rfl), (Nat.le_of_ble_eq_true rfl)⟩) (zPVw hE hP hD [56, 61, 58] rfl rfl 56 rfl rfl) rfl rfl hl.1 rfl (lv_room (Nat.le_of_ble_eq_true rfl)) dL_law_587 ⟨(Nat.le_of_ble_eq_true rfl), (Nat.le_of_ble_eq_true rfl)⟩) hP hD hS hA [56, 61, 58] [0, 1, 2, 3, 4, 5, 6, 7, 8, 9, 10, 11, 12, 13, 14, 15, 16, 17, 18, 19, 20, 21, 22, 23, 24, 25, 26, 27, 28, 29, 30, 31, 32, 33, 34, 35, 36, 37, 38, 39, 40, 41, 42, 43, 44, 45, 46, 47, 48, 49, 50, 51, 52, 53, 54, 55, 57, 59, 60, 62, 63, 64, 65] [0, 1, 2, 3, 4, 5, 6, 7, 8, 9, 10, 11, 12, 13, 14, 15, 16, 17, 18, 19, 20, 21, 22, 23, 24, 25, 26, 27, 28, 29, 30, 31, 32, 33, 34, 35, 36, 37, 38, 39, 40, 41, 42, 43, 44, 45, 46, 47, 48, 49, 50, 51, 52, 53, 54, 55, 63, 56, 65, 57, 58, 64, 59, 60, 61, 62] rfl rfl rfl rfl (by decide) rfl rfl rfl (fun H locs hP hD hS => ?_)
  refine lv_icmp_eq (tgt := 1007) hx hb dL_law_590 (by decide) (fun _ => ?_) (fun h => absurd rfl h)
  exact cont _ _ _ _ _ _ _ _ hI2 _ _ hP hD hS ls hl
set_option maxHeartbeats 4000000 in
set_option maxRecDepth 100000 in
theorem lc_meets {p : Program} {l : Launch} {e : Env} {s : State} {m : MethodId} {below : List Frame} {meth : Method} {c : Code} {G : zG} {KV : zKV} {b L : Nat} {xs : Nat → Int32} (C0 : lw_At p s m meth c b L xs) (hE : zE G s) (hZ : zS KV (zA s) s s.heap) {x3 : Int32} (hin : ∀ j : Nat, j < 7 → vp_in (x3 + nI j) L) (cont : lAt p l e s m below meth c G b x3 1007) : lAt p l e s m below meth c G b x3 595 := by
  intro a am v r t vm rm tm hI H locs hP hD hS ls hl
  obtain ⟨hx, hb, hr, hml, hown, hts0, hX, hbl, hlocks, hgv⟩ := C0
  have hts : ∀ w ∈ wsL_law, w.before #[Value.ref b] s = true := fun w h => hts0 w (wsL_law_in w h)
  have hbA : ¬ zA s b := Nat.not_le.mpr hbl
  have hA : ∀ q : Nat, s.heap.size ≤ q → zA s q := fun _ h => h
  have hC : CallFix p m c cL_law 4 s #[Value.ref b] wsL_law RL := ⟨hx, hb, hml, hown, hts⟩
  obtain ⟨p1, hp1⟩ : ∃ y : Int32, xs (x3 + (1 : Int32)).toNatClampNeg = y := ⟨_, rfl⟩
  obtain ⟨p2, hp2⟩ : ∃ y : Int32, xs (x3 + (2 : Int32)).toNatClampNeg = y := ⟨_, rfl⟩
  obtain ⟨p3, hp3⟩ : ∃ y : Int32, xs (x3 + (3 : Int32)).toNatClampNeg = y := ⟨_, rfl⟩
  obtain ⟨R0, z0, h1, h2, hI2⟩ := pm_meets v r t vm rm tm hI (p1) (p2) (p3)
  refine lv_aload_n hx hb dL_law_595 rfl (lv_at hl 1 rfl) ?_
  refine lv_aload_n hx hb dL_law_596 rfl (lv_at hl 0 rfl) ?_
  refine lv_iload_n hx hb dL_law_597 rfl (lv_at hl 3 rfl) ?_
  refine lv_iconst (v := (1 : Int32)) hx hb dL_law_598 (by decide) ?_
  refine lv_iadd hx hb dL_law_599 ?_
  refine z_sld (v := p1) hx hb hX hbl hbA hS (hin 1 (by decide)) hp1 dL_law_600 ?_
  refine lv_aload_n hx hb dL_law_601 rfl (lv_at hl 0 rfl) ?_
  refine lv_iload_n hx hb dL_law_602 rfl (lv_at hl 3 rfl) ?_
  refine lv_iconst (v := (2 : Int32)) hx hb dL_law_603 (by decide) ?_
  refine lv_iadd hx hb dL_law_604 ?_
  refine z_sld (v := p2) hx hb hX hbl hbA hS (hin 2 (by decide)) hp2 dL_law_605 ?_
  refine lv_aload_n hx hb dL_law_606 rfl (lv_at hl 0 rfl) ?_
  refine lv_iload_n hx hb dL_law_607 rfl (lv_at hl 3 rfl) ?_
  refine lv_iconst (v := (3 : Int32)) hx hb dL_law_608 (by decide) ?_
  refine lv_iadd hx hb dL_law_609 ?_
  refine z_sld (v := p3) hx hb hX hbl hbA hS (hin 3 (by decide)) hp3 dL_law_610 ?_
  refine zRi (va_runV (As := [.int p1, .int p2, .int p3]) (rest := []) hC (c_X8_meets l G (a 0) (a 5) (a 7) (a 6) (a 19) (a 21) (a 22) (a 1) (a 3) (a 12) (a 27) (a 35) (a 43) (a 44) (a 52) (a 55) (a 8) (a 9) (a 10) (a 20) (a 23) t (v 5) (v 6) (v 7) (r 3) (r 2) (v 15) (v 16) (v 17) (v 18) (r 13) (p1) (p2) (p3) R0 h1) (cwV 3 hts gL_law_X8_meets rfl rfl rfl hd_X8_meets ⟨(Nat.le_of_ble_eq_true rfl), (Nat.le_of_ble_eq_true rfl)⟩) (zPV hE hP [0, 5, 7, 6, 19, 21, 22] rfl 0 rfl rfl) rfl rfl hl.1 rfl (lv_room (Nat.le_of_ble_eq_true rfl)) dL_law_611 ⟨(Nat.le_of_ble_eq_true rfl), (Nat.le_of_ble_eq_true rfl)⟩) ?_
  refine lv_aload_n hx hb dL_law_614 rfl (lv_at hl 2 rfl) ?_
  refine lv_aload_n hx hb dL_law_615 rfl (lv_at hl 0 rfl) ?_
  refine lv_iload_n hx hb dL_law_616 rfl (lv_at hl 3 rfl) ?_
  refine lv_iconst (v := (1 : Int32)) hx hb dL_law_617 (by decide) ?_
  refine lv_iadd hx hb dL_law_618 ?_
  refine z_sld (v := p1) hx hb hX hbl hbA hS (hin 1 (by decide)) hp1 dL_law_619 ?_
  refine lv_aload_n hx hb dL_law_620 rfl (lv_at hl 0 rfl) ?_
  refine lv_iload_n hx hb dL_law_621 rfl (lv_at hl 3 rfl) ?_
  refine lv_iconst (v := (2 : Int32)) hx hb dL_law_622 (by decide) ?_
  refine lv_iadd hx hb dL_law_623 ?_
  refine z_sld (v := p2) hx hb hX hbl hbA hS (hin 2 (by decide)) hp2 dL_law_624 ?_
  refine lv_aload_n hx hb dL_law_625 rfl (lv_at hl 0 rfl) ?_
  refine lv_iload_n hx hb dL_law_626 rfl (lv_at hl 3 rfl) ?_
  refine lv_iconst (v := (3 : Int32)) hx hb dL_law_627 (by decide) ?_
  refine lv_iadd hx hb dL_law_628 ?_
  refine z_sld (v := p3) hx hb hX hbl hbA hS (hin 3 (by decide)) hp3 dL_law_629 ?_
  refine zWi (wr := zpick (wXM G a am v r t vm rm tm) [0, 1, 2, 3, 4, 5, 6, 7, 8, 9, 10, 11, 12, 13, 14, 15, 16, 17, 18, 19, 20, 21, 22, 23, 24, 25, 26, 27, 28, 29, 30, 31, 32, 33, 34, 35, 36, 37, 38, 39, 40, 41, 42, 43, 44, 45, 46, 47, 48, 49, 50, 51, 52, 53, 54, 55, 57, 59, 60, 62, 63, 64, 65]) (ws2 := wXM G a am v r t (upd vm 0 z0) rm tm) (va_runV (As := [.int p1, .int p2, .int p3]) (rest := [.int R0]) hC (c_X9_meets l G _ (am 0) (am 2) (am 5) (am 1) (am 3) (am 4) (am 6) (am 7) (am 8) (am 9) (vm 0) tm (vm 1) (vm 2) (vm 3) (vm 4) (vm 5) (vm 6) (vm 7) (vm 8) (vm 9) (vm 10) (vm 11) (vm 12) (vm 13) (vm 14) (vm 15) (rm 1) (rm 4) (p1) (p2) (p3) R0 z0 h2) (cwV 3 hts gL_law_X9_meets rfl rfl rfl hd_X9_meets ⟨(Nat.le_of_ble_eq_true rfl), (Nat.le_of_ble_eq_true rfl)⟩) (zPVw hE hP hD [56, 58, 61] rfl rfl 56 rfl rfl) rfl rfl hl.1 rfl (lv_room (Nat.le_of_ble_eq_true rfl)) dL_law_630 ⟨(Nat.le_of_ble_eq_true rfl), (Nat.le_of_ble_eq_true rfl)⟩) hP hD hS hA [56, 58, 61] [0, 1, 2, 3, 4, 5, 6, 7, 8, 9, 10, 11, 12, 13, 14, 15, 16, 17, 18, 19, 20, 21, 22, 23, 24, 25, 26, 27, 28, 29, 30, 31, 32, 33, 34, 35, 36, 37, 38, 39, 40, 41, 42, 43, 44, 45, 46, 47, 48, 49, 50, 51, 52, 53, 54, 55, 57, 59, 60, 62, 63, 64, 65] [0, 1, 2, 3, 4, 5, 6, 7, 8, 9, 10, 11, 12, 13, 14, 15, 16, 17, 18, 19, 20, 21, 22, 23, 24, 25, 26, 27, 28, 29, 30, 31, 32, 33, 34, 35, 36, 37, 38, 39, 40, 41, 42, 43, 44, 45, 46, 47, 48, 49, 50, 51, 52, 53, 54, 55, 63, 56, 64, 57, 58, 65, 59, 60, 61, 62] rfl rfl rfl rfl (by decide) rfl rfl rfl (fun H locs hP hD hS => ?_)
  refine lv_icmp_eq (tgt := 1007) hx hb dL_law_633 (by decide) (fun _ => ?_) (fun h => absurd rfl h)
  exact cont _ _ _ _ _ _ _ _ hI2 _ _ hP hD hS ls hl
set_option maxHeartbeats 4000000 in
set_option maxRecDepth 100000 in
theorem lc_offer {p : Program} {l : Launch} {e : Env} {s : State} {m : MethodId} {below : List Frame} {meth : Method} {c : Code} {G : zG} {KV : zKV} {b L : Nat} {xs : Nat → Int32} (C0 : lw_At p s m meth c b L xs) (hE : zE G s) (hZ : zS KV (zA s) s s.heap) {x3 : Int32} (hin : ∀ j : Nat, j < 7 → vp_in (x3 + nI j) L) (cont : lAt p l e s m below meth c G b x3 1007) : lAt p l e s m below meth c G b x3 638 := by
  intro a am v r t vm rm tm hI H locs hP hD hS ls hl
  obtain ⟨hx, hb, hr, hml, hown, hts0, hX, hbl, hlocks, hgv⟩ := C0
  have hts : ∀ w ∈ wsL_law, w.before #[Value.ref b] s = true := fun w h => hts0 w (wsL_law_in w h)
  have hbA : ¬ zA s b := Nat.not_le.mpr hbl
  have hA : ∀ q : Nat, s.heap.size ≤ q → zA s q := fun _ h => h
  have hC : CallFix p m c cL_law 4 s #[Value.ref b] wsL_law RL := ⟨hx, hb, hml, hown, hts⟩
  obtain ⟨p1, hp1⟩ : ∃ y : Int32, xs (x3 + (1 : Int32)).toNatClampNeg = y := ⟨_, rfl⟩
  obtain ⟨p2, hp2⟩ : ∃ y : Int32, xs (x3 + (2 : Int32)).toNatClampNeg = y := ⟨_, rfl⟩
  obtain ⟨p3, hp3⟩ : ∃ y : Int32, xs (x3 + (3 : Int32)).toNatClampNeg = y := ⟨_, rfl⟩
  obtain ⟨p4, hp4⟩ : ∃ y : Int32, xs (x3 + (4 : Int32)).toNatClampNeg = y := ⟨_, rfl⟩
  obtain ⟨p5, hp5⟩ : ∃ y : Int32, xs (x3 + (5 : Int32)).toNatClampNeg = y := ⟨_, rfl⟩
  obtain ⟨p6, hp6⟩ : ∃ y : Int32, xs (x3 + (6 : Int32)).toNatClampNeg = y := ⟨_, rfl⟩
  obtain ⟨R0, w0, w1, w2, w3, w4, z0, z1, z2, h1, h2, hI2⟩ := pm_offer v r t vm rm tm hI (p1) (p2) (p3) (p4) (p5) (p6)
  refine lv_aload_n hx hb dL_law_638 rfl (lv_at hl 1 rfl) ?_
  refine lv_aload_n hx hb dL_law_639 rfl (lv_at hl 0 rfl) ?_
  refine lv_iload_n hx hb dL_law_640 rfl (lv_at hl 3 rfl) ?_
  refine lv_iconst (v := (1 : Int32)) hx hb dL_law_641 (by decide) ?_
  refine lv_iadd hx hb dL_law_642 ?_
  refine z_sld (v := p1) hx hb hX hbl hbA hS (hin 1 (by decide)) hp1 dL_law_643 ?_
  refine lv_aload_n hx hb dL_law_644 rfl (lv_at hl 0 rfl) ?_
  refine lv_iload_n hx hb dL_law_645 rfl (lv_at hl 3 rfl) ?_
  refine lv_iconst (v := (2 : Int32)) hx hb dL_law_646 (by decide) ?_
  refine lv_iadd hx hb dL_law_647 ?_
  refine z_sld (v := p2) hx hb hX hbl hbA hS (hin 2 (by decide)) hp2 dL_law_648 ?_
  refine lv_aload_n hx hb dL_law_649 rfl (lv_at hl 0 rfl) ?_
  refine lv_iload_n hx hb dL_law_650 rfl (lv_at hl 3 rfl) ?_
  refine lv_iconst (v := (3 : Int32)) hx hb dL_law_651 (by decide) ?_
  refine lv_iadd hx hb dL_law_652 ?_
  refine z_sld (v := p3) hx hb hX hbl hbA hS (hin 3 (by decide)) hp3 dL_law_653 ?_
  refine lv_aload_n hx hb dL_law_654 rfl (lv_at hl 0 rfl) ?_
  refine lv_iload_n hx hb dL_law_655 rfl (lv_at hl 3 rfl) ?_
  refine lv_iconst (v := (4 : Int32)) hx hb dL_law_656 (by decide) ?_
  refine lv_iadd hx hb dL_law_657 ?_
  refine z_sld (v := p4) hx hb hX hbl hbA hS (hin 4 (by decide)) hp4 dL_law_658 ?_
  refine lv_aload_n hx hb dL_law_659 rfl (lv_at hl 0 rfl) ?_
  refine lv_iload_n hx hb dL_law_660 rfl (lv_at hl 3 rfl) ?_
  refine lv_iconst (v := (5 : Int32)) hx hb dL_law_661 (by decide) ?_
  refine lv_iadd hx hb dL_law_662 ?_
  refine z_sld (v := p5) hx hb hX hbl hbA hS (hin 5 (by decide)) hp5 dL_law_663 ?_
  refine lv_aload_n hx hb dL_law_664 rfl (lv_at hl 0 rfl) ?_
  refine lv_iload_n hx hb dL_law_665 rfl (lv_at hl 3 rfl) ?_
  refine lv_bipush (v := (6 : Int32)) hx hb dL_law_666 (by decide) ?_
  refine lv_iadd hx hb dL_law_668 ?_
  refine z_sld (v := p6) hx hb hX hbl hbA hS (hin 6 (by decide)) hp6 dL_law_669 ?_
  refine zWi (wr := zpick (wXM G a am v r t vm rm tm) [1, 2, 3, 4, 6, 7, 8, 9, 10, 11, 12, 13, 14, 15, 16, 17, 18, 19, 20, 21, 22, 23, 24, 25, 26, 27, 28, 29, 30, 31, 32, 33, 34, 35, 36, 37, 38, 39, 40, 41, 42, 43, 50, 51, 52, 53, 54, 55, 56, 57, 58, 59, 60, 61, 62, 63, 64, 65]) (ws2 := wXM G a am (upd v 34 w0) (updA (updA (updA (updA r 25 w1) 26 w2) 27 w3) 28 w4) t vm rm tm) (va_runV (As := [.int p1, .int p2, .int p3, .int p4, .int p5, .int p6]) (rest := []) hC (c_X8_offer l G _ (a 0) (a 5) (a 44) (a 45) (a 46) (a 47) (a 48) (a 49) (a 1) (a 3) (a 12) (a 19) (a 27) (a 35) (a 43) (a 52) (a 55) (a 6) (a 7) (a 8) (a 9) (a 10) (a 50) (a 51) t (v 5) (v 6) (v 7) (v 33) (v 34) (r 25) (r 26) (r 27) (r 28) (p1) (p2) (p3) (p4) (p5) (p6) R0 w0 w1 w2 w3 w4 h1) (cwV 6 hts gL_law_X8_offer rfl rfl rfl hd_X8_offer ⟨(Nat.le_of_ble_eq_true rfl), (Nat.le_of_ble_eq_true rfl)⟩) (zPVw hE hP hD [0, 5, 44, 45, 46, 47, 48, 49] rfl rfl 0 rfl rfl) rfl rfl hl.1 rfl (lv_room (Nat.le_of_ble_eq_true rfl)) dL_law_670 ⟨(Nat.le_of_ble_eq_true rfl), (Nat.le_of_ble_eq_true rfl)⟩) hP hD hS hA [0, 5, 44, 45, 46, 47, 48, 49] [1, 2, 3, 4, 6, 7, 8, 9, 10, 11, 12, 13, 14, 15, 16, 17, 18, 19, 20, 21, 22, 23, 24, 25, 26, 27, 28, 29, 30, 31, 32, 33, 34, 35, 36, 37, 38, 39, 40, 41, 42, 43, 50, 51, 52, 53, 54, 55, 56, 57, 58, 59, 60, 61, 62, 63, 64, 65] [58, 0, 1, 2, 3, 59, 4, 5, 6, 7, 8, 9, 10, 11, 12, 13, 14, 15, 16, 17, 18, 19, 20, 21, 22, 23, 24, 25, 26, 27, 28, 29, 30, 31, 32, 33, 34, 35, 36, 37, 38, 39, 40, 41, 60, 61, 62, 63, 64, 65, 42, 43, 44, 45, 46, 47, 48, 49, 50, 51, 52, 53, 54, 55, 56, 57] rfl rfl rfl rfl (by decide) rfl rfl rfl (fun H locs hP hD hS => ?_)
  refine lv_aload_n hx hb dL_law_673 rfl (lv_at hl 2 rfl) ?_
  refine lv_aload_n hx hb dL_law_674 rfl (lv_at hl 0 rfl) ?_
  refine lv_iload_n hx hb dL_law_675 rfl (lv_at hl 3 rfl) ?_
  refine lv_iconst (v := (1 : Int32)) hx hb dL_law_676 (by decide) ?_
  refine lv_iadd hx hb dL_law_677 ?_
  refine z_sld (v := p1) hx hb hX hbl hbA hS (hin 1 (by decide)) hp1 dL_law_678 ?_
  refine lv_aload_n hx hb dL_law_679 rfl (lv_at hl 0 rfl) ?_
  refine lv_iload_n hx hb dL_law_680 rfl (lv_at hl 3 rfl) ?_
  refine lv_iconst (v := (2 : Int32)) hx hb dL_law_681 (by decide) ?_
  refine lv_iadd hx hb dL_law_682 ?_
  refine z_sld (v := p2) hx hb hX hbl hbA hS (hin 2 (by decide)) hp2 dL_law_683 ?_
  refine lv_aload_n hx hb dL_law_684 rfl (lv_at hl 0 rfl) ?_
  refine lv_iload_n hx hb dL_law_685 rfl (lv_at hl 3 rfl) ?_
  refine lv_iconst (v := (3 : Int32)) hx hb dL_law_686 (by decide) ?_
  refine lv_iadd hx hb dL_law_687 ?_
  refine z_sld (v := p3) hx hb hX hbl hbA hS (hin 3 (by decide)) hp3 dL_law_688 ?_
  refine lv_aload_n hx hb dL_law_689 rfl (lv_at hl 0 rfl) ?_
  refine lv_iload_n hx hb dL_law_690 rfl (lv_at hl 3 rfl) ?_
  refine lv_iconst (v := (4 : Int32)) hx hb dL_law_691 (by decide) ?_
  refine lv_iadd hx hb dL_law_692 ?_
  refine z_sld (v := p4) hx hb hX hbl hbA hS (hin 4 (by decide)) hp4 dL_law_693 ?_
  refine lv_aload_n hx hb dL_law_694 rfl (lv_at hl 0 rfl) ?_
  refine lv_iload_n hx hb dL_law_695 rfl (lv_at hl 3 rfl) ?_
  refine lv_iconst (v := (5 : Int32)) hx hb dL_law_696 (by decide) ?_
  refine lv_iadd hx hb dL_law_697 ?_
  refine z_sld (v := p5) hx hb hX hbl hbA hS (hin 5 (by decide)) hp5 dL_law_698 ?_
  refine lv_aload_n hx hb dL_law_699 rfl (lv_at hl 0 rfl) ?_
  refine lv_iload_n hx hb dL_law_700 rfl (lv_at hl 3 rfl) ?_
  refine lv_bipush (v := (6 : Int32)) hx hb dL_law_701 (by decide) ?_
  refine lv_iadd hx hb dL_law_703 ?_
  refine z_sld (v := p6) hx hb hX hbl hbA hS (hin 6 (by decide)) hp6 dL_law_704 ?_
  refine zWi (wr := zpick (wXM G a am (upd v 34 w0) (updA (updA (updA (updA r 25 w1) 26 w2) 27 w3) 28 w4) t vm rm tm) [0, 1, 2, 3, 4, 5, 6, 7, 8, 9, 10, 11, 12, 13, 14, 15, 16, 17, 18, 19, 20, 21, 22, 23, 24, 25, 26, 27, 28, 29, 30, 31, 32, 33, 34, 35, 36, 37, 38, 39, 40, 41, 42, 43, 44, 45, 46, 47, 48, 49, 50, 51, 52, 53, 54, 55, 57, 58, 59, 60, 61, 62, 63, 65]) (ws2 := wXM G a am (upd v 34 w0) (updA (updA (updA (updA r 25 w1) 26 w2) 27 w3) 28 w4) t (upd (upd vm 0 z0) 14 z1) (updA rm 7 z2) tm) (va_runV (As := [.int p1, .int p2, .int p3, .int p4, .int p5, .int p6]) (rest := [.int R0]) hC (c_X9_offer l G _ (am 0) (am 8) (am 1) (am 2) (am 3) (am 4) (am 5) (am 6) (am 7) (am 9) (vm 0) tm (vm 1) (vm 2) (vm 3) (vm 4) (vm 5) (vm 6) (vm 7) (vm 8) (vm 9) (vm 10) (vm 11) (vm 12) (vm 13) (vm 14) (vm 15) (rm 7) (p1) (p2) (p3) (p4) (p5) (p6) R0 z0 z1 z2 h2) (cwV 6 hts gL_law_X9_offer rfl rfl rfl hd_X9_offer ⟨(Nat.le_of_ble_eq_true rfl), (Nat.le_of_ble_eq_true rfl)⟩) (zPVw hE hP hD [56, 64] rfl rfl 56 rfl rfl) rfl rfl hl.1 rfl (lv_room (Nat.le_of_ble_eq_true rfl)) dL_law_705 ⟨(Nat.le_of_ble_eq_true rfl), (Nat.le_of_ble_eq_true rfl)⟩) hP hD hS hA [56, 64] [0, 1, 2, 3, 4, 5, 6, 7, 8, 9, 10, 11, 12, 13, 14, 15, 16, 17, 18, 19, 20, 21, 22, 23, 24, 25, 26, 27, 28, 29, 30, 31, 32, 33, 34, 35, 36, 37, 38, 39, 40, 41, 42, 43, 44, 45, 46, 47, 48, 49, 50, 51, 52, 53, 54, 55, 57, 58, 59, 60, 61, 62, 63, 65] [0, 1, 2, 3, 4, 5, 6, 7, 8, 9, 10, 11, 12, 13, 14, 15, 16, 17, 18, 19, 20, 21, 22, 23, 24, 25, 26, 27, 28, 29, 30, 31, 32, 33, 34, 35, 36, 37, 38, 39, 40, 41, 42, 43, 44, 45, 46, 47, 48, 49, 50, 51, 52, 53, 54, 55, 64, 56, 57, 58, 59, 60, 61, 62, 65, 63] rfl rfl rfl rfl (by decide) rfl rfl rfl (fun H locs hP hD hS => ?_)
  refine lv_icmp_eq (tgt := 1007) hx hb dL_law_708 (by decide) (fun _ => ?_) (fun h => absurd rfl h)
  exact cont _ _ _ _ _ _ _ _ hI2 _ _ hP hD hS ls hl
set_option maxHeartbeats 4000000 in
set_option maxRecDepth 100000 in
theorem lc_refuse {p : Program} {l : Launch} {e : Env} {s : State} {m : MethodId} {below : List Frame} {meth : Method} {c : Code} {G : zG} {KV : zKV} {b L : Nat} {xs : Nat → Int32} (C0 : lw_At p s m meth c b L xs) (hE : zE G s) (hZ : zS KV (zA s) s s.heap) {x3 : Int32} (hin : ∀ j : Nat, j < 7 → vp_in (x3 + nI j) L) (cont : lAt p l e s m below meth c G b x3 1007) : lAt p l e s m below meth c G b x3 713 := by
  intro a am v r t vm rm tm hI H locs hP hD hS ls hl
  obtain ⟨hx, hb, hr, hml, hown, hts0, hX, hbl, hlocks, hgv⟩ := C0
  have hts : ∀ w ∈ wsL_law, w.before #[Value.ref b] s = true := fun w h => hts0 w (wsL_law_in w h)
  have hbA : ¬ zA s b := Nat.not_le.mpr hbl
  have hA : ∀ q : Nat, s.heap.size ≤ q → zA s q := fun _ h => h
  have hC : CallFix p m c cL_law 4 s #[Value.ref b] wsL_law RL := ⟨hx, hb, hml, hown, hts⟩
  obtain ⟨R0, w0, z0, z1, h1, h2, hI2⟩ := pm_refuse v r t vm rm tm hI 
  refine lv_aload_n hx hb dL_law_713 rfl (lv_at hl 1 rfl) ?_
  refine zWi (wr := zpick (wXM G a am v r t vm rm tm) [1, 2, 3, 4, 5, 6, 7, 8, 9, 10, 11, 12, 13, 14, 15, 16, 17, 18, 19, 20, 21, 22, 23, 24, 25, 26, 27, 28, 29, 30, 31, 32, 33, 34, 35, 36, 37, 38, 39, 40, 41, 42, 43, 46, 47, 48, 49, 50, 51, 52, 53, 54, 55, 56, 57, 58, 59, 60, 61, 62, 63, 64, 65]) (ws2 := wXM G a am (upd v 34 w0) r t vm rm tm) (va_runV (As := []) (rest := []) hC (c_X8_refuse l G _ (a 0) (a 44) (a 45) (a 1) (a 3) (a 5) (a 12) (a 19) (a 27) (a 35) (a 43) (a 52) (a 55) (a 47) (a 48) (a 49) (a 50) (a 51) (a 46) t (v 33) (v 34) R0 w0 h1) (cwV 0 hts gL_law_X8_refuse rfl rfl rfl hd_X8_refuse ⟨(Nat.le_of_ble_eq_true rfl), (Nat.le_of_ble_eq_true rfl)⟩) (zPVw hE hP hD [0, 44, 45] rfl rfl 0 rfl rfl) rfl rfl hl.1 rfl (lv_room (Nat.le_of_ble_eq_true rfl)) dL_law_714 ⟨(Nat.le_of_ble_eq_true rfl), (Nat.le_of_ble_eq_true rfl)⟩) hP hD hS hA [0, 44, 45] [1, 2, 3, 4, 5, 6, 7, 8, 9, 10, 11, 12, 13, 14, 15, 16, 17, 18, 19, 20, 21, 22, 23, 24, 25, 26, 27, 28, 29, 30, 31, 32, 33, 34, 35, 36, 37, 38, 39, 40, 41, 42, 43, 46, 47, 48, 49, 50, 51, 52, 53, 54, 55, 56, 57, 58, 59, 60, 61, 62, 63, 64, 65] [63, 0, 1, 2, 3, 4, 5, 6, 7, 8, 9, 10, 11, 12, 13, 14, 15, 16, 17, 18, 19, 20, 21, 22, 23, 24, 25, 26, 27, 28, 29, 30, 31, 32, 33, 34, 35, 36, 37, 38, 39, 40, 41, 42, 64, 65, 43, 44, 45, 46, 47, 48, 49, 50, 51, 52, 53, 54, 55, 56, 57, 58, 59, 60, 61, 62] rfl rfl rfl rfl (by decide) rfl rfl rfl (fun H locs hP hD hS => ?_)
  refine lv_aload_n hx hb dL_law_717 rfl (lv_at hl 2 rfl) ?_
  refine zWi (wr := zpick (wXM G a am (upd v 34 w0) r t vm rm tm) [0, 1, 2, 3, 4, 5, 6, 7, 8, 9, 10, 11, 12, 13, 14, 15, 16, 17, 18, 19, 20, 21, 22, 23, 24, 25, 26, 27, 28, 29, 30, 31, 32, 33, 34, 35, 36, 37, 38, 39, 40, 41, 42, 43, 44, 45, 46, 47, 48, 49, 50, 51, 52, 53, 54, 55, 57, 58, 59, 60, 61, 62, 63, 64, 65]) (ws2 := wXM G a am (upd v 34 w0) r t (upd (upd vm 0 z0) 14 z1) rm tm) (va_runV (As := []) (rest := [.int R0]) hC (c_X9_refuse l G _ (am 0) (am 1) (am 2) (am 3) (am 4) (am 5) (am 6) (am 7) (am 8) (am 9) (vm 0) tm (vm 1) (vm 2) (vm 3) (vm 4) (vm 5) (vm 6) (vm 7) (vm 8) (vm 9) (vm 10) (vm 11) (vm 12) (vm 13) (vm 14) (vm 15) R0 z0 z1 h2) (cwV 0 hts gL_law_X9_refuse rfl rfl rfl hd_X9_refuse ⟨(Nat.le_of_ble_eq_true rfl), (Nat.le_of_ble_eq_true rfl)⟩) (zPVw hE hP hD [56] rfl rfl 56 rfl rfl) rfl rfl hl.1 rfl (lv_room (Nat.le_of_ble_eq_true rfl)) dL_law_718 ⟨(Nat.le_of_ble_eq_true rfl), (Nat.le_of_ble_eq_true rfl)⟩) hP hD hS hA [56] [0, 1, 2, 3, 4, 5, 6, 7, 8, 9, 10, 11, 12, 13, 14, 15, 16, 17, 18, 19, 20, 21, 22, 23, 24, 25, 26, 27, 28, 29, 30, 31, 32, 33, 34, 35, 36, 37, 38, 39, 40, 41, 42, 43, 44, 45, 46, 47, 48, 49, 50, 51, 52, 53, 54, 55, 57, 58, 59, 60, 61, 62, 63, 64, 65] [0, 1, 2, 3, 4, 5, 6, 7, 8, 9, 10, 11, 12, 13, 14, 15, 16, 17, 18, 19, 20, 21, 22, 23, 24, 25, 26, 27, 28, 29, 30, 31, 32, 33, 34, 35, 36, 37, 38, 39, 40, 41, 42, 43, 44, 45, 46, 47, 48, 49, 50, 51, 52, 53, 54, 55, 65, 56, 57, 58, 59, 60, 61, 62, 63, 64] rfl rfl rfl rfl (by decide) rfl rfl rfl (fun H locs hP hD hS => ?_)
  refine lv_icmp_eq (tgt := 1007) hx hb dL_law_721 (by decide) (fun _ => ?_) (fun h => absurd rfl h)
  exact cont _ _ _ _ _ _ _ _ hI2 _ _ hP hD hS ls hl
set_option maxHeartbeats 4000000 in
set_option maxRecDepth 100000 in
theorem lc_letting {p : Program} {l : Launch} {e : Env} {s : State} {m : MethodId} {below : List Frame} {meth : Method} {c : Code} {G : zG} {KV : zKV} {b L : Nat} {xs : Nat → Int32} (C0 : lw_At p s m meth c b L xs) (hE : zE G s) (hZ : zS KV (zA s) s s.heap) {x3 : Int32} (hin : ∀ j : Nat, j < 7 → vp_in (x3 + nI j) L) (cont : lAt p l e s m below meth c G b x3 1007) : lAt p l e s m below meth c G b x3 726 := by
  intro a am v r t vm rm tm hI H locs hP hD hS ls hl
  obtain ⟨hx, hb, hr, hml, hown, hts0, hX, hbl, hlocks, hgv⟩ := C0
  have hts : ∀ w ∈ wsL_law, w.before #[Value.ref b] s = true := fun w h => hts0 w (wsL_law_in w h)
  have hbA : ¬ zA s b := Nat.not_le.mpr hbl
  have hA : ∀ q : Nat, s.heap.size ≤ q → zA s q := fun _ h => h
  have hC : CallFix p m c cL_law 4 s #[Value.ref b] wsL_law RL := ⟨hx, hb, hml, hown, hts⟩
  obtain ⟨p1, hp1⟩ : ∃ y : Int32, xs (x3 + (1 : Int32)).toNatClampNeg = y := ⟨_, rfl⟩
  obtain ⟨p2, hp2⟩ : ∃ y : Int32, xs (x3 + (2 : Int32)).toNatClampNeg = y := ⟨_, rfl⟩
  obtain ⟨p3, hp3⟩ : ∃ y : Int32, xs (x3 + (3 : Int32)).toNatClampNeg = y := ⟨_, rfl⟩
  obtain ⟨R0, w0, w1, z0, h1, h2, hI2⟩ := pm_letting v r t vm rm tm hI (p1) (p2) (p3)
  refine lv_aload_n hx hb dL_law_726 rfl (lv_at hl 1 rfl) ?_
  refine lv_aload_n hx hb dL_law_727 rfl (lv_at hl 0 rfl) ?_
  refine lv_iload_n hx hb dL_law_728 rfl (lv_at hl 3 rfl) ?_
  refine lv_iconst (v := (1 : Int32)) hx hb dL_law_729 (by decide) ?_
  refine lv_iadd hx hb dL_law_730 ?_
  refine z_sld (v := p1) hx hb hX hbl hbA hS (hin 1 (by decide)) hp1 dL_law_731 ?_
  refine lv_aload_n hx hb dL_law_732 rfl (lv_at hl 0 rfl) ?_
  refine lv_iload_n hx hb dL_law_733 rfl (lv_at hl 3 rfl) ?_
  refine lv_iconst (v := (2 : Int32)) hx hb dL_law_734 (by decide) ?_
  refine lv_iadd hx hb dL_law_735 ?_
  refine z_sld (v := p2) hx hb hX hbl hbA hS (hin 2 (by decide)) hp2 dL_law_736 ?_
  refine lv_aload_n hx hb dL_law_737 rfl (lv_at hl 0 rfl) ?_
  refine lv_iload_n hx hb dL_law_738 rfl (lv_at hl 3 rfl) ?_
  refine lv_iconst (v := (3 : Int32)) hx hb dL_law_739 (by decide) ?_
  refine lv_iadd hx hb dL_law_740 ?_
  refine z_sld (v := p3) hx hb hX hbl hbA hS (hin 3 (by decide)) hp3 dL_law_741 ?_
  refine zWi (wr := zpick (wXM G a am v r t vm rm tm) [1, 2, 3, 4, 8, 9, 10, 11, 12, 13, 14, 15, 16, 17, 18, 19, 20, 21, 22, 23, 24, 25, 26, 27, 28, 29, 30, 31, 32, 33, 34, 35, 36, 37, 38, 39, 40, 41, 42, 43, 52, 53, 54, 55, 56, 57, 58, 59, 60, 61, 62, 63, 64, 65]) (ws2 := wXM G a am v (updA (updA r 29 w0) 30 w1) t vm rm tm) (va_runV (As := [.int p1, .int p2, .int p3]) (rest := []) hC (c_X8_letting l G _ (a 0) (a 44) (a 5) (a 7) (a 6) (a 50) (a 45) (a 47) (a 49) (a 51) (a 46) (a 48) (a 1) (a 3) (a 12) (a 19) (a 27) (a 35) (a 43) (a 52) (a 55) (a 8) (a 9) (a 10) t (v 5) (v 6) (v 7) (r 3) (r 2) (r 29) (v 33) (v 34) (r 26) (r 28) (r 30) (r 25) (r 27) (p1) (p2) (p3) R0 w0 w1 h1) (cwV 3 hts gL_law_X8_letting rfl rfl rfl hd_X8_letting ⟨(Nat.le_of_ble_eq_true rfl), (Nat.le_of_ble_eq_true rfl)⟩) (zPVw hE hP hD [0, 44, 5, 7, 6, 50, 45, 47, 49, 51, 46, 48] rfl rfl 0 rfl rfl) rfl rfl hl.1 rfl (lv_room (Nat.le_of_ble_eq_true rfl)) dL_law_742 ⟨(Nat.le_of_ble_eq_true rfl), (Nat.le_of_ble_eq_true rfl)⟩) hP hD hS hA [0, 44, 5, 7, 6, 50, 45, 47, 49, 51, 46, 48] [1, 2, 3, 4, 8, 9, 10, 11, 12, 13, 14, 15, 16, 17, 18, 19, 20, 21, 22, 23, 24, 25, 26, 27, 28, 29, 30, 31, 32, 33, 34, 35, 36, 37, 38, 39, 40, 41, 42, 43, 52, 53, 54, 55, 56, 57, 58, 59, 60, 61, 62, 63, 64, 65] [54, 0, 1, 2, 3, 56, 58, 57, 4, 5, 6, 7, 8, 9, 10, 11, 12, 13, 14, 15, 16, 17, 18, 19, 20, 21, 22, 23, 24, 25, 26, 27, 28, 29, 30, 31, 32, 33, 34, 35, 36, 37, 38, 39, 55, 60, 64, 61, 65, 62, 59, 63, 40, 41, 42, 43, 44, 45, 46, 47, 48, 49, 50, 51, 52, 53] rfl rfl rfl rfl (by decide) rfl rfl rfl (fun H locs hP hD hS => ?_)
  refine lv_aload_n hx hb dL_law_745 rfl (lv_at hl 2 rfl) ?_
  refine lv_aload_n hx hb dL_law_746 rfl (lv_at hl 0 rfl) ?_
  refine lv_iload_n hx hb dL_law_747 rfl (lv_at hl 3 rfl) ?_
  refine lv_iconst (v := (1 : Int32)) hx hb dL_law_748 (by decide) ?_
  refine lv_iadd hx hb dL_law_749 ?_
  refine z_sld (v := p1) hx hb hX hbl hbA hS (hin 1 (by decide)) hp1 dL_law_750 ?_
  refine lv_aload_n hx hb dL_law_751 rfl (lv_at hl 0 rfl) ?_
  refine lv_iload_n hx hb dL_law_752 rfl (lv_at hl 3 rfl) ?_
  refine lv_iconst (v := (2 : Int32)) hx hb dL_law_753 (by decide) ?_
  refine lv_iadd hx hb dL_law_754 ?_
  refine z_sld (v := p2) hx hb hX hbl hbA hS (hin 2 (by decide)) hp2 dL_law_755 ?_
  refine lv_aload_n hx hb dL_law_756 rfl (lv_at hl 0 rfl) ?_
  refine lv_iload_n hx hb dL_law_757 rfl (lv_at hl 3 rfl) ?_
  refine lv_iconst (v := (3 : Int32)) hx hb dL_law_758 (by decide) ?_
  refine lv_iadd hx hb dL_law_759 ?_
  refine z_sld (v := p3) hx hb hX hbl hbA hS (hin 3 (by decide)) hp3 dL_law_760 ?_
  refine zWi (wr := zpick (wXM G a am v (updA (updA r 29 w0) 30 w1) t vm rm tm) [0, 1, 2, 3, 4, 5, 6, 7, 8, 9, 10, 11, 12, 13, 14, 15, 16, 17, 18, 19, 20, 21, 22, 23, 24, 25, 26, 27, 28, 29, 30, 31, 32, 33, 34, 35, 36, 37, 38, 39, 40, 41, 42, 43, 44, 45, 46, 47, 48, 49, 50, 51, 52, 53, 54, 55, 57, 59, 60, 61, 62, 63, 65]) (ws2 := wXM G a am v (updA (updA r 29 w0) 30 w1) t (upd vm 0 z0) rm tm) (va_runV (As := [.int p1, .int p2, .int p3]) (rest := [.int R0]) hC (c_X9_letting l G _ (am 0) (am 8) (am 2) (am 1) (am 3) (am 4) (am 5) (am 6) (am 7) (am 9) (vm 0) tm (vm 1) (vm 2) (vm 3) (vm 4) (vm 5) (vm 6) (vm 7) (vm 8) (vm 9) (vm 10) (vm 11) (vm 12) (vm 13) (vm 14) (vm 15) (rm 7) (rm 1) (p1) (p2) (p3) R0 z0 h2) (cwV 3 hts gL_law_X9_letting rfl rfl rfl hd_X9_letting ⟨(Nat.le_of_ble_eq_true rfl), (Nat.le_of_ble_eq_true rfl)⟩) (zPVw hE hP hD [56, 64, 58] rfl rfl 56 rfl rfl) rfl rfl hl.1 rfl (lv_room (Nat.le_of_ble_eq_true rfl)) dL_law_761 ⟨(Nat.le_of_ble_eq_true rfl), (Nat.le_of_ble_eq_true rfl)⟩) hP hD hS hA [56, 64, 58] [0, 1, 2, 3, 4, 5, 6, 7, 8, 9, 10, 11, 12, 13, 14, 15, 16, 17, 18, 19, 20, 21, 22, 23, 24, 25, 26, 27, 28, 29, 30, 31, 32, 33, 34, 35, 36, 37, 38, 39, 40, 41, 42, 43, 44, 45, 46, 47, 48, 49, 50, 51, 52, 53, 54, 55, 57, 59, 60, 61, 62, 63, 65] [0, 1, 2, 3, 4, 5, 6, 7, 8, 9, 10, 11, 12, 13, 14, 15, 16, 17, 18, 19, 20, 21, 22, 23, 24, 25, 26, 27, 28, 29, 30, 31, 32, 33, 34, 35, 36, 37, 38, 39, 40, 41, 42, 43, 44, 45, 46, 47, 48, 49, 50, 51, 52, 53, 54, 55, 63, 56, 65, 57, 58, 59, 60, 61, 64, 62] rfl rfl rfl rfl (by decide) rfl rfl rfl (fun H locs hP hD hS => ?_)
  refine lv_icmp_eq (tgt := 1007) hx hb dL_law_764 (by decide) (fun _ => ?_) (fun h => absurd rfl h)
  exact cont _ _ _ _ _ _ _ _ hI2 _ _ hP hD hS ls hl
set_option maxHeartbeats 4000000 in
set_option maxRecDepth 100000 in
theorem lc_saw {p : Program} {l : Launch} {e : Env} {s : State} {m : MethodId} {below : List Frame} {meth : Method} {c : Code} {G : zG} {KV : zKV} {b L : Nat} {xs : Nat → Int32} (C0 : lw_At p s m meth c b L xs) (hE : zE G s) (hZ : zS KV (zA s) s s.heap) {x3 : Int32} (hin : ∀ j : Nat, j < 7 → vp_in (x3 + nI j) L) (cont : lAt p l e s m below meth c G b x3 1007) : lAt p l e s m below meth c G b x3 769 := by
  intro a am v r t vm rm tm hI H locs hP hD hS ls hl
  obtain ⟨hx, hb, hr, hml, hown, hts0, hX, hbl, hlocks, hgv⟩ := C0
  have hts : ∀ w ∈ wsL_law, w.before #[Value.ref b] s = true := fun w h => hts0 w (wsL_law_in w h)
  have hbA : ¬ zA s b := Nat.not_le.mpr hbl
  have hA : ∀ q : Nat, s.heap.size ≤ q → zA s q := fun _ h => h
  have hC : CallFix p m c cL_law 4 s #[Value.ref b] wsL_law RL := ⟨hx, hb, hml, hown, hts⟩
  obtain ⟨p1, hp1⟩ : ∃ y : Int32, xs (x3 + (1 : Int32)).toNatClampNeg = y := ⟨_, rfl⟩
  obtain ⟨p2, hp2⟩ : ∃ y : Int32, xs (x3 + (2 : Int32)).toNatClampNeg = y := ⟨_, rfl⟩
  obtain ⟨R0, w0, w1, w2, z0, z1, z2, h1, h2, hI2⟩ := pm_saw v r t vm rm tm hI (p1) (p2)
  refine lv_aload_n hx hb dL_law_769 rfl (lv_at hl 1 rfl) ?_
  refine lv_aload_n hx hb dL_law_770 rfl (lv_at hl 0 rfl) ?_
  refine lv_iload_n hx hb dL_law_771 rfl (lv_at hl 3 rfl) ?_
  refine lv_iconst (v := (1 : Int32)) hx hb dL_law_772 (by decide) ?_
  refine lv_iadd hx hb dL_law_773 ?_
  refine z_sld (v := p1) hx hb hX hbl hbA hS (hin 1 (by decide)) hp1 dL_law_774 ?_
  refine lv_aload_n hx hb dL_law_775 rfl (lv_at hl 0 rfl) ?_
  refine lv_iload_n hx hb dL_law_776 rfl (lv_at hl 3 rfl) ?_
  refine lv_iconst (v := (2 : Int32)) hx hb dL_law_777 (by decide) ?_
  refine lv_iadd hx hb dL_law_778 ?_
  refine z_sld (v := p2) hx hb hX hbl hbA hS (hin 2 (by decide)) hp2 dL_law_779 ?_
  refine zWi (wr := zpick (wXM G a am v r t vm rm tm) [1, 2, 3, 4, 6, 7, 8, 9, 10, 11, 12, 13, 14, 15, 16, 17, 18, 19, 20, 21, 22, 23, 24, 25, 26, 27, 28, 29, 30, 31, 32, 33, 34, 35, 36, 37, 38, 39, 40, 41, 42, 43, 44, 45, 46, 47, 48, 49, 50, 51, 55, 56, 57, 58, 59, 60, 61, 62, 63, 64, 65]) (ws2 := wXM G a am (upd v 35 w0) (updA (updA r 31 w1) 32 w2) t vm rm tm) (va_runV (As := [.int p1, .int p2]) (rest := []) hC (c_X8_saw l G _ (a 0) (a 5) (a 52) (a 53) (a 54) (a 1) (a 3) (a 12) (a 19) (a 27) (a 35) (a 43) (a 44) (a 55) (a 6) (a 7) (a 8) (a 9) (a 10) t (v 5) (v 6) (v 7) (v 35) (r 31) (r 32) (p1) (p2) R0 w0 w1 w2 h1) (cwV 2 hts gL_law_X8_saw rfl rfl rfl hd_X8_saw ⟨(Nat.le_of_ble_eq_true rfl), (Nat.le_of_ble_eq_true rfl)⟩) (zPVw hE hP hD [0, 5, 52, 53, 54] rfl rfl 0 rfl rfl) rfl rfl hl.1 rfl (lv_room (Nat.le_of_ble_eq_true rfl)) dL_law_780 ⟨(Nat.le_of_ble_eq_true rfl), (Nat.le_of_ble_eq_true rfl)⟩) hP hD hS hA [0, 5, 52, 53, 54] [1, 2, 3, 4, 6, 7, 8, 9, 10, 11, 12, 13, 14, 15, 16, 17, 18, 19, 20, 21, 22, 23, 24, 25, 26, 27, 28, 29, 30, 31, 32, 33, 34, 35, 36, 37, 38, 39, 40, 41, 42, 43, 44, 45, 46, 47, 48, 49, 50, 51, 55, 56, 57, 58, 59, 60, 61, 62, 63, 64, 65] [61, 0, 1, 2, 3, 62, 4, 5, 6, 7, 8, 9, 10, 11, 12, 13, 14, 15, 16, 17, 18, 19, 20, 21, 22, 23, 24, 25, 26, 27, 28, 29, 30, 31, 32, 33, 34, 35, 36, 37, 38, 39, 40, 41, 42, 43, 44, 45, 46, 47, 48, 49, 63, 64, 65, 50, 51, 52, 53, 54, 55, 56, 57, 58, 59, 60] rfl rfl rfl rfl (by decide) rfl rfl rfl (fun H locs hP hD hS => ?_)
  refine lv_aload_n hx hb dL_law_783 rfl (lv_at hl 2 rfl) ?_
  refine lv_aload_n hx hb dL_law_784 rfl (lv_at hl 0 rfl) ?_
  refine lv_iload_n hx hb dL_law_785 rfl (lv_at hl 3 rfl) ?_
  refine lv_iconst (v := (1 : Int32)) hx hb dL_law_786 (by decide) ?_
  refine lv_iadd hx hb dL_law_787 ?_
  refine z_sld (v := p1) hx hb hX hbl hbA hS (hin 1 (by decide)) hp1 dL_law_788 ?_
  refine lv_aload_n hx hb dL_law_789 rfl (lv_at hl 0 rfl) ?_
  refine lv_iload_n hx hb dL_law_790 rfl (lv_at hl 3 rfl) ?_
  refine lv_iconst (v := (2 : Int32)) hx hb dL_law_791 (by decide) ?_
  refine lv_iadd hx hb dL_law_792 ?_
  refine z_sld (v := p2) hx hb hX hbl hbA hS (hin 2 (by decide)) hp2 dL_law_793 ?_
  refine zWi (wr := zpick (wXM G a am (upd v 35 w0) (updA (updA r 31 w1) 32 w2) t vm rm tm) [0, 1, 2, 3, 4, 5, 6, 7, 8, 9, 10, 11, 12, 13, 14, 15, 16, 17, 18, 19, 20, 21, 22, 23, 24, 25, 26, 27, 28, 29, 30, 31, 32, 33, 34, 35, 36, 37, 38, 39, 40, 41, 42, 43, 44, 45, 46, 47, 48, 49, 50, 51, 52, 53, 54, 55, 57, 58, 59, 60, 61, 62, 63, 64]) (ws2 := wXM G a am (upd v 35 w0) (updA (updA r 31 w1) 32 w2) t (upd (upd vm 0 z0) 15 z1) (updA rm 8 z2) tm) (va_runV (As := [.int p1, .int p2]) (rest := [.int R0]) hC (c_X9_saw l G _ (am 0) (am 9) (am 1) (am 2) (am 3) (am 4) (am 5) (am 6) (am 7) (am 8) (vm 0) tm (vm 1) (vm 2) (vm 3) (vm 4) (vm 5) (vm 6) (vm 7) (vm 8) (vm 9) (vm 10) (vm 11) (vm 12) (vm 13) (vm 14) (vm 15) (rm 8) (p1) (p2) R0 z0 z1 z2 h2) (cwV 2 hts gL_law_X9_saw rfl rfl rfl hd_X9_saw ⟨(Nat.le_of_ble_eq_true rfl), (Nat.le_of_ble_eq_true rfl)⟩) (zPVw hE hP hD [56, 65] rfl rfl 56 rfl rfl) rfl rfl hl.1 rfl (lv_room (Nat.le_of_ble_eq_true rfl)) dL_law_794 ⟨(Nat.le_of_ble_eq_true rfl), (Nat.le_of_ble_eq_true rfl)⟩) hP hD hS hA [56, 65] [0, 1, 2, 3, 4, 5, 6, 7, 8, 9, 10, 11, 12, 13, 14, 15, 16, 17, 18, 19, 20, 21, 22, 23, 24, 25, 26, 27, 28, 29, 30, 31, 32, 33, 34, 35, 36, 37, 38, 39, 40, 41, 42, 43, 44, 45, 46, 47, 48, 49, 50, 51, 52, 53, 54, 55, 57, 58, 59, 60, 61, 62, 63, 64] [0, 1, 2, 3, 4, 5, 6, 7, 8, 9, 10, 11, 12, 13, 14, 15, 16, 17, 18, 19, 20, 21, 22, 23, 24, 25, 26, 27, 28, 29, 30, 31, 32, 33, 34, 35, 36, 37, 38, 39, 40, 41, 42, 43, 44, 45, 46, 47, 48, 49, 50, 51, 52, 53, 54, 55, 64, 56, 57, 58, 59, 60, 61, 62, 63, 65] rfl rfl rfl rfl (by decide) rfl rfl rfl (fun H locs hP hD hS => ?_)
  refine lv_icmp_eq (tgt := 1007) hx hb dL_law_797 (by decide) (fun _ => ?_) (fun h => absurd rfl h)
  exact cont _ _ _ _ _ _ _ _ hI2 _ _ hP hD hS ls hl
set_option maxHeartbeats 4000000 in
set_option maxRecDepth 100000 in
theorem lc_forget {p : Program} {l : Launch} {e : Env} {s : State} {m : MethodId} {below : List Frame} {meth : Method} {c : Code} {G : zG} {KV : zKV} {b L : Nat} {xs : Nat → Int32} (C0 : lw_At p s m meth c b L xs) (hE : zE G s) (hZ : zS KV (zA s) s s.heap) {x3 : Int32} (hin : ∀ j : Nat, j < 7 → vp_in (x3 + nI j) L) (cont : lAt p l e s m below meth c G b x3 1007) : lAt p l e s m below meth c G b x3 802 := by
  intro a am v r t vm rm tm hI H locs hP hD hS ls hl
  obtain ⟨hx, hb, hr, hml, hown, hts0, hX, hbl, hlocks, hgv⟩ := C0
  have hts : ∀ w ∈ wsL_law, w.before #[Value.ref b] s = true := fun w h => hts0 w (wsL_law_in w h)
  have hbA : ¬ zA s b := Nat.not_le.mpr hbl
  have hA : ∀ q : Nat, s.heap.size ≤ q → zA s q := fun _ h => h
  have hC : CallFix p m c cL_law 4 s #[Value.ref b] wsL_law RL := ⟨hx, hb, hml, hown, hts⟩
  obtain ⟨R0, w0, z0, z1, h1, h2, hI2⟩ := pm_forget v r t vm rm tm hI 
  refine lv_aload_n hx hb dL_law_802 rfl (lv_at hl 1 rfl) ?_
  refine zWi (wr := zpick (wXM G a am v r t vm rm tm) [1, 2, 3, 4, 5, 6, 7, 8, 9, 10, 11, 12, 13, 14, 15, 16, 17, 18, 19, 20, 21, 22, 23, 24, 25, 26, 27, 28, 29, 30, 31, 32, 33, 34, 35, 36, 37, 38, 39, 40, 41, 42, 43, 44, 45, 46, 47, 48, 49, 50, 51, 53, 54, 55, 56, 57, 58, 59, 60, 61, 62, 63, 64, 65]) (ws2 := wXM G a am (upd v 35 w0) r t vm rm tm) (va_runV (As := []) (rest := []) hC (c_X8_forget l G _ (a 0) (a 52) (a 1) (a 3) (a 5) (a 12) (a 19) (a 27) (a 35) (a 43) (a 44) (a 55) (a 53) (a 54) t (v 35) R0 w0 h1) (cwV 0 hts gL_law_X8_forget rfl rfl rfl hd_X8_forget ⟨(Nat.le_of_ble_eq_true rfl), (Nat.le_of_ble_eq_true rfl)⟩) (zPVw hE hP hD [0, 52] rfl rfl 0 rfl rfl) rfl rfl hl.1 rfl (lv_room (Nat.le_of_ble_eq_true rfl)) dL_law_803 ⟨(Nat.le_of_ble_eq_true rfl), (Nat.le_of_ble_eq_true rfl)⟩) hP hD hS hA [0, 52] [1, 2, 3, 4, 5, 6, 7, 8, 9, 10, 11, 12, 13, 14, 15, 16, 17, 18, 19, 20, 21, 22, 23, 24, 25, 26, 27, 28, 29, 30, 31, 32, 33, 34, 35, 36, 37, 38, 39, 40, 41, 42, 43, 44, 45, 46, 47, 48, 49, 50, 51, 53, 54, 55, 56, 57, 58, 59, 60, 61, 62, 63, 64, 65] [64, 0, 1, 2, 3, 4, 5, 6, 7, 8, 9, 10, 11, 12, 13, 14, 15, 16, 17, 18, 19, 20, 21, 22, 23, 24, 25, 26, 27, 28, 29, 30, 31, 32, 33, 34, 35, 36, 37, 38, 39, 40, 41, 42, 43, 44, 45, 46, 47, 48, 49, 50, 65, 51, 52, 53, 54, 55, 56, 57, 58, 59, 60, 61, 62, 63] rfl rfl rfl rfl (by decide) rfl rfl rfl (fun H locs hP hD hS => ?_)
  refine lv_aload_n hx hb dL_law_806 rfl (lv_at hl 2 rfl) ?_
  refine zWi (wr := zpick (wXM G a am (upd v 35 w0) r t vm rm tm) [0, 1, 2, 3, 4, 5, 6, 7, 8, 9, 10, 11, 12, 13, 14, 15, 16, 17, 18, 19, 20, 21, 22, 23, 24, 25, 26, 27, 28, 29, 30, 31, 32, 33, 34, 35, 36, 37, 38, 39, 40, 41, 42, 43, 44, 45, 46, 47, 48, 49, 50, 51, 52, 53, 54, 55, 57, 58, 59, 60, 61, 62, 63, 64, 65]) (ws2 := wXM G a am (upd v 35 w0) r t (upd (upd vm 0 z0) 15 z1) rm tm) (va_runV (As := []) (rest := [.int R0]) hC (c_X9_forget l G _ (am 0) (am 1) (am 2) (am 3) (am 4) (am 5) (am 6) (am 7) (am 8) (am 9) (vm 0) tm (vm 1) (vm 2) (vm 3) (vm 4) (vm 5) (vm 6) (vm 7) (vm 8) (vm 9) (vm 10) (vm 11) (vm 12) (vm 13) (vm 14) (vm 15) R0 z0 z1 h2) (cwV 0 hts gL_law_X9_forget rfl rfl rfl hd_X9_forget ⟨(Nat.le_of_ble_eq_true rfl), (Nat.le_of_ble_eq_true rfl)⟩) (zPVw hE hP hD [56] rfl rfl 56 rfl rfl) rfl rfl hl.1 rfl (lv_room (Nat.le_of_ble_eq_true rfl)) dL_law_807 ⟨(Nat.le_of_ble_eq_true rfl), (Nat.le_of_ble_eq_true rfl)⟩) hP hD hS hA [56] [0, 1, 2, 3, 4, 5, 6, 7, 8, 9, 10, 11, 12, 13, 14, 15, 16, 17, 18, 19, 20, 21, 22, 23, 24, 25, 26, 27, 28, 29, 30, 31, 32, 33, 34, 35, 36, 37, 38, 39, 40, 41, 42, 43, 44, 45, 46, 47, 48, 49, 50, 51, 52, 53, 54, 55, 57, 58, 59, 60, 61, 62, 63, 64, 65] [0, 1, 2, 3, 4, 5, 6, 7, 8, 9, 10, 11, 12, 13, 14, 15, 16, 17, 18, 19, 20, 21, 22, 23, 24, 25, 26, 27, 28, 29, 30, 31, 32, 33, 34, 35, 36, 37, 38, 39, 40, 41, 42, 43, 44, 45, 46, 47, 48, 49, 50, 51, 52, 53, 54, 55, 65, 56, 57, 58, 59, 60, 61, 62, 63, 64] rfl rfl rfl rfl (by decide) rfl rfl rfl (fun H locs hP hD hS => ?_)
  refine lv_icmp_eq (tgt := 1007) hx hb dL_law_810 (by decide) (fun _ => ?_) (fun h => absurd rfl h)
  exact cont _ _ _ _ _ _ _ _ hI2 _ _ hP hD hS ls hl
