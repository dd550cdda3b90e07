set_option maxHeartbeats 4000000 in
set_option maxRecDepth 100000 in
theorem lc_dates {p : Program} {l : Launch} {e : Env} {s : State} {m : MethodId} {below : List Frame} {meth : Method} {c : Code} {G : zG} {KV : zKV} {b L : Nat} {xs : Nat → Int32} (C0 : lw_At p s m meth c b L xs) (hE : zE G s) (hZ : zS KV (zA s) s s.heap) {x3 : Int32} (hin : ∀ j : Nat, j < 7 → vp_in (x3 + nI j) L) (cont : lAt p l e s m below meth c G b x3 1007) : lAt p l e s m below meth c G b x3 815 := by
  intro a am v r t vm rm tm hI H locs hP hD hS ls hl
  obtain ⟨hx, hb, hr, hml, hown, hts0, hX, hbl, hlocks, hgv⟩ := C0
  have hts : ∀ w ∈ wsL_law, w.before #[Value.ref b] s = true := fun w h => hts0 w (wsL_law_in w h)
  have hbA : ¬ zA s b := Nat.not_le.mpr hbl
  have hA : ∀ q : Nat, s.heap.size ≤ q → zA s q := fun _ h => h
  have hC : CallFix p m c cL_law 4 s #[Value.ref b] wsL_law RL := ⟨hx, hb, hml, hown, hts⟩
  obtain ⟨p1, hp1⟩ : ∃ y : Int32, xs (x3 + (1 : Int32)).toNatClampNeg = y := ⟨_, rfl⟩
  obtain ⟨R0, z0, h1, h2, hI2⟩ := pm_dates v r t vm rm tm hI (p1)
  refine lv_aload_n hx hb dL_law_815 rfl (lv_at hl 1 rfl) ?_
  refine lv_aload_n hx hb dL_law_816 rfl (lv_at hl 0 rfl) ?_
  refine lv_iload_n hx hb dL_law_817 rfl (lv_at hl 3 rfl) ?_
  refine lv_iconst (v := (1 : Int32)) hx hb dL_law_818 (by decide) ?_
  refine lv_iadd hx hb dL_law_819 ?_
  refine z_sld (v := p1) hx hb hX hbl hbA hS (hin 1 (by decide)) hp1 dL_law_820 ?_
  refine zRi (va_runV (As := [.int p1]) (rest := []) hC (c_X8_dates l G (a 0) (a 52) (a 5) (a 53) (a 7) (a 6) (a 54) (a 1) (a 3) (a 12) (a 19) (a 27) (a 35) (a 43) (a 44) (a 55) (a 8) (a 9) (a 10) t (v 35) (v 5) (v 6) (v 7) (r 31) (r 3) (r 2) (r 32) (p1) R0 h1) (cwV 1 hts gL_law_X8_dates rfl rfl rfl hd_X8_dates ⟨(Nat.le_of_ble_eq_true rfl), (Nat.le_of_ble_eq_true rfl)⟩) (zPV hE hP [0, 52, 5, 53, 7, 6, 54] rfl 0 rfl rfl) rfl rfl hl.1 rfl (lv_room (Nat.le_of_ble_eq_true rfl)) dL_law_821 ⟨(Nat.le_of_ble_eq_true rfl), (Nat.le_of_ble_eq_true rfl)⟩) ?_
  refine lv_aload_n hx hb dL_law_824 rfl (lv_at hl 2 rfl) ?_
  refine lv_aload_n hx hb dL_law_825 rfl (lv_at hl 0 rfl) ?_
  refine lv_iload_n hx hb dL_law_826 rfl (lv_at hl 3 rfl) ?_
  refine lv_iconst (v := (1 : Int32)) hx hb dL_law_827 (by decide) ?_
  refine lv_iadd hx hb dL_law_828 ?_
  refine z_sld (v := p1) hx hb hX hbl hbA hS (hin 1 (by decide)) hp1 dL_law_829 ?_
  refine zWi (wr := zpick (wXM G a am v r t vm rm tm) [0, 1, 2, 3, 4, 5, 6, 7, 8, 9, 10, 11, 12, 13, 14, 15, 16, 17, 18, 19, 20, 21, 22, 23, 24, 25, 26, 27, 28, 29, 30, 31, 32, 33, 34, 35, 36, 37, 38, 39, 40, 41, 42, 43, 44, 45, 46, 47, 48, 49, 50, 51, 52, 53, 54, 55, 57, 59, 60, 61, 62, 63, 64]) (ws2 := wXM G a am v r t (upd vm 0 z0) rm tm) (va_runV (As := [.int p1]) (rest := [.int R0]) hC (c_X9_dates l G _ (am 0) (am 9) (am 2) (am 1) (am 3) (am 4) (am 5) (am 6) (am 7) (am 8) (vm 0) tm (vm 1) (vm 2) (vm 3) (vm 4) (vm 5) (vm 6) (vm 7) (vm 8) (vm 9) (vm 10) (vm 11) (vm 12) (vm 13) (vm 14) (vm 15) (rm 8) (rm 1) (p1) R0 z0 h2) (cwV 1 hts gL_law_X9_dates rfl rfl rfl hd_X9_dates ⟨(Nat.le_of_ble_eq_true rfl), (Nat.le_of_ble_eq_true rfl)⟩) (zPVw hE hP hD [56, 65, 58] rfl rfl 56 rfl rfl) rfl rfl hl.1 rfl (lv_room (Nat.le_of_ble_eq_true rfl)) dL_law_830 ⟨(Nat.le_of_ble_eq_true rfl), (Nat.le_of_ble_eq_true rfl)⟩) hP hD hS hA [56, 65, 58] [0, 1, 2, 3, 4, 5, 6, 7, 8, 9, 10, 11, 12, 13, 14, 15, 16, 17, 18, 19, 20, 21, 22, 23, 24, 25, 26, 27, 28, 29, 30, 31, 32, 33, 34, 35, 36, 37, 38, 39, 40, 41, 42, 43, 44, 45, 46, 47, 48, 49, 50, 51, 52, 53, 54, 55, 57, 59, 60, 61, 62, 63, 64] [0, 1, 2, 3, 4, 5, 6, 7, 8, 9, 10, 11, 12, 13, 14, 15, 16, 17, 18, 19, 20, 21, 22, 23, 24, 25, 26, 27, 28, 29, 30, 31, 32, 33, 34, 35, 36, 37, 38, 39, 40, 41, 42, 43, 44, 45, 46, 47, 48, 49, 50, 51, 52, 53, 54, 55, 63, 56, 65, 57, 58, 59, 60, 61, 62, 64] rfl rfl rfl rfl (by decide) rfl rfl rfl (fun H locs hP hD hS => ?_)
  refine lv_icmp_eq (tgt := 1007) hx hb dL_law_833 (by decide) (fun _ => ?_) (fun h => absurd rfl h)
  exact cont _ _ _ _ _ _ _ _ hI2 _ _ hP hD hS ls hl
set_option maxHeartbeats 4000000 in
set_option maxRecDepth 100000 in
theorem lc_odds {p : Program} {l : Launch} {e : Env} {s : State} {m : MethodId} {below : List Frame} {meth : Method} {c : Code} {G : zG} {KV : zKV} {b L : Nat} {xs : Nat → Int32} (C0 : lw_At p s m meth c b L xs) (hE : zE G s) (hZ : zS KV (zA s) s s.heap) {x3 : Int32} (hin : ∀ j : Nat, j < 7 → vp_in (x3 + nI j) L) (cont : lAt p l e s m below meth c G b x3 1007) : lAt p l e s m below meth c G b x3 838 := by
  intro a am v r t vm rm tm hI H locs hP hD hS ls hl
  obtain ⟨hx, hb, hr, hml, hown, hts0, hX, hbl, hlocks, hgv⟩ := C0
  have hts : ∀ w ∈ wsL_law, w.before #[Value.ref b] s = true := fun w h => hts0 w (wsL_law_in w h)
  have hbA : ¬ zA s b := Nat.not_le.mpr hbl
  have hA : ∀ q : Nat, s.heap.size ≤ q → zA s q := fun _ h => h
  have hC : CallFix p m c cL_law 4 s #[Value.ref b] wsL_law RL := ⟨hx, hb, hml, hown, hts⟩
  obtain ⟨p1, hp1⟩ : ∃ y : Int32, xs (x3 + (1 : Int32)).toNatClampNeg = y := ⟨_, rfl⟩
  obtain ⟨p2, hp2⟩ : ∃ y : Int32, xs (x3 + (2 : Int32)).toNatClampNeg = y := ⟨_, rfl⟩
  obtain ⟨p3, hp3⟩ : ∃ y : Int32, xs (x3 + (3 : Int32)).toNatClampNeg = y := ⟨_, rfl⟩
  obtain ⟨p4, hp4⟩ : ∃ y : Int32, xs (x3 + (4 : Int32)).toNatClampNeg = y := ⟨_, rfl⟩
  obtain ⟨R0, w0, z0, h1, h2, hI2⟩ := pm_odds v r t vm rm tm hI (p1) (p2) (p3) (p4)
  refine lv_aload_n hx hb dL_law_838 rfl (lv_at hl 1 rfl) ?_
  refine lv_aload_n hx hb dL_law_839 rfl (lv_at hl 0 rfl) ?_
  refine lv_iload_n hx hb dL_law_840 rfl (lv_at hl 3 rfl) ?_
  refine lv_iconst (v := (1 : Int32)) hx hb dL_law_841 (by decide) ?_
  refine lv_iadd hx hb dL_law_842 ?_
  refine z_sld (v := p1) hx hb hX hbl hbA hS (hin 1 (by decide)) hp1 dL_law_843 ?_
  refine lv_aload_n hx hb dL_law_844 rfl (lv_at hl 0 rfl) ?_
  refine lv_iload_n hx hb dL_law_845 rfl (lv_at hl 3 rfl) ?_
  refine lv_iconst (v := (2 : Int32)) hx hb dL_law_846 (by decide) ?_
  refine lv_iadd hx hb dL_law_847 ?_
  refine z_sld (v := p2) hx hb hX hbl hbA hS (hin 2 (by decide)) hp2 dL_law_848 ?_
  refine lv_aload_n hx hb dL_law_849 rfl (lv_at hl 0 rfl) ?_
  refine lv_iload_n hx hb dL_law_850 rfl (lv_at hl 3 rfl) ?_
  refine lv_iconst (v := (3 : Int32)) hx hb dL_law_851 (by decide) ?_
  refine lv_iadd hx hb dL_law_852 ?_
  refine z_sld (v := p3) hx hb hX hbl hbA hS (hin 3 (by decide)) hp3 dL_law_853 ?_
  refine lv_aload_n hx hb dL_law_854 rfl (lv_at hl 0 rfl) ?_
  refine lv_iload_n hx hb dL_law_855 rfl (lv_at hl 3 rfl) ?_
  refine lv_iconst (v := (4 : Int32)) hx hb dL_law_856 (by decide) ?_
  refine lv_iadd hx hb dL_law_857 ?_
  refine z_sld (v := p4) hx hb hX hbl hbA hS (hin 4 (by decide)) hp4 dL_law_858 ?_
  refine zWi (wr := zpick (wXM G a am v r t vm rm tm) [1, 2, 3, 4, 9, 10, 11, 12, 13, 14, 15, 16, 17, 18, 20, 23, 24, 25, 26, 27, 28, 29, 30, 31, 32, 33, 34, 35, 36, 37, 38, 39, 40, 41, 42, 43, 44, 45, 46, 47, 48, 49, 50, 51, 52, 53, 54, 56, 57, 58, 59, 60, 61, 62, 63, 64, 65]) (ws2 := wXM G a am v (updA r 33 w0) t vm rm tm) (va_runV (As := [.int p1, .int p2, .int p3, .int p4]) (rest := []) hC (c_X8_odds l G _ (a 0) (a 5) (a 55) (a 19) (a 7) (a 6) (a 21) (a 22) (a 8) (a 1) (a 3) (a 12) (a 27) (a 35) (a 43) (a 44) (a 52) (a 9) (a 10) (a 20) (a 23) t (v 5) (v 6) (v 7) (r 33) (v 15) (v 16) (r 3) (r 2) (v 17) (v 18) (r 13) (r 4) (p1) (p2) (p3) (p4) R0 w0 h1) (cwV 4 hts gL_law_X8_odds rfl rfl rfl hd_X8_odds ⟨(Nat.le_of_ble_eq_true rfl), (Nat.le_of_ble_eq_true rfl)⟩) (zPVw hE hP hD [0, 5, 55, 19, 7, 6, 21, 22, 8] rfl rfl 0 rfl rfl) rfl rfl hl.1 rfl (lv_room (Nat.le_of_ble_eq_true rfl)) dL_law_859 ⟨(Nat.le_of_ble_eq_true rfl), (Nat.le_of_ble_eq_true rfl)⟩) hP hD hS hA [0, 5, 55, 19, 7, 6, 21, 22, 8] [1, 2, 3, 4, 9, 10, 11, 12, 13, 14, 15, 16, 17, 18, 20, 23, 24, 25, 26, 27, 28, 29, 30, 31, 32, 33, 34, 35, 36, 37, 38, 39, 40, 41, 42, 43, 44, 45, 46, 47, 48, 49, 50, 51, 52, 53, 54, 56, 57, 58, 59, 60, 61, 62, 63, 64, 65] [57, 0, 1, 2, 3, 58, 62, 61, 65, 4, 5, 6, 7, 8, 9, 10, 11, 12, 13, 60, 14, 63, 64, 15, 16, 17, 18, 19, 20, 21, 22, 23, 24, 25, 26, 27, 28, 29, 30, 31, 32, 33, 34, 35, 36, 37, 38, 39, 40, 41, 42, 43, 44, 45, 46, 59, 47, 48, 49, 50, 51, 52, 53, 54, 55, 56] rfl rfl rfl rfl (by decide) rfl rfl rfl (fun H locs hP hD hS => ?_)
  refine lv_aload_n hx hb dL_law_862 rfl (lv_at hl 2 rfl) ?_
  refine lv_aload_n hx hb dL_law_863 rfl (lv_at hl 0 rfl) ?_
  refine lv_iload_n hx hb dL_law_864 rfl (lv_at hl 3 rfl) ?_
  refine lv_iconst (v := (1 : Int32)) hx hb dL_law_865 (by decide) ?_
  refine lv_iadd hx hb dL_law_866 ?_
  refine z_sld (v := p1) hx hb hX hbl hbA hS (hin 1 (by decide)) hp1 dL_law_867 ?_
  refine lv_aload_n hx hb dL_law_868 rfl (lv_at hl 0 rfl) ?_
  refine lv_iload_n hx hb dL_law_869 rfl (lv_at hl 3 rfl) ?_
  refine lv_iconst (v := (2 : Int32)) hx hb dL_law_870 (by decide) ?_
  refine lv_iadd hx hb dL_law_871 ?_
  refine z_sld (v := p2) hx hb hX hbl hbA hS (hin 2 (by decide)) hp2 dL_law_872 ?_
  refine lv_aload_n hx hb dL_law_873 rfl (lv_at hl 0 rfl) ?_
  refine lv_iload_n hx hb dL_law_874 rfl (lv_at hl 3 rfl) ?_
  refine lv_iconst (v := (3 : Int32)) hx hb dL_law_875 (by decide) ?_
  refine lv_iadd hx hb dL_law_876 ?_
  refine z_sld (v := p3) hx hb hX hbl hbA hS (hin 3 (by decide)) hp3 dL_law_877 ?_
  refine lv_aload_n hx hb dL_law_878 rfl (lv_at hl 0 rfl) ?_
  refine lv_iload_n hx hb dL_law_879 rfl (lv_at hl 3 rfl) ?_
  refine lv_iconst (v := (4 : Int32)) hx hb dL_law_880 (by decide) ?_
  refine lv_iadd hx hb dL_law_881 ?_
  refine z_sld (v := p4) hx hb hX hbl hbA hS (hin 4 (by decide)) hp4 dL_law_882 ?_
  refine zWi (wr := zpick (wXM G a am v (updA r 33 w0) t vm rm tm) [0, 1, 2, 3, 4, 5, 6, 7, 8, 9, 10, 11, 12, 13, 14, 15, 16, 17, 18, 19, 20, 21, 22, 23, 24, 25, 26, 27, 28, 29, 30, 31, 32, 33, 34, 35, 36, 37, 38, 39, 40, 41, 42, 43, 44, 45, 46, 47, 48, 49, 50, 51, 52, 53, 54, 55, 57, 59, 60, 62, 63, 64, 65]) (ws2 := wXM G a am v (updA r 33 w0) t (upd vm 0 z0) rm tm) (va_runV (As := [.int p1, .int p2, .int p3, .int p4]) (rest := [.int R0]) hC (c_X9_odds l G _ (am 0) (am 5) (am 2) (am 1) (am 3) (am 4) (am 6) (am 7) (am 8) (am 9) (vm 0) tm (vm 1) (vm 2) (vm 3) (vm 4) (vm 5) (vm 6) (vm 7) (vm 8) (vm 9) (vm 10) (vm 11) (vm 12) (vm 13) (vm 14) (vm 15) (rm 4) (rm 1) (p1) (p2) (p3) (p4) R0 z0 h2) (cwV 4 hts gL_law_X9_odds rfl rfl rfl hd_X9_odds ⟨(Nat.le_of_ble_eq_true rfl), (Nat.le_of_ble_eq_true rfl)⟩) (zPVw hE hP hD [56, 61, 58] rfl rfl 56 rfl rfl) rfl rfl hl.1 rfl (lv_room (Nat.le_of_ble_eq_true rfl)) dL_law_883 ⟨(Nat.le_of_ble_eq_true rfl), (Nat.le_of_ble_eq_true rfl)⟩) hP hD hS hA [56, 61, 58] [0, 1, 2, 3, 4, 5, 6, 7, 8, 9, 10, 11, 12, 13, 14, 15, 16, 17, 18, 19, 20, 21, 22, 23, 24, 25, 26, 27, 28, 29, 30, 31, 32, 33, 34, 35, 36, 37, 38, 39, 40, 41, 42, 43, 44, 45, 46, 47, 48, 49, 50, 51, 52, 53, 54, 55, 57, 59, 60, 62, 63, 64, 65] [0, 1, 2, 3, 4, 5, 6, 7, 8, 9, 10, 11, 12, 13, 14, 15, 16, 17, 18, 19, 20, 21, 22, 23, 24, 25, 26, 27, 28, 29, 30, 31, 32, 33, 34, 35, 36, 37, 38, 39, 40, 41, 42, 43, 44, 45, 46, 47, 48, 49, 50, 51, 52, 53, 54, 55, 63, 56, 65, 57, 58, 64, 59, 60, 61, 62] rfl rfl rfl rfl (by decide) rfl rfl rfl (fun H locs hP hD hS => ?_)
  refine lv_icmp_eq (tgt := 1007) hx hb dL_law_886 (by decide) (fun _ => ?_) (fun h => absurd rfl h)
  exact cont _ _ _ _ _ _ _ _ hI2 _ _ hP hD hS ls hl
set_option maxHeartbeats 4000000 in
set_option maxRecDepth 100000 in
theorem lc_rate {p : Program} {l : Launch} {e : Env} {s : State} {m : MethodId} {below : List Frame} {meth : Method} {c : Code} {G : zG} {KV : zKV} {b L : Nat} {xs : Nat → Int32} (C0 : lw_At p s m meth c b L xs) (hE : zE G s) (hZ : zS KV (zA s) s s.heap) {x3 : Int32} (hin : ∀ j : Nat, j < 7 → vp_in (x3 + nI j) L) (cont : lAt p l e s m below meth c G b x3 1007) : lAt p l e s m below meth c G b x3 891 := by
  intro a am v r t vm rm tm hI H locs hP hD hS ls hl
  obtain ⟨hx, hb, hr, hml, hown, hts0, hX, hbl, hlocks, hgv⟩ := C0
  have hts : ∀ w ∈ wsL_law, w.before #[Value.ref b] s = true := fun w h => hts0 w (wsL_law_in w h)
  have hbA : ¬ zA s b := Nat.not_le.mpr hbl
  have hA : ∀ q : Nat, s.heap.size ≤ q → zA s q := fun _ h => h
  have hC : CallFix p m c cL_law 4 s #[Value.ref b] wsL_law RL := ⟨hx, hb, hml, hown, hts⟩
  obtain ⟨p1, hp1⟩ : ∃ y : Int32, xs (x3 + (1 : Int32)).toNatClampNeg = y := ⟨_, rfl⟩
  obtain ⟨p2, hp2⟩ : ∃ y : Int32, xs (x3 + (2 : Int32)).toNatClampNeg = y := ⟨_, rfl⟩
  obtain ⟨R0, w0, z0, z1, h1, h2, hI2⟩ := pm_rate v r t vm rm tm hI (p1) (p2)
  refine lv_aload_n hx hb dL_law_891 rfl (lv_at hl 1 rfl) ?_
  refine lv_aload_n hx hb dL_law_892 rfl (lv_at hl 0 rfl) ?_
  refine lv_iload_n hx hb dL_law_893 rfl (lv_at hl 3 rfl) ?_
  refine lv_iconst (v := (1 : Int32)) hx hb dL_law_894 (by decide) ?_
  refine lv_iadd hx hb dL_law_895 ?_
  refine z_sld (v := p1) hx hb hX hbl hbA hS (hin 1 (by decide)) hp1 dL_law_896 ?_
  refine lv_aload_n hx hb dL_law_897 rfl (lv_at hl 0 rfl) ?_
  refine lv_iload_n hx hb dL_law_898 rfl (lv_at hl 3 rfl) ?_
  refine lv_iconst (v := (2 : Int32)) hx hb dL_law_899 (by decide) ?_
  refine lv_iadd hx hb dL_law_900 ?_
  refine z_sld (v := p2) hx hb hX hbl hbA hS (hin 2 (by decide)) hp2 dL_law_901 ?_
  refine zWi (wr := zpick (wXM G a am v r t vm rm tm) [1, 2, 3, 4, 6, 7, 8, 9, 10, 11, 12, 13, 14, 15, 16, 17, 18, 23, 24, 25, 26, 27, 28, 29, 30, 31, 32, 33, 34, 35, 36, 37, 38, 39, 40, 41, 42, 43, 44, 45, 46, 47, 48, 49, 50, 51, 52, 53, 54, 55, 56, 57, 58, 59, 60, 61, 62, 63, 64, 65]) (ws2 := wXM G a am v r w0 vm rm tm) (va_runV (As := [.int p1, .int p2]) (rest := []) hC (c_X8_rate l G _ (a 0) (a 5) (a 19) (a 20) (a 21) (a 22) (a 1) (a 3) (a 12) (a 27) (a 35) (a 43) (a 44) (a 52) (a 55) (a 6) (a 7) (a 8) (a 9) (a 10) (a 23) t (v 5) (v 6) (v 7) (v 15) (v 16) (r 12) (v 17) (v 18) (r 13) (p1) (p2) R0 w0 h1) (cwV 2 hts gL_law_X8_rate rfl rfl rfl hd_X8_rate ⟨(Nat.le_of_ble_eq_true rfl), (Nat.le_of_ble_eq_true rfl)⟩) (zPVw hE hP hD [0, 5, 19, 20, 21, 22] rfl rfl 0 rfl rfl) rfl rfl hl.1 rfl (lv_room (Nat.le_of_ble_eq_true rfl)) dL_law_902 ⟨(Nat.le_of_ble_eq_true rfl), (Nat.le_of_ble_eq_true rfl)⟩) hP hD hS hA [0, 5, 19, 20, 21, 22] [1, 2, 3, 4, 6, 7, 8, 9, 10, 11, 12, 13, 14, 15, 16, 17, 18, 23, 24, 25, 26, 27, 28, 29, 30, 31, 32, 33, 34, 35, 36, 37, 38, 39, 40, 41, 42, 43, 44, 45, 46, 47, 48, 49, 50, 51, 52, 53, 54, 55, 56, 57, 58, 59, 60, 61, 62, 63, 64, 65] [60, 0, 1, 2, 3, 61, 4, 5, 6, 7, 8, 9, 10, 11, 12, 13, 14, 15, 16, 62, 63, 64, 65, 17, 18, 19, 20, 21, 22, 23, 24, 25, 26, 27, 28, 29, 30, 31, 32, 33, 34, 35, 36, 37, 38, 39, 40, 41, 42, 43, 44, 45, 46, 47, 48, 49, 50, 51, 52, 53, 54, 55, 56, 57, 58, 59] rfl rfl rfl rfl (by decide) rfl rfl rfl (fun H locs hP hD hS => ?_)
  refine lv_aload_n hx hb dL_law_905 rfl (lv_at hl 2 rfl) ?_
  refine lv_aload_n hx hb dL_law_906 rfl (lv_at hl 0 rfl) ?_
  refine lv_iload_n hx hb dL_law_907 rfl (lv_at hl 3 rfl) ?_
  refine lv_iconst (v := (1 : Int32)) hx hb dL_law_908 (by decide) ?_
  refine lv_iadd hx hb dL_law_909 ?_
  refine z_sld (v := p1) hx hb hX hbl hbA hS (hin 1 (by decide)) hp1 dL_law_910 ?_
  refine lv_aload_n hx hb dL_law_911 rfl (lv_at hl 0 rfl) ?_
  refine lv_iload_n hx hb dL_law_912 rfl (lv_at hl 3 rfl) ?_
  refine lv_iconst (v := (2 : Int32)) hx hb dL_law_913 (by decide) ?_
  refine lv_iadd hx hb dL_law_914 ?_
  refine z_sld (v := p2) hx hb hX hbl hbA hS (hin 2 (by decide)) hp2 dL_law_915 ?_
  refine zWi (wr := zpick (wXM G a am v r w0 vm rm tm) [0, 1, 2, 3, 4, 5, 6, 7, 8, 9, 10, 11, 12, 13, 14, 15, 16, 17, 18, 19, 20, 21, 22, 23, 24, 25, 26, 27, 28, 29, 30, 31, 32, 33, 34, 35, 36, 37, 38, 39, 40, 41, 42, 43, 44, 45, 46, 47, 48, 49, 50, 51, 52, 53, 54, 55, 57, 58, 59, 60, 62, 63, 64, 65]) (ws2 := wXM G a am v r w0 (upd vm 0 z0) rm z1) (va_runV (As := [.int p1, .int p2]) (rest := [.int R0]) hC (c_X9_rate l G _ (am 0) (am 5) (am 1) (am 2) (am 3) (am 4) (am 6) (am 7) (am 8) (am 9) (vm 0) tm (vm 1) (vm 2) (vm 3) (vm 4) (vm 5) (vm 6) (vm 7) (vm 8) (vm 9) (vm 10) (vm 11) (vm 12) (vm 13) (vm 14) (vm 15) (rm 4) (p1) (p2) R0 z0 z1 h2) (cwV 2 hts gL_law_X9_rate rfl rfl rfl hd_X9_rate ⟨(Nat.le_of_ble_eq_true rfl), (Nat.le_of_ble_eq_true rfl)⟩) (zPVw hE hP hD [56, 61] rfl rfl 56 rfl rfl) rfl rfl hl.1 rfl (lv_room (Nat.le_of_ble_eq_true rfl)) dL_law_916 ⟨(Nat.le_of_ble_eq_true rfl), (Nat.le_of_ble_eq_true rfl)⟩) hP hD hS hA [56, 61] [0, 1, 2, 3, 4, 5, 6, 7, 8, 9, 10, 11, 12, 13, 14, 15, 16, 17, 18, 19, 20, 21, 22, 23, 24, 25, 26, 27, 28, 29, 30, 31, 32, 33, 34, 35, 36, 37, 38, 39, 40, 41, 42, 43, 44, 45, 46, 47, 48, 49, 50, 51, 52, 53, 54, 55, 57, 58, 59, 60, 62, 63, 64, 65] [0, 1, 2, 3, 4, 5, 6, 7, 8, 9, 10, 11, 12, 13, 14, 15, 16, 17, 18, 19, 20, 21, 22, 23, 24, 25, 26, 27, 28, 29, 30, 31, 32, 33, 34, 35, 36, 37, 38, 39, 40, 41, 42, 43, 44, 45, 46, 47, 48, 49, 50, 51, 52, 53, 54, 55, 64, 56, 57, 58, 59, 65, 60, 61, 62, 63] rfl rfl rfl rfl (by decide) rfl rfl rfl (fun H locs hP hD hS => ?_)
  refine lv_icmp_eq (tgt := 1007) hx hb dL_law_919 (by decide) (fun _ => ?_) (fun h => absurd rfl h)
  exact cont _ _ _ _ _ _ _ _ hI2 _ _ hP hD hS ls hl
set_option maxHeartbeats 4000000 in
set_option maxRecDepth 100000 in
theorem lc_keep {p : Program} {l : Launch} {e : Env} {s : State} {m : MethodId} {below : List Frame} {meth : Method} {c : Code} {G : zG} {KV : zKV} {b L : Nat} {xs : Nat → Int32} (C0 : lw_At p s m meth c b L xs) (hE : zE G s) (hZ : zS KV (zA s) s s.heap) {x3 : Int32} (hin : ∀ j : Nat, j < 7 → vp_in (x3 + nI j) L) (cont : lAt p l e s m below meth c G b x3 1007) : lAt p l e s m below meth c G b x3 924 := by
  intro a am v r t vm rm tm hI H locs hP hD hS ls hl
  obtain ⟨hx, hb, hr, hml, hown, hts0, hX, hbl, hlocks, hgv⟩ := C0
  have hts : ∀ w ∈ wsL_law, w.before #[Value.ref b] s = true := fun w h => hts0 w (wsL_law_in w h)
  have hbA : ¬ zA s b := Nat.not_le.mpr hbl
  have hA : ∀ q : Nat, s.heap.size ≤ q → zA s q := fun _ h => h
  have hC : CallFix p m c cL_law 4 s #[Value.ref b] wsL_law RL := ⟨hx, hb, hml, hown, hts⟩
  obtain ⟨p1, hp1⟩ : ∃ y : Int32, xs (x3 + (1 : Int32)).toNatClampNeg = y := ⟨_, rfl⟩
  obtain ⟨R0, w0, w1, w2, w3, w4, w5, w6, w7, w8, w9, w10, w11, w12, w13, w14, w15, w16, z0, z1, z2, h1, h2, hI2⟩ := pm_keep v r t vm rm tm hI (p1)
  refine lv_aload_n hx hb dL_law_924 rfl (lv_at hl 1 rfl) ?_
  refine lv_aload_n hx hb dL_law_925 rfl (lv_at hl 0 rfl) ?_
  refine lv_iload_n hx hb dL_law_926 rfl (lv_at hl 3 rfl) ?_
  refine lv_iconst (v := (1 : Int32)) hx hb dL_law_927 (by decide) ?_
  refine lv_iadd hx hb dL_law_928 ?_
  refine z_sld (v := p1) hx hb hX hbl hbA hS (hin 1 (by decide)) hp1 dL_law_929 ?_
  refine zWi (wr := zpick (wXM G a am v r t vm rm tm) [1, 2, 3, 4, 5, 6, 7, 8, 9, 10, 11, 12, 13, 14, 15, 16, 17, 18, 44, 45, 46, 47, 48, 49, 50, 51, 52, 53, 54, 55, 56, 57, 58, 59, 60, 61, 62, 63, 64, 65]) (ws2 := wXM G a am (upd (upd (upd (upd (upd (upd (upd (upd v 21 w0) 22 w1) 24 w3) 26 w5) 27 w9) 28 w10) 30 w12) 32 w14) (updA (updA (updA (updA (updA (updA (updA (updA (updA r 16 w2) 17 w4) 18 w6) 19 w7) 24 w8) 20 w11) 21 w13) 22 w15) 23 w16) t vm rm tm) (va_runV (As := [.int p1]) (rest := []) hC (c_X8_keep l G _ (a 0) (a 27) (a 19) (a 20) (a 28) (a 29) (a 21) (a 30) (a 22) (a 31) (a 23) (a 32) (a 24) (a 33) (a 25) (a 26) (a 34) (a 43) (a 35) (a 36) (a 37) (a 38) (a 39) (a 40) (a 41) (a 42) (a 1) (a 3) (a 5) (a 12) (a 44) (a 52) (a 55) t (v 21) (v 22) (v 15) (v 16) (r 12) (r 16) (v 23) (v 24) (v 17) (v 18) (r 17) (r 13) (v 25) (v 26) (v 19) (v 20) (r 18) (r 14) (r 15) (r 19) (r 24) (v 27) (v 28) (r 20) (v 29) (v 30) (r 21) (v 31) (v 32) (r 22) (r 23) (p1) R0 w0 w1 w2 w3 w4 w5 w6 w7 w8 w9 w10 w11 w12 w13 w14 w15 w16 h1) (cwV 1 hts gL_law_X8_keep rfl rfl rfl hd_X8_keep ⟨(Nat.le_of_ble_eq_true rfl), (Nat.le_of_ble_eq_true rfl)⟩) (zPVw hE hP hD [0, 27, 19, 20, 28, 29, 21, 30, 22, 31, 23, 32, 24, 33, 25, 26, 34, 43, 35, 36, 37, 38, 39, 40, 41, 42] rfl rfl 0 rfl rfl) rfl rfl hl.1 rfl (lv_room (Nat.le_of_ble_eq_true rfl)) dL_law_930 ⟨(Nat.le_of_ble_eq_true rfl), (Nat.le_of_ble_eq_true rfl)⟩) hP hD hS hA [0, 27, 19, 20, 28, 29, 21, 30, 22, 31, 23, 32, 24, 33, 25, 26, 34, 43, 35, 36, 37, 38, 39, 40, 41, 42] [1, 2, 3, 4, 5, 6, 7, 8, 9, 10, 11, 12, 13, 14, 15, 16, 17, 18, 44, 45, 46, 47, 48, 49, 50, 51, 52, 53, 54, 55, 56, 57, 58, 59, 60, 61, 62, 63, 64, 65] [40, 0, 1, 2, 3, 4, 5, 6, 7, 8, 9, 10, 11, 12, 13, 14, 15, 16, 17, 42, 43, 46, 48, 50, 52, 54, 55, 41, 44, 45, 47, 49, 51, 53, 56, 58, 59, 60, 61, 62, 63, 64, 65, 57, 18, 19, 20, 21, 22, 23, 24, 25, 26, 27, 28, 29, 30, 31, 32, 33, 34, 35, 36, 37, 38, 39] rfl rfl rfl rfl (by decide) rfl rfl rfl (fun H locs hP hD hS => ?_)
  refine lv_aload_n hx hb dL_law_933 rfl (lv_at hl 2 rfl) ?_
  refine lv_aload_n hx hb dL_law_934 rfl (lv_at hl 0 rfl) ?_
  refine lv_iload_n hx hb dL_law_935 rfl (lv_at hl 3 rfl) ?_
  refine lv_iconst (v := (1 : Int32)) hx hb dL_law_936 (by decide) ?_
  refine lv_iadd hx hb dL_law_937 ?_
  refine z_sld (v := p1) hx hb hX hbl hbA hS (hin 1 (by decide)) hp1 dL_law_938 ?_
  refine zWi (wr := zpick (wXM G a am (upd (upd (upd (upd (upd (upd (upd (upd v 21 w0) 22 w1) 24 w3) 26 w5) 27 w9) 28 w10) 30 w12) 32 w14) (updA (updA (updA (updA (updA (updA (updA (updA (updA r 16 w2) 17 w4) 18 w6) 19 w7) 24 w8) 20 w11) 21 w13) 22 w15) 23 w16) t vm rm tm) [0, 1, 2, 3, 4, 5, 6, 7, 8, 9, 10, 11, 12, 13, 14, 15, 16, 17, 18, 19, 20, 21, 22, 23, 24, 25, 26, 27, 28, 29, 30, 31, 32, 33, 34, 35, 36, 37, 38, 39, 40, 41, 42, 43, 44, 45, 46, 47, 48, 49, 50, 51, 52, 53, 54, 55, 57, 58, 59, 60, 64, 65]) (ws2 := wXM G a am (upd (upd (upd (upd (upd (upd (upd (upd v 21 w0) 22 w1) 24 w3) 26 w5) 27 w9) 28 w10) 30 w12) 32 w14) (updA (updA (updA (updA (updA (updA (updA (updA (updA r 16 w2) 17 w4) 18 w6) 19 w7) 24 w8) 20 w11) 21 w13) 22 w15) 23 w16) t (upd vm 0 z0) (updA (updA rm 6 z1) 5 z2) tm) (va_runV (As := [.int p1]) (rest := [.int R0]) hC (c_X9_keep l G _ (am 0) (am 7) (am 5) (am 6) (am 1) (am 2) (am 3) (am 4) (am 8) (am 9) (vm 0) tm (vm 1) (vm 2) (vm 3) (vm 4) (vm 5) (vm 6) (vm 7) (vm 8) (vm 9) (vm 10) (vm 11) (vm 12) (vm 13) (vm 14) (vm 15) (rm 6) (rm 4) (rm 5) (p1) R0 z0 z1 z2 h2) (cwV 1 hts gL_law_X9_keep rfl rfl rfl hd_X9_keep ⟨(Nat.le_of_ble_eq_true rfl), (Nat.le_of_ble_eq_true rfl)⟩) (zPVw hE hP hD [56, 63, 61, 62] rfl rfl 56 rfl rfl) rfl rfl hl.1 rfl (lv_room (Nat.le_of_ble_eq_true rfl)) dL_law_939 ⟨(Nat.le_of_ble_eq_true rfl), (Nat.le_of_ble_eq_true rfl)⟩) hP hD hS hA [56, 63, 61, 62] [0, 1, 2, 3, 4, 5, 6, 7, 8, 9, 10, 11, 12, 13, 14, 15, 16, 17, 18, 19, 20, 21, 22, 23, 24, 25, 26, 27, 28, 29, 30, 31, 32, 33, 34, 35, 36, 37, 38, 39, 40, 41, 42, 43, 44, 45, 46, 47, 48, 49, 50, 51, 52, 53, 54, 55, 57, 58, 59, 60, 64, 65] [0, 1, 2, 3, 4, 5, 6, 7, 8, 9, 10, 11, 12, 13, 14, 15, 16, 17, 18, 19, 20, 21, 22, 23, 24, 25, 26, 27, 28, 29, 30, 31, 32, 33, 34, 35, 36, 37, 38, 39, 40, 41, 42, 43, 44, 45, 46, 47, 48, 49, 50, 51, 52, 53, 54, 55, 62, 56, 57, 58, 59, 64, 65, 63, 60, 61] rfl rfl rfl rfl (by decide) rfl rfl rfl (fun H locs hP hD hS => ?_)
  refine lv_icmp_eq (tgt := 1007) hx hb dL_law_942 (by decide) (fun _ => ?_) (fun h => absurd rfl h)
  exact cont _ _ _ _ _ _ _ _ hI2 _ _ hP hD hS ls hl
set_option maxHeartbeats 4000000 in
set_option maxRecDepth 100000 in
theorem lc_back {p : Program} {l : Launch} {e : Env} {s : State} {m : MethodId} {below : List Frame} {meth : Method} {c : Code} {G : zG} {KV : zKV} {b L : Nat} {xs : Nat → Int32} (C0 : lw_At p s m meth c b L xs) (hE : zE G s) (hZ : zS KV (zA s) s s.heap) {x3 : Int32} (hin : ∀ j : Nat, j < 7 → vp_in (x3 + nI j) L) (cont : lAt p l e s m below meth c G b x3 1007) : lAt p l e s m below meth c G b x3 947 := by
  intro a am v r t vm rm tm hI H locs hP hD hS ls hl
  obtain ⟨hx, hb, hr, hml, hown, hts0, hX, hbl, hlocks, hgv⟩ := C0
  have hts : ∀ w ∈ wsL_law, w.before #[Value.ref b] s = true := fun w h => hts0 w (wsL_law_in w h)
  have hbA : ¬ zA s b := Nat.not_le.mpr hbl
  have hA : ∀ q : Nat, s.heap.size ≤ q → zA s q := fun _ h => h
  have hC : CallFix p m c cL_law 4 s #[Value.ref b] wsL_law RL := ⟨hx, hb, hml, hown, hts⟩
  obtain ⟨p1, hp1⟩ : ∃ y : Int32, xs (x3 + (1 : Int32)).toNatClampNeg = y := ⟨_, rfl⟩
  obtain ⟨R0, w0, w1, w2, w3, w4, w5, w6, w7, z0, z1, h1, h2, hI2⟩ := pm_back v r t vm rm tm hI (p1)
  refine lv_aload_n hx hb dL_law_947 rfl (lv_at hl 1 rfl) ?_
  refine lv_aload_n hx hb dL_law_948 rfl (lv_at hl 0 rfl) ?_
  refine lv_iload_n hx hb dL_law_949 rfl (lv_at hl 3 rfl) ?_
  refine lv_iconst (v := (1 : Int32)) hx hb dL_law_950 (by decide) ?_
  refine lv_iadd hx hb dL_law_951 ?_
  refine z_sld (v := p1) hx hb hX hbl hbA hS (hin 1 (by decide)) hp1 dL_law_952 ?_
  refine zWi (wr := zpick (wXM G a am v r t vm rm tm) [1, 2, 3, 4, 5, 6, 7, 8, 9, 10, 11, 12, 13, 14, 15, 16, 17, 18, 44, 45, 46, 47, 48, 49, 50, 51, 52, 53, 54, 55, 56, 57, 58, 59, 60, 61, 62, 63, 64, 65]) (ws2 := wXM G a am (upd (upd (upd (upd v 15 w0) 16 w1) 18 w3) 20 w5) (updA (updA (updA (updA r 12 w2) 13 w4) 14 w6) 15 w7) t vm rm tm) (va_runV (As := [.int p1]) (rest := []) hC (c_X8_back l G _ (a 0) (a 43) (a 19) (a 27) (a 28) (a 20) (a 21) (a 29) (a 22) (a 30) (a 23) (a 31) (a 24) (a 32) (a 25) (a 33) (a 34) (a 26) (a 35) (a 36) (a 37) (a 38) (a 39) (a 40) (a 41) (a 42) (a 1) (a 3) (a 5) (a 12) (a 44) (a 52) (a 55) t (r 24) (v 15) (v 16) (v 21) (v 22) (r 16) (r 12) (v 17) (v 18) (v 23) (v 24) (r 13) (r 17) (v 19) (v 20) (v 25) (v 26) (r 14) (r 18) (r 19) (r 15) (v 27) (v 28) (r 20) (v 29) (v 30) (r 21) (v 31) (v 32) (r 22) (r 23) (p1) R0 w0 w1 w2 w3 w4 w5 w6 w7 h1) (cwV 1 hts gL_law_X8_back rfl rfl rfl hd_X8_back ⟨(Nat.le_of_ble_eq_true rfl), (Nat.le_of_ble_eq_true rfl)⟩) (zPVw hE hP hD [0, 43, 19, 27, 28, 20, 21, 29, 22, 30, 23, 31, 24, 32, 25, 33, 34, 26, 35, 36, 37, 38, 39, 40, 41, 42] rfl rfl 0 rfl rfl) rfl rfl hl.1 rfl (lv_room (Nat.le_of_ble_eq_true rfl)) dL_law_953 ⟨(Nat.le_of_ble_eq_true rfl), (Nat.le_of_ble_eq_true rfl)⟩) hP hD hS hA [0, 43, 19, 27, 28, 20, 21, 29, 22, 30, 23, 31, 24, 32, 25, 33, 34, 26, 35, 36, 37, 38, 39, 40, 41, 42] [1, 2, 3, 4, 5, 6, 7, 8, 9, 10, 11, 12, 13, 14, 15, 16, 17, 18, 44, 45, 46, 47, 48, 49, 50, 51, 52, 53, 54, 55, 56, 57, 58, 59, 60, 61, 62, 63, 64, 65] [40, 0, 1, 2, 3, 4, 5, 6, 7, 8, 9, 10, 11, 12, 13, 14, 15, 16, 17, 42, 45, 46, 48, 50, 52, 54, 57, 43, 44, 47, 49, 51, 53, 55, 56, 58, 59, 60, 61, 62, 63, 64, 65, 41, 18, 19, 20, 21, 22, 23, 24, 25, 26, 27, 28, 29, 30, 31, 32, 33, 34, 35, 36, 37, 38, 39] rfl rfl rfl rfl (by decide) rfl rfl rfl (fun H locs hP hD hS => ?_)
  refine lv_aload_n hx hb dL_law_956 rfl (lv_at hl 2 rfl) ?_
  refine lv_aload_n hx hb dL_law_957 rfl (lv_at hl 0 rfl) ?_
  refine lv_iload_n hx hb dL_law_958 rfl (lv_at hl 3 rfl) ?_
  refine lv_iconst (v := (1 : Int32)) hx hb dL_law_959 (by decide) ?_
  refine lv_iadd hx hb dL_law_960 ?_
  refine z_sld (v := p1) hx hb hX hbl hbA hS (hin 1 (by decide)) hp1 dL_law_961 ?_
  refine zWi (wr := zpick (wXM G a am (upd (upd (upd (upd v 15 w0) 16 w1) 18 w3) 20 w5) (updA (updA (updA (updA r 12 w2) 13 w4) 14 w6) 15 w7) t vm rm tm) [0, 1, 2, 3, 4, 5, 6, 7, 8, 9, 10, 11, 12, 13, 14, 15, 16, 17, 18, 19, 20, 21, 22, 23, 24, 25, 26, 27, 28, 29, 30, 31, 32, 33, 34, 35, 36, 37, 38, 39, 40, 41, 42, 43, 44, 45, 46, 47, 48, 49, 50, 51, 52, 53, 54, 55, 57, 58, 59, 60, 64, 65]) (ws2 := wXM G a am (upd (upd (upd (upd v 15 w0) 16 w1) 18 w3) 20 w5) (updA (updA (updA (updA r 12 w2) 13 w4) 14 w6) 15 w7) t (upd vm 0 z0) (updA rm 4 z1) tm) (va_runV (As := [.int p1]) (rest := [.int R0]) hC (c_X9_back l G _ (am 0) (am 7) (am 5) (am 6) (am 1) (am 2) (am 3) (am 4) (am 8) (am 9) (vm 0) tm (vm 1) (vm 2) (vm 3) (vm 4) (vm 5) (vm 6) (vm 7) (vm 8) (vm 9) (vm 10) (vm 11) (vm 12) (vm 13) (vm 14) (vm 15) (rm 6) (rm 4) (rm 5) (p1) R0 z0 z1 h2) (cwV 1 hts gL_law_X9_back rfl rfl rfl hd_X9_back ⟨(Nat.le_of_ble_eq_true rfl), (Nat.le_of_ble_eq_true rfl)⟩) (zPVw hE hP hD [56, 63, 61, 62] rfl rfl 56 rfl rfl) rfl rfl hl.1 rfl (lv_room (Nat.le_of_ble_eq_true rfl)) dL_law_962 ⟨(Nat.le_of_ble_eq_true rfl), (Nat.le_of_ble_eq_true rfl)⟩) hP hD hS hA [56, 63, 61, 62] [0, 1, 2, 3, 4, 5, 6, 7, 8, 9, 10, 11, 12, 13, 14, 15, 16, 17, 18, 19, 20, 21, 22, 23, 24, 25, 26, 27, 28, 29, 30, 31, 32, 33, 34, 35, 36, 37, 38, 39, 40, 41, 42, 43, 44, 45, 46, 47, 48, 49, 50, 51, 52, 53, 54, 55, 57, 58, 59, 60, 64, 65] [0, 1, 2, 3, 4, 5, 6, 7, 8, 9, 10, 11, 12, 13, 14, 15, 16, 17, 18, 19, 20, 21, 22, 23, 24, 25, 26, 27, 28, 29, 30, 31, 32, 33, 34, 35, 36, 37, 38, 39, 40, 41, 42, 43, 44, 45, 46, 47, 48, 49, 50, 51, 52, 53, 54, 55, 62, 56, 57, 58, 59, 64, 65, 63, 60, 61] rfl rfl rfl rfl (by decide) rfl rfl rfl (fun H locs hP hD hS => ?_)
  refine lv_icmp_eq (tgt := 1007) hx hb dL_law_965 (by decide) (fun _ => ?_) (fun h => absurd rfl h)
  exact cont _ _ _ _ _ _ _ _ hI2 _ _ hP hD hS ls hl
set_option maxHeartbeats 4000000 in
set_option maxRecDepth 100000 in
theorem lc_count {p : Program} {l : Launch} {e : Env} {s : State} {m : MethodId} {below : List Frame} {meth : Method} {c : Code} {G : zG} {KV : zKV} {b L : Nat} {xs : Nat → Int32} (C0 : lw_At p s m meth c b L xs) (hE : zE G s) (hZ : zS KV (zA s) s s.heap) {x3 : Int32} (hin : ∀ j : Nat, j < 7 → vp_in (x3 + nI j) L) (cont : lAt p l e s m below meth c G b x3 1007) : lAt p l e s m below meth c G b x3 970 := by
  intro a am v r t vm rm tm hI H locs hP hD hS ls hl
  obtain ⟨hx, hb, hr, hml, hown, hts0, hX, hbl, hlocks, hgv⟩ := C0
  have hts : ∀ w ∈ wsL_law, w.before #[Value.ref b] s = true := fun w h => hts0 w (wsL_law_in w h)
  have hbA : ¬ zA s b := Nat.not_le.mpr hbl
  have hA : ∀ q : Nat, s.heap.size ≤ q → zA s q := fun _ h => h
  have hC : CallFix p m c cL_law 4 s #[Value.ref b] wsL_law RL := ⟨hx, hb, hml, hown, hts⟩
  obtain ⟨p1, hp1⟩ : ∃ y : Int32, xs (x3 + (1 : Int32)).toNatClampNeg = y := ⟨_, rfl⟩
  obtain ⟨R0, z0, h1, h2, hI2⟩ := pm_count v r t vm rm tm hI (p1)
  refine lv_aload_n hx hb dL_law_970 rfl (lv_at hl 1 rfl) ?_
  refine lv_aload_n hx hb dL_law_971 rfl (lv_at hl 0 rfl) ?_
  refine lv_iload_n hx hb dL_law_972 rfl (lv_at hl 3 rfl) ?_
  refine lv_iconst (v := (1 : Int32)) hx hb dL_law_973 (by decide) ?_
  refine lv_iadd hx hb dL_law_974 ?_
  refine z_sld (v := p1) hx hb hX hbl hbA hS (hin 1 (by decide)) hp1 dL_law_975 ?_
  refine zRi (va_runV (As := [.int p1]) (rest := []) hC (c_X8_count l G (a 0) (a 5) (a 19) (a 21) (a 44) (a 45) (a 52) (a 23) (a 24) (a 1) (a 3) (a 12) (a 27) (a 35) (a 43) (a 55) (a 6) (a 7) (a 8) (a 9) (a 10) (a 20) (a 22) (a 47) (a 48) (a 49) (a 50) (a 51) (a 46) (a 53) (a 54) (a 26) (a 25) (a 2) t (v 5) (v 6) (v 7) (v 15) (v 16) (v 17) (v 18) (v 33) (v 34) (v 35) (v 19) (v 20) (v 0) (v 1) (v 2) (v 3) (v 4) (p1) R0 h1) (cwV 1 hts gL_law_X8_count rfl rfl rfl hd_X8_count ⟨(Nat.le_of_ble_eq_true rfl), (Nat.le_of_ble_eq_true rfl)⟩) (zPV hE hP [0, 5, 19, 21, 44, 45, 52, 23, 24, 1] rfl 0 rfl rfl) rfl rfl hl.1 rfl (lv_room (Nat.le_of_ble_eq_true rfl)) dL_law_976 ⟨(Nat.le_of_ble_eq_true rfl), (Nat.le_of_ble_eq_true rfl)⟩) ?_
  refine lv_aload_n hx hb dL_law_979 rfl (lv_at hl 2 rfl) ?_
  refine lv_aload_n hx hb dL_law_980 rfl (lv_at hl 0 rfl) ?_
  refine lv_iload_n hx hb dL_law_981 rfl (lv_at hl 3 rfl) ?_
  refine lv_iconst (v := (1 : Int32)) hx hb dL_law_982 (by decide) ?_
  refine lv_iadd hx hb dL_law_983 ?_
  refine z_sld (v := p1) hx hb hX hbl hbA hS (hin 1 (by decide)) hp1 dL_law_984 ?_
  refine zWi (wr := zpick (wXM G a am v r t vm rm tm) [0, 1, 2, 3, 4, 5, 6, 7, 8, 9, 10, 11, 12, 13, 14, 15, 16, 17, 18, 19, 20, 21, 22, 23, 24, 25, 26, 27, 28, 29, 30, 31, 32, 33, 34, 35, 36, 37, 38, 39, 40, 41, 42, 43, 44, 45, 46, 47, 48, 49, 50, 51, 52, 53, 54, 55, 57, 58, 59, 60, 62, 63, 64, 65]) (ws2 := wXM G a am v r t (upd vm 0 z0) rm tm) (va_runV (As := [.int p1]) (rest := [.int R0]) hC (c_X9_count l G _ (am 0) (am 5) (am 1) (am 2) (am 3) (am 4) (am 6) (am 7) (am 8) (am 9) (vm 0) tm (vm 1) (vm 2) (vm 3) (vm 4) (vm 5) (vm 6) (vm 7) (vm 8) (vm 9) (vm 10) (vm 11) (vm 12) (vm 13) (vm 14) (vm 15) (rm 4) (p1) R0 z0 h2) (cwV 1 hts gL_law_X9_count rfl rfl rfl hd_X9_count ⟨(Nat.le_of_ble_eq_true rfl), (Nat.le_of_ble_eq_true rfl)⟩) (zPVw hE hP hD [56, 61] rfl rfl 56 rfl rfl) rfl rfl hl.1 rfl (lv_room (Nat.le_of_ble_eq_true rfl)) dL_law_985 ⟨(Nat.le_of_ble_eq_true rfl), (Nat.le_of_ble_eq_true rfl)⟩) hP hD hS hA [56, 61] [0, 1, 2, 3, 4, 5, 6, 7, 8, 9, 10, 11, 12, 13, 14, 15, 16, 17, 18, 19, 20, 21, 22, 23, 24, 25, 26, 27, 28, 29, 30, 31, 32, 33, 34, 35, 36, 37, 38, 39, 40, 41, 42, 43, 44, 45, 46, 47, 48, 49, 50, 51, 52, 53, 54, 55, 57, 58, 59, 60, 62, 63, 64, 65] [0, 1, 2, 3, 4, 5, 6, 7, 8, 9, 10, 11, 12, 13, 14, 15, 16, 17, 18, 19, 20, 21, 22, 23, 24, 25, 26, 27, 28, 29, 30, 31, 32, 33, 34, 35, 36, 37, 38, 39, 40, 41, 42, 43, 44, 45, 46, 47, 48, 49, 50, 51, 52, 53, 54, 55, 64, 56, 57, 58, 59, 65, 60, 61, 62, 63] rfl rfl rfl rfl (by decide) rfl rfl rfl (fun H locs hP hD hS => ?_)
  refine lv_icmp_eq (tgt := 1007) hx hb dL_law_988 (by decide) (fun _ => ?_) (fun h => absurd rfl h)
  exact cont _ _ _ _ _ _ _ _ hI2 _ _ hP hD hS ls hl
set_option maxHeartbeats 4000000 in
set_option maxRecDepth 100000 in
theorem lc_trace {p : Program} {l : Launch} {e : Env} {s : State} {m : MethodId} {below : List Frame} {meth : Method} {c : Code} {G : zG} {KV : zKV} {b L : Nat} {xs : Nat → Int32} (C0 : lw_At p s m meth c b L xs) (hE : zE G s) (hZ : zS KV (zA s) s s.heap) {x3 : Int32} (hin : ∀ j : Nat, j < 7 → vp_in (x3 + nI j) L) (cont : lAt p l e s m below meth c G b x3 1007) : lAt p l e s m below meth c G b x3 993 := by
  intro a am v r t vm rm tm hI H locs hP hD hS ls hl
  obtain ⟨hx, hb, hr, hml, hown, hts0, hX, hbl, hlocks, hgv⟩ := C0
  have hts : ∀ w ∈ wsL_law, w.before #[Value.ref b] s = true := fun w h => hts0 w (wsL_law_in w h)
  have hbA : ¬ zA s b := Nat.not_le.mpr hbl
  have hA : ∀ q : Nat, s.heap.size ≤ q → zA s q := fun _ h => h
  have hC : CallFix p m c cL_law 4 s #[Value.ref b] wsL_law RL := ⟨hx, hb, hml, hown, hts⟩
  obtain ⟨R0, z0, h1, h2, hI2⟩ := pm_trace v r t vm rm tm hI 
  refine lv_aload_n hx hb dL_law_993 rfl (lv_at hl 1 rfl) ?_
  refine zRl (va_runV (As := []) (rest := []) hC (c_X8_trace l G (a 0) (a 1) (a 3) (a 5) (a 12) (a 19) (a 27) (a 35) (a 43) (a 44) (a 52) (a 55) t R0 h1) (cwV 0 hts gL_law_X8_trace rfl rfl rfl hd_X8_trace ⟨(Nat.le_of_ble_eq_true rfl), (Nat.le_of_ble_eq_true rfl)⟩) (zPV hE hP [0] rfl 0 rfl rfl) rfl rfl hl.1 rfl (lv_room (Nat.le_of_ble_eq_true rfl)) dL_law_994 ⟨(Nat.le_of_ble_eq_true rfl), (Nat.le_of_ble_eq_true rfl)⟩) ?_
  refine lv_aload_n hx hb dL_law_997 rfl (lv_at hl 2 rfl) ?_
  refine zWv (v0 := some (.long R0)) (wr := zpick (wXM G a am v r t vm rm tm) [0, 1, 2, 3, 4, 5, 6, 7, 8, 9, 10, 11, 12, 13, 14, 15, 16, 17, 18, 19, 20, 21, 22, 23, 24, 25, 26, 27, 28, 29, 30, 31, 32, 33, 34, 35, 36, 37, 38, 39, 40, 41, 42, 43, 44, 45, 46, 47, 48, 49, 50, 51, 52, 53, 54, 55, 57, 58, 59, 60, 61, 62, 63, 64, 65]) (ws2 := wXM G a am v r t (upd vm 0 z0) rm tm) (va_runV (As := []) (rest := [.long R0]) hC (c_X9_trace l G _ (am 0) (am 1) (am 2) (am 3) (am 4) (am 5) (am 6) (am 7) (am 8) (am 9) (vm 0) tm (vm 1) (vm 2) (vm 3) (vm 4) (vm 5) (vm 6) (vm 7) (vm 8) (vm 9) (vm 10) (vm 11) (vm 12) (vm 13) (vm 14) (vm 15) R0 z0 h2) (cwV 0 hts gL_law_X9_trace rfl rfl rfl hd_X9_trace ⟨(Nat.le_of_ble_eq_true rfl), (Nat.le_of_ble_eq_true rfl)⟩) (zPVw hE hP hD [56] rfl rfl 56 rfl rfl) rfl rfl hl.1 rfl (lv_room (Nat.le_of_ble_eq_true rfl)) dL_law_998 ⟨(Nat.le_of_ble_eq_true rfl), (Nat.le_of_ble_eq_true rfl)⟩) hP hD hS hA [56] [0, 1, 2, 3, 4, 5, 6, 7, 8, 9, 10, 11, 12, 13, 14, 15, 16, 17, 18, 19, 20, 21, 22, 23, 24, 25, 26, 27, 28, 29, 30, 31, 32, 33, 34, 35, 36, 37, 38, 39, 40, 41, 42, 43, 44, 45, 46, 47, 48, 49, 50, 51, 52, 53, 54, 55, 57, 58, 59, 60, 61, 62, 63, 64, 65] [0, 1, 2, 3, 4, 5, 6, 7, 8, 9, 10, 11, 12, 13, 14, 15, 16, 17, 18, 19, 20, 21, 22, 23, 24, 25, 26, 27, 28, 29, 30, 31, 32, 33, 34, 35, 36, 37, 38, 39, 40, 41, 42, 43, 44, 45, 46, 47, 48, 49, 50, 51, 52, 53, 54, 55, 65, 56, 57, 58, 59, 60, 61, 62, 63, 64] rfl rfl rfl rfl (by decide) rfl rfl rfl (fun H locs hP hD hS => ?_)
  refine W.lcmp hx hb dL_law_1001 ?_
  refine lv_if_eq (tgt := 1007) hx hb dL_law_1002 (by decide) (fun _ => ?_) (fun h => absurd (by simp [lg_cmp]) h)
  exact cont _ _ _ _ _ _ _ _ hI2 _ _ hP hD hS ls hl
