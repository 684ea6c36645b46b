/-! leaves: rotateRight, fill, putWord, the small functions, spreadWords -/
set_option maxHeartbeats 4000000 in
set_option maxRecDepth 100000 in
theorem c_rotR (l : Launch) (G : va_G) (cI cB : ClassId) (tK tH sz : Nat) (x n : Int32)  : xMi l G cI cB tK tH y_Integer_rotateRight b_Integer_rotateRight 2 (some .int) ({ frames := 0, cells := 0, slots := 0, locals := 0 }) [.int x, .int n] sz [] (fun r _ => r = xr x n) (fun u : Unit => []) := by
  refine xMi.of (lv := [(0, .int x), (1, .int n)]) (by decide) (Nat.le_of_ble_eq_true rfl) rfl ?_
  intro pp ee ss mm bel met cod A ls H locs hx hb hml hr hlk hts hown hnm hA hK hst hP hD hS hl
  have hown : ss.vm.findClass R_Integer = some mm.cls := hown
  refine lv_iload_n hx hb d_Integer_rotateRight_0 rfl (lv_at hl 0 rfl) ?_
  refine lv_iload_n hx hb d_Integer_rotateRight_1 rfl (lv_at hl 1 rfl) ?_
  refine lv_iushr (v := xu x n) hx hb d_Integer_rotateRight_2 rfl ?_
  refine lv_iload_n hx hb d_Integer_rotateRight_3 rfl (lv_at hl 0 rfl) ?_
  refine lv_iload_n hx hb d_Integer_rotateRight_4 rfl (lv_at hl 1 rfl) ?_
  refine lv_ineg hx hb d_Integer_rotateRight_5 ?_
  refine lv_ishl hx hb d_Integer_rotateRight_6 ?_
  refine lv_ior hx hb d_Integer_rotateRight_7 ?_
  exact xe_i (()) hx hb hr hlk hK (rfl) hP hD hS d_Integer_rotateRight_8 (by decide) (by decide)
set_option maxHeartbeats 4000000 in
set_option maxRecDepth 100000 in
theorem c_z0 (l : Launch) (G : va_G) (cI cB : ClassId) (tK tH sz : Nat) (x : Int32)  : xMi l G cI cB tK tH y_Summer_smallZero b_Summer_smallZero 1 (some .int) ({ frames := 1, cells := 0, slots := 0, locals := 21 }) [.int x] sz [] (fun r _ => r = km_z0 x) (fun u : Unit => []) := by
  refine xMi.of (lv := [(0, .int x)]) (by decide) (Nat.le_of_ble_eq_true rfl) rfl ?_
  intro pp ee ss mm bel met cod A ls H locs hx hb hml hr hlk hts hown hnm hA hK hst hP hD hS hl
  have hown : ss.vm.findClass R_Summer = some mm.cls := hown
  refine lv_iload_n hx hb d_Summer_smallZero_0 rfl (lv_at hl 0 rfl) ?_
  refine lv_bipush (v := 7) hx hb d_Summer_smallZero_1 (by decide) ?_
  refine xc_i (wr := []) (va_runS (As := [.int x, .int 7]) (rest := []) ⟨hx, hb, hml, hown, hts⟩ (c_rotR l G cI cB tK tH H.size x 7 ) (va_cwS 2 hts (xg_S tw_183 tw_184 tw_23 tw_185) rfl rfl rfl (by decide +kernel) ⟨Nat.le_of_ble_eq_true rfl, Nat.le_of_ble_eq_true rfl⟩) (xc_pre hK hst hA hP hD hS [] (by decide) rfl [.int x, .int 7]) rfl rfl hl.1 rfl (lv_room (Nat.le_of_ble_eq_true rfl)) d_Summer_smallZero_3 ⟨Nat.le_of_ble_eq_true rfl, Nat.le_of_ble_eq_true rfl⟩) hA hP hD hS [] [] rfl rfl (by decide) (by decide) (fun r2 u1 H locs hp hP hD hS => ?_)
  have hP : va_P G classes [] H := hP
  have hD : va_D A [] := hD
  obtain rfl : r2 = xr x 7 := hp
  refine lv_iload_n hx hb d_Summer_smallZero_6 rfl (lv_at hl 0 rfl) ?_
  refine lv_bipush (v := 18) hx hb d_Summer_smallZero_7 (by decide) ?_
  refine xc_i (wr := []) (va_runS (As := [.int x, .int 18]) (rest := [.int (xr x 7)]) ⟨hx, hb, hml, hown, hts⟩ (c_rotR l G cI cB tK tH H.size x 18 ) (va_cwS 2 hts (xg_S tw_183 tw_184 tw_23 tw_185) rfl rfl rfl (by decide +kernel) ⟨Nat.le_of_ble_eq_true rfl, Nat.le_of_ble_eq_true rfl⟩) (xc_pre hK hst hA hP hD hS [] (by decide) rfl [.int x, .int 18]) rfl rfl hl.1 rfl (lv_room (Nat.le_of_ble_eq_true rfl)) d_Summer_smallZero_9 ⟨Nat.le_of_ble_eq_true rfl, Nat.le_of_ble_eq_true rfl⟩) hA hP hD hS [] [] rfl rfl (by decide) (by decide) (fun r4 u3 H locs hp hP hD hS => ?_)
  have hP : va_P G classes [] H := hP
  have hD : va_D A [] := hD
  obtain rfl : r4 = xr x 18 := hp
  refine lv_ixor hx hb d_Summer_smallZero_12 ?_
  refine lv_iload_n hx hb d_Summer_smallZero_13 rfl (lv_at hl 0 rfl) ?_
  refine lv_iconst (v := 3) hx hb d_Summer_smallZero_14 (by decide) ?_
  refine lv_iushr (v := xu x 3) hx hb d_Summer_smallZero_15 rfl ?_
  refine lv_ixor hx hb d_Summer_smallZero_16 ?_
  exact xe_i (()) hx hb hr hlk hK (rfl) hP hD hS d_Summer_smallZero_17 (by decide) (by decide)
set_option maxHeartbeats 4000000 in
set_option maxRecDepth 100000 in
theorem c_z1 (l : Launch) (G : va_G) (cI cB : ClassId) (tK tH sz : Nat) (x : Int32)  : xMi l G cI cB tK tH y_Summer_smallOne b_Summer_smallOne 1 (some .int) ({ frames := 1, cells := 0, slots := 0, locals := 21 }) [.int x] sz [] (fun r _ => r = km_z1 x) (fun u : Unit => []) := by
  refine xMi.of (lv := [(0, .int x)]) (by decide) (Nat.le_of_ble_eq_true rfl) rfl ?_
  intro pp ee ss mm bel met cod A ls H locs hx hb hml hr hlk hts hown hnm hA hK hst hP hD hS hl
  have hown : ss.vm.findClass R_Summer = some mm.cls := hown
  refine lv_iload_n hx hb d_Summer_smallOne_0 rfl (lv_at hl 0 rfl) ?_
  refine lv_bipush (v := 17) hx hb d_Summer_smallOne_1 (by decide) ?_
  refine xc_i (wr := []) (va_runS (As := [.int x, .int 17]) (rest := []) ⟨hx, hb, hml, hown, hts⟩ (c_rotR l G cI cB tK tH H.size x 17 ) (va_cwS 2 hts (xg_S tw_183 tw_184 tw_23 tw_185) rfl rfl rfl (by decide +kernel) ⟨Nat.le_of_ble_eq_true rfl, Nat.le_of_ble_eq_true rfl⟩) (xc_pre hK hst hA hP hD hS [] (by decide) rfl [.int x, .int 17]) rfl rfl hl.1 rfl (lv_room (Nat.le_of_ble_eq_true rfl)) d_Summer_smallOne_3 ⟨Nat.le_of_ble_eq_true rfl, Nat.le_of_ble_eq_true rfl⟩) hA hP hD hS [] [] rfl rfl (by decide) (by decide) (fun r2 u1 H locs hp hP hD hS => ?_)
  have hP : va_P G classes [] H := hP
  have hD : va_D A [] := hD
  obtain rfl : r2 = xr x 17 := hp
  refine lv_iload_n hx hb d_Summer_smallOne_6 rfl (lv_at hl 0 rfl) ?_
  refine lv_bipush (v := 19) hx hb d_Summer_smallOne_7 (by decide) ?_
  refine xc_i (wr := []) (va_runS (As := [.int x, .int 19]) (rest := [.int (xr x 17)]) ⟨hx, hb, hml, hown, hts⟩ (c_rotR l G cI cB tK tH H.size x 19 ) (va_cwS 2 hts (xg_S tw_183 tw_184 tw_23 tw_185) rfl rfl rfl (by decide +kernel) ⟨Nat.le_of_ble_eq_true rfl, Nat.le_of_ble_eq_true rfl⟩) (xc_pre hK hst hA hP hD hS [] (by decide) rfl [.int x, .int 19]) rfl rfl hl.1 rfl (lv_room (Nat.le_of_ble_eq_true rfl)) d_Summer_smallOne_9 ⟨Nat.le_of_ble_eq_true rfl, Nat.le_of_ble_eq_true rfl⟩) hA hP hD hS [] [] rfl rfl (by decide) (by decide) (fun r4 u3 H locs hp hP hD hS => ?_)
  have hP : va_P G classes [] H := hP
  have hD : va_D A [] := hD
  obtain rfl : r4 = xr x 19 := hp
  refine lv_ixor hx hb d_Summer_smallOne_12 ?_
  refine lv_iload_n hx hb d_Summer_smallOne_13 rfl (lv_at hl 0 rfl) ?_
  refine lv_bipush (v := 10) hx hb d_Summer_smallOne_14 (by decide) ?_
  refine lv_iushr (v := xu x 10) hx hb d_Summer_smallOne_16 rfl ?_
  refine lv_ixor hx hb d_Summer_smallOne_17 ?_
  exact xe_i (()) hx hb hr hlk hK (rfl) hP hD hS d_Summer_smallOne_18 (by decide) (by decide)
set_option maxHeartbeats 4000000 in
set_option maxRecDepth 100000 in
theorem c_y0 (l : Launch) (G : va_G) (cI cB : ClassId) (tK tH sz : Nat) (x : Int32)  : xMi l G cI cB tK tH y_Summer_bigZero b_Summer_bigZero 1 (some .int) ({ frames := 1, cells := 0, slots := 0, locals := 21 }) [.int x] sz [] (fun r _ => r = km_y0 x) (fun u : Unit => []) := by
  refine xMi.of (lv := [(0, .int x)]) (by decide) (Nat.le_of_ble_eq_true rfl) rfl ?_
  intro pp ee ss mm bel met cod A ls H locs hx hb hml hr hlk hts hown hnm hA hK hst hP hD hS hl
  have hown : ss.vm.findClass R_Summer = some mm.cls := hown
  refine lv_iload_n hx hb d_Summer_bigZero_0 rfl (lv_at hl 0 rfl) ?_
  refine lv_iconst (v := 2) hx hb d_Summer_bigZero_1 (by decide) ?_
  refine xc_i (wr := []) (va_runS (As := [.int x, .int 2]) (rest := []) ⟨hx, hb, hml, hown, hts⟩ (c_rotR l G cI cB tK tH H.size x 2 ) (va_cwS 2 hts (xg_S tw_183 tw_184 tw_23 tw_185) rfl rfl rfl (by decide +kernel) ⟨Nat.le_of_ble_eq_true rfl, Nat.le_of_ble_eq_true rfl⟩) (xc_pre hK hst hA hP hD hS [] (by decide) rfl [.int x, .int 2]) rfl rfl hl.1 rfl (lv_room (Nat.le_of_ble_eq_true rfl)) d_Summer_bigZero_2 ⟨Nat.le_of_ble_eq_true rfl, Nat.le_of_ble_eq_true rfl⟩) hA hP hD hS [] [] rfl rfl (by decide) (by decide) (fun r2 u1 H locs hp hP hD hS => ?_)
  have hP : va_P G classes [] H := hP
  have hD : va_D A [] := hD
  obtain rfl : r2 = xr x 2 := hp
  refine lv_iload_n hx hb d_Summer_bigZero_5 rfl (lv_at hl 0 rfl) ?_
  refine lv_bipush (v := 13) hx hb d_Summer_bigZero_6 (by decide) ?_
  refine xc_i (wr := []) (va_runS (As := [.int x, .int 13]) (rest := [.int (xr x 2)]) ⟨hx, hb, hml, hown, hts⟩ (c_rotR l G cI cB tK tH H.size x 13 ) (va_cwS 2 hts (xg_S tw_183 tw_184 tw_23 tw_185) rfl rfl rfl (by decide +kernel) ⟨Nat.le_of_ble_eq_true rfl, Nat.le_of_ble_eq_true rfl⟩) (xc_pre hK hst hA hP hD hS [] (by decide) rfl [.int x, .int 13]) rfl rfl hl.1 rfl (lv_room (Nat.le_of_ble_eq_true rfl)) d_Summer_bigZero_8 ⟨Nat.le_of_ble_eq_true rfl, Nat.le_of_ble_eq_true rfl⟩) hA hP hD hS [] [] rfl rfl (by decide) (by decide) (fun r4 u3 H locs hp hP hD hS => ?_)
  have hP : va_P G classes [] H := hP
  have hD : va_D A [] := hD
  obtain rfl : r4 = xr x 13 := hp
  refine lv_ixor hx hb d_Summer_bigZero_11 ?_
  refine lv_iload_n hx hb d_Summer_bigZero_12 rfl (lv_at hl 0 rfl) ?_
  refine lv_bipush (v := 22) hx hb d_Summer_bigZero_13 (by decide) ?_
  refine xc_i (wr := []) (va_runS (As := [.int x, .int 22]) (rest := [.int ((xr x 2) ^^^ (xr x 13))]) ⟨hx, hb, hml, hown, hts⟩ (c_rotR l G cI cB tK tH H.size x 22 ) (va_cwS 2 hts (xg_S tw_183 tw_184 tw_23 tw_185) rfl rfl rfl (by decide +kernel) ⟨Nat.le_of_ble_eq_true rfl, Nat.le_of_ble_eq_true rfl⟩) (xc_pre hK hst hA hP hD hS [] (by decide) rfl [.int x, .int 22]) rfl rfl hl.1 rfl (lv_room (Nat.le_of_ble_eq_true rfl)) d_Summer_bigZero_15 ⟨Nat.le_of_ble_eq_true rfl, Nat.le_of_ble_eq_true rfl⟩) hA hP hD hS [] [] rfl rfl (by decide) (by decide) (fun r6 u5 H locs hp hP hD hS => ?_)
  have hP : va_P G classes [] H := hP
  have hD : va_D A [] := hD
  obtain rfl : r6 = xr x 22 := hp
  refine lv_ixor hx hb d_Summer_bigZero_18 ?_
  exact xe_i (()) hx hb hr hlk hK (rfl) hP hD hS d_Summer_bigZero_19 (by decide) (by decide)
set_option maxHeartbeats 4000000 in
set_option maxRecDepth 100000 in
theorem c_y1 (l : Launch) (G : va_G) (cI cB : ClassId) (tK tH sz : Nat) (x : Int32)  : xMi l G cI cB tK tH y_Summer_bigOne b_Summer_bigOne 1 (some .int) ({ frames := 1, cells := 0, slots := 0, locals := 21 }) [.int x] sz [] (fun r _ => r = km_y1 x) (fun u : Unit => []) := by
  refine xMi.of (lv := [(0, .int x)]) (by decide) (Nat.le_of_ble_eq_true rfl) rfl ?_
  intro pp ee ss mm bel met cod A ls H locs hx hb hml hr hlk hts hown hnm hA hK hst hP hD hS hl
  have hown : ss.vm.findClass R_Summer = some mm.cls := hown
  refine lv_iload_n hx hb d_Summer_bigOne_0 rfl (lv_at hl 0 rfl) ?_
  refine lv_bipush (v := 6) hx hb d_Summer_bigOne_1 (by decide) ?_
  refine xc_i (wr := []) (va_runS (As := [.int x, .int 6]) (rest := []) ⟨hx, hb, hml, hown, hts⟩ (c_rotR l G cI cB tK tH H.size x 6 ) (va_cwS 2 hts (xg_S tw_183 tw_184 tw_23 tw_185) rfl rfl rfl (by decide +kernel) ⟨Nat.le_of_ble_eq_true rfl, Nat.le_of_ble_eq_true rfl⟩) (xc_pre hK hst hA hP hD hS [] (by decide) rfl [.int x, .int 6]) rfl rfl hl.1 rfl (lv_room (Nat.le_of_ble_eq_true rfl)) d_Summer_bigOne_3 ⟨Nat.le_of_ble_eq_true rfl, Nat.le_of_ble_eq_true rfl⟩) hA hP hD hS [] [] rfl rfl (by decide) (by decide) (fun r2 u1 H locs hp hP hD hS => ?_)
  have hP : va_P G classes [] H := hP
  have hD : va_D A [] := hD
  obtain rfl : r2 = xr x 6 := hp
  refine lv_iload_n hx hb d_Summer_bigOne_6 rfl (lv_at hl 0 rfl) ?_
  refine lv_bipush (v := 11) hx hb d_Summer_bigOne_7 (by decide) ?_
  refine xc_i (wr := []) (va_runS (As := [.int x, .int 11]) (rest := [.int (xr x 6)]) ⟨hx, hb, hml, hown, hts⟩ (c_rotR l G cI cB tK tH H.size x 11 ) (va_cwS 2 hts (xg_S tw_183 tw_184 tw_23 tw_185) rfl rfl rfl (by decide +kernel) ⟨Nat.le_of_ble_eq_true rfl, Nat.le_of_ble_eq_true rfl⟩) (xc_pre hK hst hA hP hD hS [] (by decide) rfl [.int x, .int 11]) rfl rfl hl.1 rfl (lv_room (Nat.le_of_ble_eq_true rfl)) d_Summer_bigOne_9 ⟨Nat.le_of_ble_eq_true rfl, Nat.le_of_ble_eq_true rfl⟩) hA hP hD hS [] [] rfl rfl (by decide) (by decide) (fun r4 u3 H locs hp hP hD hS => ?_)
  have hP : va_P G classes [] H := hP
  have hD : va_D A [] := hD
  obtain rfl : r4 = xr x 11 := hp
  refine lv_ixor hx hb d_Summer_bigOne_12 ?_
  refine lv_iload_n hx hb d_Summer_bigOne_13 rfl (lv_at hl 0 rfl) ?_
  refine lv_bipush (v := 25) hx hb d_Summer_bigOne_14 (by decide) ?_
  refine xc_i (wr := []) (va_runS (As := [.int x, .int 25]) (rest := [.int ((xr x 6) ^^^ (xr x 11))]) ⟨hx, hb, hml, hown, hts⟩ (c_rotR l G cI cB tK tH H.size x 25 ) (va_cwS 2 hts (xg_S tw_183 tw_184 tw_23 tw_185) rfl rfl rfl (by decide +kernel) ⟨Nat.le_of_ble_eq_true rfl, Nat.le_of_ble_eq_true rfl⟩) (xc_pre hK hst hA hP hD hS [] (by decide) rfl [.int x, .int 25]) rfl rfl hl.1 rfl (lv_room (Nat.le_of_ble_eq_true rfl)) d_Summer_bigOne_16 ⟨Nat.le_of_ble_eq_true rfl, Nat.le_of_ble_eq_true rfl⟩) hA hP hD hS [] [] rfl rfl (by decide) (by decide) (fun r6 u5 H locs hp hP hD hS => ?_)
  have hP : va_P G classes [] H := hP
  have hD : va_D A [] := hD
  obtain rfl : r6 = xr x 25 := hp
  refine lv_ixor hx hb d_Summer_bigOne_19 ?_
  exact xe_i (()) hx hb hr hlk hK (rfl) hP hD hS d_Summer_bigOne_20 (by decide) (by decide)
set_option maxHeartbeats 4000000 in
set_option maxRecDepth 100000 in
theorem c_fill (l : Launch) (G : va_G) (cI cB : ClassId) (tK tH sz : Nat) (q n : Nat) (f : Nat → Int32) (v : Int32) (hn : n < 2 ^ 31) : xMv l G cI cB tK tH y_Arrays_fill b_Arrays_fill 4 none ({ frames := 0, cells := 0, slots := 0, locals := 0 }) [.ref q, .int v] sz [(q, .inl (cI, n, .inl f))] (fun _ => True) (fun u : Unit => [(q, .inl (cI, n, .inl (fun _ => v)))]) := by
  refine xMv.of (lv := [(0, .ref q), (1, .int v)]) (by decide) (Nat.le_of_ble_eq_true rfl) rfl ?_
  intro pp ee ss mm bel met cod A ls H locs hx hb hml hr hlk hts hown hnm hA hK hst hP hD hS hl
  have hown : ss.vm.findClass R_Arrays = some mm.cls := hown
  refine lv_iconst (v := 0) hx hb d_Arrays_fill_0 (by decide) ?_
  refine lv_istore_n (lv' := [(2, .int 0), (0, .ref q), (1, .int v)]) hx hb d_Arrays_fill_1 rfl hl (by decide) rfl (fun ls hl => ?_)
  refine lv_aload_n hx hb d_Arrays_fill_2 rfl (lv_at hl 1 rfl) ?_
  refine va_alen (v := nI n) hx hb hK hP 0 0 rfl rfl rfl d_Arrays_fill_3 ?_
  refine lv_istore_n (lv' := [(3, .int (nI n)), (2, .int 0), (0, .ref q), (1, .int v)]) hx hb d_Arrays_fill_4 rfl hl (by decide) rfl (fun ls hl => ?_)
  refine xl (pc := 5) (I := fun NN ls H locs => ∃ (i : Nat) (g : Nat → Int32), n - i = NN ∧ lv_has ls 4 [(3, .int (nI n)), (2, .int (nI i)), (0, .ref q), (1, .int v)] ∧ va_P G classes [(q, .inl (cI, n, .inl g))] H ∧ va_D A [(q, .inl (cI, n, .inl g))] ∧ va_S A ss.heap H locs ∧ (i ≤ n) ∧ (∀ j, j < i → g j = v)) [] ?_ _ _ _ _ ⟨0, f, rfl, lv_sub hl [0, 1, 2, 3] rfl, hP, hD, hS, by omega, fun j hj => by omega⟩
  intro NN ih5 ls H locs hI
  obtain ⟨i, g, hN, hl, hP, hD, hS, hi, hg⟩ := hI
  refine lv_iload_n hx hb d_Arrays_fill_5 rfl (lv_at hl 1 rfl) ?_
  refine lv_iload_n hx hb d_Arrays_fill_6 rfl (lv_at hl 0 rfl) ?_
  refine lv_icmp_ge (tgt := 20) hx hb d_Arrays_fill_7 (by decide) (fun hc1 => ?_) (fun hc1 => ?_)
  · have hc1 : n ≤ i := (nI_leI (a := n) (b := i) (by omega) (by omega)).mp hc1
    have hP := xp_fun hP 0 (fun _ => v) rfl (fun j hj => hg j (by omega))
    have hD := hD.set (p := 0) (e := .inl (cI, n, .inl (fun _ => v))) rfl
    exact xe_v (()) hx hb hr hlk hK (trivial) hP hD hS d_Arrays_fill_20 (by decide) (by decide)
  · have hc1 : ¬ n ≤ i := fun z => hc1 ((nI_leI (a := n) (b := i) (by omega) (by omega)).mpr z)
    refine lv_aload_n hx hb d_Arrays_fill_10 rfl (lv_at hl 2 rfl) ?_
    refine lv_iload_n hx hb d_Arrays_fill_11 rfl (lv_at hl 1 rfl) ?_
    refine lv_iload_n hx hb d_Arrays_fill_12 rfl (lv_at hl 3 rfl) ?_
    refine xa_iast (k := i) (f := g) (x := v) hx hb hK hP hD hS 0 0 rfl rfl (by omega) (by omega) d_Arrays_fill_13 (fun H locs hP hD hS => ?_)
    have hP : va_P G classes [(q, .inl (cI, n, .inl (upd g i v)))] H := hP
    have hD : va_D A [(q, .inl (cI, n, .inl (upd g i v)))] := hD
    refine lv_iinc (k := 1) (v := nI (i + 1)) (lv' := [(2, .int (nI (i + 1))), (3, .int (nI n)), (0, .ref q), (1, .int v)]) hx hb d_Arrays_fill_14 hl rfl (nI_1 i) (by decide) rfl (fun ls hl => ?_)
    refine lv_goto (tgt := 5) hx hb d_Arrays_fill_17 (by decide) ?_
    exact ih5 _ (by omega) _ _ _ ⟨i + 1, _, rfl, lv_sub hl [1, 0, 2, 3] rfl, hP, hD, hS, by omega, fun j hj => by
          by_cases e : j = i
          · subst e; exact pk_us
          · rw [pk_un e]; exact hg j (by omega)⟩
set_option maxHeartbeats 4000000 in
set_option maxRecDepth 100000 in
theorem c_putWord (l : Launch) (G : va_G) (cI cB : ClassId) (tK tH sz : Nat) (q n a : Nat) (f : Nat → Int32) (x : Int32) (hn : n < 1000) (ha : a + 4 ≤ n) : xMv l G cI cB tK tH y_KeyMaker_putWord b_KeyMaker_putWord 3 none ({ frames := 0, cells := 0, slots := 0, locals := 0 }) [.int x, .ref q, .int (nI a)] sz [(q, .inl (cI, n, .inl f))] (fun _ => True) (fun u : Unit => [(q, .inl (cI, n, .inl (km_put f a x)))]) := by
  refine xMv.of (lv := [(0, .int x), (1, .ref q), (2, .int (nI a))]) (by decide) (Nat.le_of_ble_eq_true rfl) rfl ?_
  intro pp ee ss mm bel met cod A ls H locs hx hb hml hr hlk hts hown hnm hA hK hst hP hD hS hl
  have hown : ss.vm.findClass R_KeyMaker = some mm.cls := hown
  refine lv_aload_n hx hb d_KeyMaker_putWord_0 rfl (lv_at hl 1 rfl) ?_
  refine lv_iload_n hx hb d_KeyMaker_putWord_1 rfl (lv_at hl 2 rfl) ?_
  refine lv_iload_n hx hb d_KeyMaker_putWord_2 rfl (lv_at hl 0 rfl) ?_
  refine lv_bipush (v := 24) hx hb d_KeyMaker_putWord_3 (by decide) ?_
  refine lv_iushr (v := xu x 24) hx hb d_KeyMaker_putWord_5 rfl ?_
  refine xa_iast (k := a) (f := f) (x := xu x 24) hx hb hK hP hD hS 0 0 rfl rfl (by omega) (by omega) d_KeyMaker_putWord_6 (fun H locs hP hD hS => ?_)
  have hP : va_P G classes [(q, .inl (cI, n, .inl (upd f a (xu x 24))))] H := hP
  have hD : va_D A [(q, .inl (cI, n, .inl (upd f a (xu x 24))))] := hD
  refine lv_aload_n hx hb d_KeyMaker_putWord_7 rfl (lv_at hl 1 rfl) ?_
  refine lv_iload_n hx hb d_KeyMaker_putWord_8 rfl (lv_at hl 2 rfl) ?_
  refine lv_iconst (v := 1) hx hb d_KeyMaker_putWord_9 (by decide) ?_
  refine lv_iadd hx hb d_KeyMaker_putWord_10 ?_
  refine lv_topi (fun y1 ey1 => ?_)
  obtain rfl : y1 = nI (a + 1) := ey1.trans (nI_add a 1)
  refine lv_iload_n hx hb d_KeyMaker_putWord_11 rfl (lv_at hl 0 rfl) ?_
  refine lv_bipush (v := 16) hx hb d_KeyMaker_putWord_12 (by decide) ?_
  refine lv_iushr (v := xu x 16) hx hb d_KeyMaker_putWord_14 rfl ?_
  refine lv_sipush (v := 255) hx hb d_KeyMaker_putWord_15 (by decide) ?_
  refine lv_iand hx hb d_KeyMaker_putWord_18 ?_
  refine xa_iast (k := a + 1) (f := upd f a (xu x 24)) (x := (xu x 16) &&& 255) hx hb hK hP hD hS 0 0 rfl rfl (by omega) (by omega) d_KeyMaker_putWord_19 (fun H locs hP hD hS => ?_)
  have hP : va_P G classes [(q, .inl (cI, n, .inl (upd (upd f a (xu x 24)) (a + 1) ((xu x 16) &&& 255))))] H := hP
  have hD : va_D A [(q, .inl (cI, n, .inl (upd (upd f a (xu x 24)) (a + 1) ((xu x 16) &&& 255))))] := hD
  refine lv_aload_n hx hb d_KeyMaker_putWord_20 rfl (lv_at hl 1 rfl) ?_
  refine lv_iload_n hx hb d_KeyMaker_putWord_21 rfl (lv_at hl 2 rfl) ?_
  refine lv_iconst (v := 2) hx hb d_KeyMaker_putWord_22 (by decide) ?_
  refine lv_iadd hx hb d_KeyMaker_putWord_23 ?_
  refine lv_topi (fun y2 ey2 => ?_)
  obtain rfl : y2 = nI (a + 2) := ey2.trans (nI_add a 2)
  refine lv_iload_n hx hb d_KeyMaker_putWord_24 rfl (lv_at hl 0 rfl) ?_
  refine lv_bipush (v := 8) hx hb d_KeyMaker_putWord_25 (by decide) ?_
  refine lv_iushr (v := xu x 8) hx hb d_KeyMaker_putWord_27 rfl ?_
  refine lv_sipush (v := 255) hx hb d_KeyMaker_putWord_28 (by decide) ?_
  refine lv_iand hx hb d_KeyMaker_putWord_31 ?_
  refine xa_iast (k := a + 2) (f := upd (upd f a (xu x 24)) (a + 1) ((xu x 16) &&& 255)) (x := (xu x 8) &&& 255) hx hb hK hP hD hS 0 0 rfl rfl (by omega) (by omega) d_KeyMaker_putWord_32 (fun H locs hP hD hS => ?_)
  have hP : va_P G classes [(q, .inl (cI, n, .inl (upd (upd (upd f a (xu x 24)) (a + 1) ((xu x 16) &&& 255)) (a + 2) ((xu x 8) &&& 255))))] H := hP
  have hD : va_D A [(q, .inl (cI, n, .inl (upd (upd (upd f a (xu x 24)) (a + 1) ((xu x 16) &&& 255)) (a + 2) ((xu x 8) &&& 255))))] := hD
  refine lv_aload_n hx hb d_KeyMaker_putWord_33 rfl (lv_at hl 1 rfl) ?_
  refine lv_iload_n hx hb d_KeyMaker_putWord_34 rfl (lv_at hl 2 rfl) ?_
  refine lv_iconst (v := 3) hx hb d_KeyMaker_putWord_35 (by decide) ?_
  refine lv_iadd hx hb d_KeyMaker_putWord_36 ?_
  refine lv_topi (fun y3 ey3 => ?_)
  obtain rfl : y3 = nI (a + 3) := ey3.trans (nI_add a 3)
  refine lv_iload_n hx hb d_KeyMaker_putWord_37 rfl (lv_at hl 0 rfl) ?_
  refine lv_sipush (v := 255) hx hb d_KeyMaker_putWord_38 (by decide) ?_
  refine lv_iand hx hb d_KeyMaker_putWord_41 ?_
  refine xa_iast (k := a + 3) (f := upd (upd (upd f a (xu x 24)) (a + 1) ((xu x 16) &&& 255)) (a + 2) ((xu x 8) &&& 255)) (x := x &&& 255) hx hb hK hP hD hS 0 0 rfl rfl (by omega) (by omega) d_KeyMaker_putWord_42 (fun H locs hP hD hS => ?_)
  have hP : va_P G classes [(q, .inl (cI, n, .inl (upd (upd (upd (upd f a (xu x 24)) (a + 1) ((xu x 16) &&& 255)) (a + 2) ((xu x 8) &&& 255)) (a + 3) (x &&& 255))))] H := hP
  have hD : va_D A [(q, .inl (cI, n, .inl (upd (upd (upd (upd f a (xu x 24)) (a + 1) ((xu x 16) &&& 255)) (a + 2) ((xu x 8) &&& 255)) (a + 3) (x &&& 255))))] := hD
  have hP := xp_fun hP 0 (km_put f a x) rfl (fun j _ => km_put_eq f a x j)
  have hD := hD.set (p := 0) (e := .inl (cI, n, .inl (km_put f a x))) rfl
  have hP : va_P G classes [(q, .inl (cI, n, .inl (km_put f a x)))] H := hP
  have hD : va_D A [(q, .inl (cI, n, .inl (km_put f a x)))] := hD
  exact xe_v (()) hx hb hr hlk hK (trivial) hP hD hS d_KeyMaker_putWord_43 (by decide) (by decide)
set_option maxHeartbeats 4000000 in
set_option maxRecDepth 100000 in
theorem c_isByte (l : Launch) (G : va_G) (cI cB : ClassId) (tK tH sz : Nat) (b : Int32)  : xMi l G cI cB tK tH y_KeyMaker_isByte b_KeyMaker_isByte 1 (some .boolean) ({ frames := 0, cells := 0, slots := 0, locals := 0 }) [.int b] sz [] (fun r _ => (¬ b < 0 ∧ ¬ 255 < b ∧ r = 1) ∨ ((b < 0 ∨ 255 < b) ∧ r = 0)) (fun u : Unit => []) := by
  refine xMi.of (lv := [(0, .int b)]) (by decide) (Nat.le_of_ble_eq_true rfl) rfl ?_
  intro pp ee ss mm bel met cod A ls H locs hx hb hml hr hlk hts hown hnm hA hK hst hP hD hS hl
  have hown : ss.vm.findClass R_KeyMaker = some mm.cls := hown
  refine lv_iload_n hx hb d_KeyMaker_isByte_0 rfl (lv_at hl 0 rfl) ?_
  refine lv_if_lt (tgt := 15) hx hb d_KeyMaker_isByte_1 (by decide) (fun h1 => ?_) (fun h1 => ?_)
  · refine lv_iconst (v := 0) hx hb d_KeyMaker_isByte_15 (by decide) ?_
    exact xe_z (()) hx hb hr (by decide) hlk hK (Or.inr ⟨by first | exact Or.inr h2 | exact Or.inl h1, rfl⟩) hP hD hS d_KeyMaker_isByte_16 (by decide) (by decide)
  · refine lv_iload_n hx hb d_KeyMaker_isByte_4 rfl (lv_at hl 0 rfl) ?_
    refine lv_sipush (v := 255) hx hb d_KeyMaker_isByte_5 (by decide) ?_
    refine lv_icmp_gt (tgt := 15) hx hb d_KeyMaker_isByte_8 (by decide) (fun h2 => ?_) (fun h2 => ?_)
    · refine lv_iconst (v := 0) hx hb d_KeyMaker_isByte_15 (by decide) ?_
      exact xe_z (()) hx hb hr (by decide) hlk hK (Or.inr ⟨Or.inr h2, rfl⟩) hP hD hS d_KeyMaker_isByte_16 (by decide) (by decide)
    · refine lv_iconst (v := 1) hx hb d_KeyMaker_isByte_11 (by decide) ?_
      refine lv_goto (tgt := 16) hx hb d_KeyMaker_isByte_12 (by decide) ?_
      exact xe_z (()) hx hb hr (by decide) hlk hK (Or.inl ⟨h1, h2, rfl⟩) hP hD hS d_KeyMaker_isByte_16 (by decide) (by decide)
set_option maxHeartbeats 4000000 in
set_option maxRecDepth 100000 in
theorem c_isPlace (l : Launch) (G : va_G) (cI cB : ClassId) (tK tH sz : Nat) (i : Int32)  : xMi l G cI cB tK tH y_KeyMaker_isPlaceOfSum b_KeyMaker_isPlaceOfSum 1 (some .boolean) ({ frames := 0, cells := 0, slots := 0, locals := 0 }) [.int i] sz [] (fun r _ => (∃ k : Nat, k < 32 ∧ i = nI k ∧ r = 1) ∨ ((i < 0 ∨ 32 ≤ i) ∧ r = 0)) (fun u : Unit => []) := by
  refine xMi.of (lv := [(0, .int i)]) (by decide) (Nat.le_of_ble_eq_true rfl) rfl ?_
  intro pp ee ss mm bel met cod A ls H locs hx hb hml hr hlk hts hown hnm hA hK hst hP hD hS hl
  have hown : ss.vm.findClass R_KeyMaker = some mm.cls := hown
  refine lv_iload_n hx hb d_KeyMaker_isPlaceOfSum_0 rfl (lv_at hl 0 rfl) ?_
  refine lv_if_lt (tgt := 14) hx hb d_KeyMaker_isPlaceOfSum_1 (by decide) (fun h1 => ?_) (fun h1 => ?_)
  · refine lv_iconst (v := 0) hx hb d_KeyMaker_isPlaceOfSum_14 (by decide) ?_
    exact xe_z (()) hx hb hr (by decide) hlk hK (Or.inr ⟨by first | exact Or.inr h2 | exact Or.inl h1, rfl⟩) hP hD hS d_KeyMaker_isPlaceOfSum_15 (by decide) (by decide)
  · refine lv_iload_n hx hb d_KeyMaker_isPlaceOfSum_4 rfl (lv_at hl 0 rfl) ?_
    refine lv_bipush (v := 32) hx hb d_KeyMaker_isPlaceOfSum_5 (by decide) ?_
    refine lv_icmp_ge (tgt := 14) hx hb d_KeyMaker_isPlaceOfSum_7 (by decide) (fun h2 => ?_) (fun h2 => ?_)
    · refine lv_iconst (v := 0) hx hb d_KeyMaker_isPlaceOfSum_14 (by decide) ?_
      exact xe_z (()) hx hb hr (by decide) hlk hK (Or.inr ⟨by first | exact Or.inr h2 | exact Or.inl h1, rfl⟩) hP hD hS d_KeyMaker_isPlaceOfSum_15 (by decide) (by decide)
    · refine lv_iconst (v := 1) hx hb d_KeyMaker_isPlaceOfSum_10 (by decide) ?_
      refine lv_goto (tgt := 15) hx hb d_KeyMaker_isPlaceOfSum_11 (by decide) ?_
      exact xe_z (()) hx hb hr (by decide) hlk hK (Or.inl ((pk_ix i (n := 32) (by decide)).elim (fun z => absurd z h1) (fun z => z.elim (fun z => absurd z h2) (fun z => z.elim (fun k z => ⟨k, z.1, z.2, rfl⟩))))) hP hD hS d_KeyMaker_isPlaceOfSum_15 (by decide) (by decide)
set_option maxHeartbeats 4000000 in
set_option maxRecDepth 100000 in
theorem c_spread (l : Launch) (G : va_G) (cI cB : ClassId) (tK tH sz : Nat) (q0 q1 q2 : Nat) (w : Nat → Int32) (tk : Int32)  : xMv l G cI cB tK tH y_Summer_spreadWords b_Summer_spreadWords 2 none ({ frames := 2, cells := 0, slots := 0, locals := 41 }) [.ref q0] sz [(q0, .inr (1, [.ref q1, .ref q2, .int tk])), (q2, .inl (cI, 64, .inl w))] (fun _ => True) (fun u : Unit => [(q0, .inr (1, [.ref q1, .ref q2, .int tk])), (q2, .inl (cI, 64, .inl (km_W w)))]) := by
  refine xMv.of (lv := [(0, .ref q0)]) (by decide) (Nat.le_of_ble_eq_true rfl) rfl ?_
  intro pp ee ss mm bel met cod A ls H locs hx hb hml hr hlk hts hown hnm hA hK hst hP hD hS hl
  have hown : ss.vm.findClass R_Summer = some mm.cls := hown
  refine lv_bipush (v := 16) hx hb d_Summer_spreadWords_0 (by decide) ?_
  refine lv_istore_n (lv' := [(1, .int 16), (0, .ref q0)]) hx hb d_Summer_spreadWords_2 rfl hl (by decide) rfl (fun ls hl => ?_)
  refine xl (pc := 3) (I := fun NN ls H locs => ∃ (k : Nat), 48 - k = NN ∧ lv_has ls 2 [(1, .int (nI (16 + k))), (0, .ref q0)] ∧ va_P G classes [(q0, .inr (1, [.ref q1, .ref q2, .int tk])), (q2, .inl (cI, 64, .inl (km_w w k)))] H ∧ va_D A [(q0, .inr (1, [.ref q1, .ref q2, .int tk])), (q2, .inl (cI, 64, .inl (km_w w k)))] ∧ va_S A ss.heap H locs ∧ (k ≤ 48)) [] ?_ _ _ _ _ ⟨0, rfl, lv_sub hl [0, 1] rfl, hP, hD, hS, by omega⟩
  intro NN ih3 ls H locs hI
  obtain ⟨k, hN, hl, hP, hD, hS, hk⟩ := hI
  refine lv_iload_n hx hb d_Summer_spreadWords_3 rfl (lv_at hl 0 rfl) ?_
  refine lv_bipush (v := 64) hx hb d_Summer_spreadWords_4 (by decide) ?_
  refine lv_icmp_ge (tgt := 65) hx hb d_Summer_spreadWords_6 (by decide) (fun hc1 => ?_) (fun hc1 => ?_)
  · have hc1 : 64 ≤ (16 + k) := (nI_leI (a := 64) (b := (16 + k)) (by omega) (by omega)).mp hc1
    obtain rfl : k = 48 := by omega
    exact xe_v (()) hx hb hr hlk hK (trivial) hP hD hS d_Summer_spreadWords_65 (by decide) (by decide)
  · have hc1 : ¬ 64 ≤ (16 + k) := fun z => hc1 ((nI_leI (a := 64) (b := (16 + k)) (by omega) (by omega)).mpr z)
    refine lv_aload_n hx hb d_Summer_spreadWords_9 rfl (lv_at hl 1 rfl) ?_
    refine va_get (D := G) (ci := 1) (v := .ref q2) (C := R_Summer) (T := F_Summer) (N := 3) hx hb hts hi_Summer hown hK hP 0 rfl rfl 1 (by decide) (hts _ tw_40) (fun _ h9 => h9) rfl d_Summer_spreadWords_10 ?_
    refine lv_iload_n hx hb d_Summer_spreadWords_13 rfl (lv_at hl 0 rfl) ?_
    refine lv_aload_n hx hb d_Summer_spreadWords_14 rfl (lv_at hl 1 rfl) ?_
    refine va_get (D := G) (ci := 1) (v := .ref q2) (C := R_Summer) (T := F_Summer) (N := 3) hx hb hts hi_Summer hown hK hP 0 rfl rfl 1 (by decide) (hts _ tw_40) (fun _ h9 => h9) rfl d_Summer_spreadWords_15 ?_
    refine lv_iload_n hx hb d_Summer_spreadWords_18 rfl (lv_at hl 0 rfl) ?_
    refine lv_iconst (v := 2) hx hb d_Summer_spreadWords_19 (by decide) ?_
    refine lv_isub hx hb d_Summer_spreadWords_20 ?_
    refine lv_topi (fun y2 ey2 => ?_)
    obtain rfl : y2 = nI (16 + k - 2) := ey2.trans (pk_sub (a := (16 + k)) (b := 2) (by omega))
    refine xa_iald (k := 16 + k - 2) (f := km_w w k) hx hb hK hP 1 0 rfl rfl (by omega) (by omega) d_Summer_spreadWords_21 ?_
    refine xc_i (wr := [(q0, .inr (1, [.ref q1, .ref q2, .int tk])), (q2, .inl (cI, 64, .inl (km_w w k)))]) (va_runS (As := [.int ((km_w w k) (16 + k - 2))]) (rest := [.int (nI (16 + k)), .ref q2]) ⟨hx, hb, hml, hown, hts⟩ (c_z1 l G cI cB tK tH H.size (km_w w k (16 + k - 2)) ) (va_cwS 1 hts (xg_S tw_180 tw_181 tw_18 tw_182) rfl rfl rfl (by decide +kernel) ⟨Nat.le_of_ble_eq_true rfl, Nat.le_of_ble_eq_true rfl⟩) (xc_pre hK hst hA hP hD hS [] (by decide) rfl [.int ((km_w w k) (16 + k - 2))]) rfl rfl hl.1 rfl (lv_room (Nat.le_of_ble_eq_true rfl)) d_Summer_spreadWords_22 ⟨Nat.le_of_ble_eq_true rfl, Nat.le_of_ble_eq_true rfl⟩) hA hP hD hS [] [0, 1] rfl rfl (by decide) (by decide) (fun r4 u3 H locs hp hP hD hS => ?_)
    have hP : va_P G classes [(q0, .inr (1, [.ref q1, .ref q2, .int tk])), (q2, .inl (cI, 64, .inl (km_w w k)))] H := hP
    have hD : va_D A [(q0, .inr (1, [.ref q1, .ref q2, .int tk])), (q2, .inl (cI, 64, .inl (km_w w k)))] := hD
    obtain rfl : r4 = km_z1 (km_w w k (16 + k - 2)) := hp
    refine lv_aload_n hx hb d_Summer_spreadWords_25 rfl (lv_at hl 1 rfl) ?_
    refine va_get (D := G) (ci := 1) (v := .ref q2) (C := R_Summer) (T := F_Summer) (N := 3) hx hb hts hi_Summer hown hK hP 0 rfl rfl 1 (by decide) (hts _ tw_40) (fun _ h9 => h9) rfl d_Summer_spreadWords_26 ?_
    refine lv_iload_n hx hb d_Summer_spreadWords_29 rfl (lv_at hl 0 rfl) ?_
    refine lv_bipush (v := 7) hx hb d_Summer_spreadWords_30 (by decide) ?_
    refine lv_isub hx hb d_Summer_spreadWords_32 ?_
    refine lv_topi (fun y5 ey5 => ?_)
    obtain rfl : y5 = nI (16 + k - 7) := ey5.trans (pk_sub (a := (16 + k)) (b := 7) (by omega))
    refine xa_iald (k := 16 + k - 7) (f := km_w w k) hx hb hK hP 1 0 rfl rfl (by omega) (by omega) d_Summer_spreadWords_33 ?_
    refine lv_iadd hx hb d_Summer_spreadWords_34 ?_
    refine lv_aload_n hx hb d_Summer_spreadWords_35 rfl (lv_at hl 1 rfl) ?_
    refine va_get (D := G) (ci := 1) (v := .ref q2) (C := R_Summer) (T := F_Summer) (N := 3) hx hb hts hi_Summer hown hK hP 0 rfl rfl 1 (by decide) (hts _ tw_40) (fun _ h9 => h9) rfl d_Summer_spreadWords_36 ?_
    refine lv_iload_n hx hb d_Summer_spreadWords_39 rfl (lv_at hl 0 rfl) ?_
    refine lv_bipush (v := 15) hx hb d_Summer_spreadWords_40 (by decide) ?_
    refine lv_isub hx hb d_Summer_spreadWords_42 ?_
    refine lv_topi (fun y6 ey6 => ?_)
    obtain rfl : y6 = nI (16 + k - 15) := ey6.trans (pk_sub (a := (16 + k)) (b := 15) (by omega))
    refine xa_iald (k := 16 + k - 15) (f := km_w w k) hx hb hK hP 1 0 rfl rfl (by omega) (by omega) d_Summer_spreadWords_43 ?_
    refine xc_i (wr := [(q0, .inr (1, [.ref q1, .ref q2, .int tk])), (q2, .inl (cI, 64, .inl (km_w w k)))]) (va_runS (As := [.int ((km_w w k) (16 + k - 15))]) (rest := [.int ((km_z1 (km_w w k (16 + k - 2))) + ((km_w w k) (16 + k - 7))), .int (nI (16 + k)), .ref q2]) ⟨hx, hb, hml, hown, hts⟩ (c_z0 l G cI cB tK tH H.size (km_w w k (16 + k - 15)) ) (va_cwS 1 hts (xg_S tw_186 tw_187 tw_18 tw_188) rfl rfl rfl (by decide +kernel) ⟨Nat.le_of_ble_eq_true rfl, Nat.le_of_ble_eq_true rfl⟩) (xc_pre hK hst hA hP hD hS [] (by decide) rfl [.int ((km_w w k) (16 + k - 15))]) rfl rfl hl.1 rfl (lv_room (Nat.le_of_ble_eq_true rfl)) d_Summer_spreadWords_44 ⟨Nat.le_of_ble_eq_true rfl, Nat.le_of_ble_eq_true rfl⟩) hA hP hD hS [] [0, 1] rfl rfl (by decide) (by decide) (fun r8 u7 H locs hp hP hD hS => ?_)
    have hP : va_P G classes [(q0, .inr (1, [.ref q1, .ref q2, .int tk])), (q2, .inl (cI, 64, .inl (km_w w k)))] H := hP
    have hD : va_D A [(q0, .inr (1, [.ref q1, .ref q2, .int tk])), (q2, .inl (cI, 64, .inl (km_w w k)))] := hD
    obtain rfl : r8 = km_z0 (km_w w k (16 + k - 15)) := hp
    refine lv_iadd hx hb d_Summer_spreadWords_47 ?_
    refine lv_aload_n hx hb d_Summer_spreadWords_48 rfl (lv_at hl 1 rfl) ?_
    refine va_get (D := G) (ci := 1) (v := .ref q2) (C := R_Summer) (T := F_Summer) (N := 3) hx hb hts hi_Summer hown hK hP 0 rfl rfl 1 (by decide) (hts _ tw_40) (fun _ h9 => h9) rfl d_Summer_spreadWords_49 ?_
    refine lv_iload_n hx hb d_Summer_spreadWords_52 rfl (lv_at hl 0 rfl) ?_
    refine lv_bipush (v := 16) hx hb d_Summer_spreadWords_53 (by decide) ?_
    refine lv_isub hx hb d_Summer_spreadWords_55 ?_
    refine lv_topi (fun y9 ey9 => ?_)
    obtain rfl : y9 = nI (16 + k - 16) := ey9.trans (pk_sub (a := (16 + k)) (b := 16) (by omega))
    refine xa_iald (k := 16 + k - 16) (f := km_w w k) hx hb hK hP 1 0 rfl rfl (by omega) (by omega) d_Summer_spreadWords_56 ?_
    refine lv_iadd hx hb d_Summer_spreadWords_57 ?_
    refine xa_iast (k := 16 + k) (f := km_w w k) (x := (((km_z1 (km_w w k (16 + k - 2))) + ((km_w w k) (16 + k - 7))) + (km_z0 (km_w w k (16 + k - 15)))) + ((km_w w k) (16 + k - 16))) hx hb hK hP hD hS 1 0 rfl rfl (by omega) (by omega) d_Summer_spreadWords_58 (fun H locs hP hD hS => ?_)
    have hP : va_P G classes [(q0, .inr (1, [.ref q1, .ref q2, .int tk])), (q2, .inl (cI, 64, .inl (upd (km_w w k) (16 + k) ((((km_z1 (km_w w k (16 + k - 2))) + ((km_w w k) (16 + k - 7))) + (km_z0 (km_w w k (16 + k - 15)))) + ((km_w w k) (16 + k - 16))))))] H := hP
    have hD : va_D A [(q0, .inr (1, [.ref q1, .ref q2, .int tk])), (q2, .inl (cI, 64, .inl (upd (km_w w k) (16 + k) ((((km_z1 (km_w w k (16 + k - 2))) + ((km_w w k) (16 + k - 7))) + (km_z0 (km_w w k (16 + k - 15)))) + ((km_w w k) (16 + k - 16))))))] := hD
    have hP := xp_fun hP 1 (km_w w (k + 1)) rfl (fun j _ => km_w_step w k j)
    have hD := hD.set (p := 1) (e := .inl (cI, 64, .inl (km_w w (k + 1)))) rfl
    have hP : va_P G classes [(q0, .inr (1, [.ref q1, .ref q2, .int tk])), (q2, .inl (cI, 64, .inl (km_w w (k + 1))))] H := hP
    have hD : va_D A [(q0, .inr (1, [.ref q1, .ref q2, .int tk])), (q2, .inl (cI, 64, .inl (km_w w (k + 1))))] := hD
    refine lv_iinc (k := 0) (v := nI (16 + k + 1)) (lv' := [(1, .int (nI (16 + k + 1))), (0, .ref q0)]) hx hb d_Summer_spreadWords_59 hl rfl (nI_1 (16 + k)) (by decide) rfl (fun ls hl => ?_)
    refine lv_goto (tgt := 3) hx hb d_Summer_spreadWords_62 (by decide) ?_
    exact ih3 _ (by omega) _ _ _ ⟨k + 1, rfl, lv_sub hl [0, 1] rfl, hP, hD, hS, by omega⟩
