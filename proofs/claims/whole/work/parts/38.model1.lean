/-! the reference: rot, isAtMost, root, lay, mix -/
set_option maxHeartbeats 4000000 in
set_option maxRecDepth 100000 in
theorem c_rot (l : Launch) (G : va_G) (cI cB : ClassId) (tK tH sz : Nat) (x n : Int32) (hn : (32 - n) &&& 31 = -n &&& 31) : xMi l G cI cB tK tH y_Model_rot b_Model_rot 2 (some .int) ({ frames := 0, cells := 0, slots := 0, locals := 0 }) [.int x, .int n] sz [] (fun r _ => r = xr x n) (fun u : Unit => []) := by
  refine xMi.of (lv := [(0, .int x), (1, .int n)]) (by decide) (Nat.le_of_ble_eq_true rfl) rfl ?_
  intro pp ee ss mm bel met cod A ls H locs hx hb hml hr hlk hts hown hnm hA hK hst hP hD hS hl
  have hown : ss.vm.findClass R_Model = some mm.cls := hown
  refine lv_iload_n hx hb d_Model_rot_0 rfl (lv_at hl 0 rfl) ?_
  refine lv_iload_n hx hb d_Model_rot_1 rfl (lv_at hl 1 rfl) ?_
  refine lv_iushr (v := xu x n) hx hb d_Model_rot_2 rfl ?_
  refine lv_iload_n hx hb d_Model_rot_3 rfl (lv_at hl 0 rfl) ?_
  refine lv_bipush (v := 32) hx hb d_Model_rot_4 (by decide) ?_
  refine lv_iload_n hx hb d_Model_rot_6 rfl (lv_at hl 1 rfl) ?_
  refine lv_isub hx hb d_Model_rot_7 ?_
  refine lv_ishl hx hb d_Model_rot_8 ?_
  refine lv_ior hx hb d_Model_rot_9 ?_
  exact xe_i (()) hx hb hr hlk hK (by unfold xr; rw [hn]) hP hD hS d_Model_rot_10 (by decide) (by decide)
set_option maxHeartbeats 4000000 in
set_option maxRecDepth 100000 in
theorem c_am (l : Launch) (G : va_G) (cI cB : ClassId) (tK tH sz : Nat) (x : Int64) (p cb : Int32)  : xMi l G cI cB tK tH y_Model_isAtMost b_Model_isAtMost 24 (some .boolean) ({ frames := 0, cells := 0, slots := 0, locals := 0 }) [.long x, .int p, .int cb] sz [] (fun v _ => v = km_am x p cb) (fun u : Unit => []) := by
  refine xMi.of (lv := [(0, .long x), (2, .int p), (3, .int cb)]) (by decide) (Nat.le_of_ble_eq_true rfl) rfl ?_
  intro pp ee ss mm bel met cod A ls H locs hx hb hml hr hlk hts hown hnm hA hK hst hP hD hS hl
  have hown : ss.vm.findClass R_Model = some mm.cls := hown
  refine lv_lload_n hx hb d_Model_isAtMost_0 rfl (lv_at hl 0 rfl) ?_
  refine lv_bipush (v := 18) hx hb d_Model_isAtMost_1 (by decide) ?_
  refine lv_lshr (v := x >>> ((18 : Int32).toInt64 &&& 63)) hx hb d_Model_isAtMost_3 rfl ?_
  refine lv_topl (fun y1 ey1 => ?_)
  obtain rfl : y1 = am_x x := ey1.trans (rfl)
  refine lv_lstore (lv' := [(4, .long (am_x x)), (0, .long x), (2, .int p), (3, .int cb)]) hx hb d_Model_isAtMost_4 hl (by decide) rfl (fun ls hl => ?_)
  refine lv_lload_n hx hb d_Model_isAtMost_6 rfl (lv_at hl 1 rfl) ?_
  refine lv_ldc2 (v := 262143) hx hb hown (hts _ tw_298) d_Model_isAtMost_7 ?_
  refine lv_land hx hb d_Model_isAtMost_10 ?_
  refine lv_topl (fun y2 ey2 => ?_)
  obtain rfl : y2 = am_y x := ey2.trans (rfl)
  refine lv_lstore (lv' := [(6, .long (am_y x)), (4, .long (am_x x)), (0, .long x), (2, .int p), (3, .int cb)]) hx hb d_Model_isAtMost_11 hl (by decide) rfl (fun ls hl => ?_)
  refine lv_lload hx hb d_Model_isAtMost_13 (lv_at hl 0 rfl) ?_
  refine lv_lload hx hb d_Model_isAtMost_15 (lv_at hl 0 rfl) ?_
  refine lv_lmul hx hb d_Model_isAtMost_17 ?_
  refine lv_topl (fun y3 ey3 => ?_)
  obtain rfl : y3 = am_u0 x := ey3.trans (rfl)
  refine lv_lstore (lv' := [(8, .long (am_u0 x)), (6, .long (am_y x)), (4, .long (am_x x)), (0, .long x), (2, .int p), (3, .int cb)]) hx hb d_Model_isAtMost_18 hl (by decide) rfl (fun ls hl => ?_)
  refine lv_ldc2 (v := 2) hx hb hown (hts _ tw_294) d_Model_isAtMost_20 ?_
  refine lv_lload hx hb d_Model_isAtMost_23 (lv_at hl 2 rfl) ?_
  refine lv_lmul hx hb d_Model_isAtMost_25 ?_
  refine lv_lload hx hb d_Model_isAtMost_26 (lv_at hl 1 rfl) ?_
  refine lv_lmul hx hb d_Model_isAtMost_28 ?_
  refine lv_lload hx hb d_Model_isAtMost_29 (lv_at hl 0 rfl) ?_
  refine lv_bipush (v := 18) hx hb d_Model_isAtMost_31 (by decide) ?_
  refine lv_lshr (v := (am_u0 x) >>> ((18 : Int32).toInt64 &&& 63)) hx hb d_Model_isAtMost_33 rfl ?_
  refine lv_ladd hx hb d_Model_isAtMost_34 ?_
  refine lv_topl (fun y4 ey4 => ?_)
  obtain rfl : y4 = am_t0 x := ey4.trans (rfl)
  refine lv_lstore (lv' := [(10, .long (am_t0 x)), (8, .long (am_u0 x)), (6, .long (am_y x)), (4, .long (am_x x)), (0, .long x), (2, .int p), (3, .int cb)]) hx hb d_Model_isAtMost_35 hl (by decide) rfl (fun ls hl => ?_)
  refine lv_lload hx hb d_Model_isAtMost_37 (lv_at hl 1 rfl) ?_
  refine lv_ldc2 (v := 262143) hx hb hown (hts _ tw_298) d_Model_isAtMost_39 ?_
  refine lv_land hx hb d_Model_isAtMost_42 ?_
  refine lv_topl (fun y5 ey5 => ?_)
  obtain rfl : y5 = am_u x := ey5.trans (rfl)
  refine lv_lstore (lv' := [(8, .long (am_u x)), (10, .long (am_t0 x)), (6, .long (am_y x)), (4, .long (am_x x)), (0, .long x), (2, .int p), (3, .int cb)]) hx hb d_Model_isAtMost_43 hl (by decide) rfl (fun ls hl => ?_)
  refine lv_lload hx hb d_Model_isAtMost_45 (lv_at hl 3 rfl) ?_
  refine lv_lload hx hb d_Model_isAtMost_47 (lv_at hl 3 rfl) ?_
  refine lv_lmul hx hb d_Model_isAtMost_49 ?_
  refine lv_lload hx hb d_Model_isAtMost_50 (lv_at hl 1 rfl) ?_
  refine lv_bipush (v := 18) hx hb d_Model_isAtMost_52 (by decide) ?_
  refine lv_lshr (v := (am_t0 x) >>> ((18 : Int32).toInt64 &&& 63)) hx hb d_Model_isAtMost_54 rfl ?_
  refine lv_ladd hx hb d_Model_isAtMost_55 ?_
  refine lv_topl (fun y6 ey6 => ?_)
  obtain rfl : y6 = am_s x := ey6.trans (rfl)
  refine lv_lstore (lv' := [(12, .long (am_s x)), (8, .long (am_u x)), (10, .long (am_t0 x)), (6, .long (am_y x)), (4, .long (am_x x)), (0, .long x), (2, .int p), (3, .int cb)]) hx hb d_Model_isAtMost_56 hl (by decide) rfl (fun ls hl => ?_)
  refine lv_lload hx hb d_Model_isAtMost_58 (lv_at hl 2 rfl) ?_
  refine lv_ldc2 (v := 262143) hx hb hown (hts _ tw_298) d_Model_isAtMost_60 ?_
  refine lv_land hx hb d_Model_isAtMost_63 ?_
  refine lv_topl (fun y7 ey7 => ?_)
  obtain rfl : y7 = am_t x := ey7.trans (rfl)
  refine lv_lstore (lv' := [(10, .long (am_t x)), (12, .long (am_s x)), (8, .long (am_u x)), (6, .long (am_y x)), (4, .long (am_x x)), (0, .long x), (2, .int p), (3, .int cb)]) hx hb d_Model_isAtMost_64 hl (by decide) rfl (fun ls hl => ?_)
  refine lv_iload_n hx hb d_Model_isAtMost_66 rfl (lv_at hl 7 rfl) ?_
  refine lv_if_ne (tgt := 108) hx hb d_Model_isAtMost_67 (by decide) (fun hc => ?_) (fun hc => ?_)
  · refine lv_lload hx hb d_Model_isAtMost_108 (lv_at hl 2 rfl) ?_
    refine lv_lload hx hb d_Model_isAtMost_110 (lv_at hl 3 rfl) ?_
    refine lv_lmul hx hb d_Model_isAtMost_112 ?_
    refine lv_topl (fun y8 ey8 => ?_)
    obtain rfl : y8 = am_d0 x := ey8.trans (rfl)
    refine lv_lstore (lv' := [(14, .long (am_d0 x)), (10, .long (am_t x)), (12, .long (am_s x)), (8, .long (am_u x)), (6, .long (am_y x)), (4, .long (am_x x)), (0, .long x), (2, .int p), (3, .int cb)]) hx hb d_Model_isAtMost_113 hl (by decide) rfl (fun ls hl => ?_)
    refine lv_lload hx hb d_Model_isAtMost_115 (lv_at hl 3 rfl) ?_
    refine lv_lload hx hb d_Model_isAtMost_117 (lv_at hl 5 rfl) ?_
    refine lv_lmul hx hb d_Model_isAtMost_119 ?_
    refine lv_lload hx hb d_Model_isAtMost_120 (lv_at hl 1 rfl) ?_
    refine lv_lload hx hb d_Model_isAtMost_122 (lv_at hl 4 rfl) ?_
    refine lv_lmul hx hb d_Model_isAtMost_124 ?_
    refine lv_ladd hx hb d_Model_isAtMost_125 ?_
    refine lv_lload hx hb d_Model_isAtMost_126 (lv_at hl 0 rfl) ?_
    refine lv_bipush (v := 18) hx hb d_Model_isAtMost_128 (by decide) ?_
    refine lv_lshr (v := (am_d0 x) >>> ((18 : Int32).toInt64 &&& 63)) hx hb d_Model_isAtMost_130 rfl ?_
    refine lv_ladd hx hb d_Model_isAtMost_131 ?_
    refine lv_topl (fun y9 ey9 => ?_)
    obtain rfl : y9 = am_d1 x := ey9.trans (rfl)
    refine lv_lstore (lv' := [(16, .long (am_d1 x)), (14, .long (am_d0 x)), (10, .long (am_t x)), (12, .long (am_s x)), (8, .long (am_u x)), (6, .long (am_y x)), (4, .long (am_x x)), (0, .long x), (2, .int p), (3, .int cb)]) hx hb d_Model_isAtMost_132 hl (by decide) rfl (fun ls hl => ?_)
    refine lv_lload hx hb d_Model_isAtMost_134 (lv_at hl 2 rfl) ?_
    refine lv_lload hx hb d_Model_isAtMost_136 (lv_at hl 6 rfl) ?_
    refine lv_lmul hx hb d_Model_isAtMost_138 ?_
    refine lv_lload hx hb d_Model_isAtMost_139 (lv_at hl 3 rfl) ?_
    refine lv_lload hx hb d_Model_isAtMost_141 (lv_at hl 5 rfl) ?_
    refine lv_lmul hx hb d_Model_isAtMost_143 ?_
    refine lv_ladd hx hb d_Model_isAtMost_144 ?_
    refine lv_lload hx hb d_Model_isAtMost_145 (lv_at hl 0 rfl) ?_
    refine lv_bipush (v := 18) hx hb d_Model_isAtMost_147 (by decide) ?_
    refine lv_lshr (v := (am_d1 x) >>> ((18 : Int32).toInt64 &&& 63)) hx hb d_Model_isAtMost_149 rfl ?_
    refine lv_ladd hx hb d_Model_isAtMost_150 ?_
    refine lv_topl (fun y10 ey10 => ?_)
    obtain rfl : y10 = am_d2 x := ey10.trans (rfl)
    refine lv_lstore (lv' := [(18, .long (am_d2 x)), (16, .long (am_d1 x)), (14, .long (am_d0 x)), (10, .long (am_t x)), (12, .long (am_s x)), (8, .long (am_u x)), (6, .long (am_y x)), (4, .long (am_x x)), (0, .long x), (2, .int p), (3, .int cb)]) hx hb d_Model_isAtMost_151 hl (by decide) rfl (fun ls hl => ?_)
    refine lv_lload hx hb d_Model_isAtMost_153 (lv_at hl 4 rfl) ?_
    refine lv_lload hx hb d_Model_isAtMost_155 (lv_at hl 7 rfl) ?_
    refine lv_lmul hx hb d_Model_isAtMost_157 ?_
    refine lv_lload hx hb d_Model_isAtMost_158 (lv_at hl 0 rfl) ?_
    refine lv_bipush (v := 18) hx hb d_Model_isAtMost_160 (by decide) ?_
    refine lv_lshr (v := (am_d2 x) >>> ((18 : Int32).toInt64 &&& 63)) hx hb d_Model_isAtMost_162 rfl ?_
    refine lv_ladd hx hb d_Model_isAtMost_163 ?_
    refine lv_topl (fun y11 ey11 => ?_)
    obtain rfl : y11 = am_d3 x := ey11.trans (rfl)
    refine lv_lstore (lv' := [(20, .long (am_d3 x)), (18, .long (am_d2 x)), (16, .long (am_d1 x)), (14, .long (am_d0 x)), (10, .long (am_t x)), (12, .long (am_s x)), (8, .long (am_u x)), (6, .long (am_y x)), (4, .long (am_x x)), (0, .long x), (2, .int p), (3, .int cb)]) hx hb d_Model_isAtMost_164 hl (by decide) rfl (fun ls hl => ?_)
    refine lv_lload hx hb d_Model_isAtMost_166 (lv_at hl 3 rfl) ?_
    refine lv_ldc2 (v := 262143) hx hb hown (hts _ tw_298) d_Model_isAtMost_168 ?_
    refine lv_land hx hb d_Model_isAtMost_171 ?_
    refine lv_lload hx hb d_Model_isAtMost_172 (lv_at hl 2 rfl) ?_
    refine lv_ldc2 (v := 262143) hx hb hown (hts _ tw_298) d_Model_isAtMost_174 ?_
    refine lv_land hx hb d_Model_isAtMost_177 ?_
    refine lv_ladd hx hb d_Model_isAtMost_178 ?_
    refine lv_lload hx hb d_Model_isAtMost_179 (lv_at hl 1 rfl) ?_
    refine lv_ldc2 (v := 262143) hx hb hown (hts _ tw_298) d_Model_isAtMost_181 ?_
    refine lv_land hx hb d_Model_isAtMost_184 ?_
    refine lv_ladd hx hb d_Model_isAtMost_185 ?_
    refine lv_topl (fun y12 ey12 => ?_)
    obtain rfl : y12 = am_lo x := ey12.trans (rfl)
    refine lv_lstore (lv' := [(22, .long (am_lo x)), (20, .long (am_d3 x)), (18, .long (am_d2 x)), (16, .long (am_d1 x)), (14, .long (am_d0 x)), (10, .long (am_t x)), (12, .long (am_s x)), (8, .long (am_u x)), (6, .long (am_y x)), (4, .long (am_x x)), (0, .long x), (2, .int p), (3, .int cb)]) hx hb d_Model_isAtMost_186 hl (by decide) rfl (fun ls hl => ?_)
    refine lv_lload hx hb d_Model_isAtMost_188 (lv_at hl 1 rfl) ?_
    refine lv_iload_n hx hb d_Model_isAtMost_190 rfl (lv_at hl 11 rfl) ?_
    refine lv_i2l (v := p.toInt64) hx hb d_Model_isAtMost_191 rfl ?_
    refine lv_bipush (v := 42) hx hb d_Model_isAtMost_192 (by decide) ?_
    refine lv_lshl (v := p.toInt64 <<< ((42 : Int32).toInt64 &&& 63)) hx hb d_Model_isAtMost_194 rfl ?_
    refine lv_topl (fun y13 ey13 => ?_)
    obtain rfl : y13 = am_p p 42 := ey13.trans (rfl)
    refine W.lcmp hx hb d_Model_isAtMost_195 ?_
    refine lv_if_lt (tgt := 217) hx hb d_Model_isAtMost_196 (by decide) (fun h1 => ?_) (fun h1 => ?_)
    · have h1 := (lg_cmp_lt _ _).mp h1
      refine lv_iconst (v := 1) hx hb d_Model_isAtMost_217 (by decide) ?_
      refine lv_goto (tgt := 222) hx hb d_Model_isAtMost_218 (by decide) ?_
      exact xe_z (()) hx hb hr (by decide) hlk hK (am_5 hc h1) hP hD hS d_Model_isAtMost_222 (by decide) (by decide)
    · have h1 := fun z => h1 ((lg_cmp_lt _ _).mpr z)
      refine lv_lload hx hb d_Model_isAtMost_199 (lv_at hl 1 rfl) ?_
      refine lv_iload_n hx hb d_Model_isAtMost_201 rfl (lv_at hl 11 rfl) ?_
      refine lv_i2l (v := p.toInt64) hx hb d_Model_isAtMost_202 rfl ?_
      refine lv_bipush (v := 42) hx hb d_Model_isAtMost_203 (by decide) ?_
      refine lv_lshl (v := p.toInt64 <<< ((42 : Int32).toInt64 &&& 63)) hx hb d_Model_isAtMost_205 rfl ?_
      refine lv_topl (fun y14 ey14 => ?_)
      obtain rfl : y14 = am_p p 42 := ey14.trans (rfl)
      refine W.lcmp hx hb d_Model_isAtMost_206 ?_
      refine lv_if_ne (tgt := 221) hx hb d_Model_isAtMost_207 (by decide) (fun h2 => ?_) (fun h2 => ?_)
      · have h2 := fun z => h2 ((lg_cmp_eq _ _).mpr z)
        refine lv_iconst (v := 0) hx hb d_Model_isAtMost_221 (by decide) ?_
        exact xe_z (()) hx hb hr (by decide) hlk hK (am_6 hc h1 h2) hP hD hS d_Model_isAtMost_222 (by decide) (by decide)
      · have h2 := (lg_cmp_eq _ _).mp h2
        refine lv_lload hx hb d_Model_isAtMost_210 (lv_at hl 0 rfl) ?_
        refine lv_lconst (v := 0) hx hb d_Model_isAtMost_212 (by decide) ?_
        refine W.lcmp hx hb d_Model_isAtMost_213 ?_
        refine lv_if_ne (tgt := 221) hx hb d_Model_isAtMost_214 (by decide) (fun h3 => ?_) (fun h3 => ?_)
        · have h3 := fun z => h3 ((lg_cmp_eq _ _).mpr z)
          refine lv_iconst (v := 0) hx hb d_Model_isAtMost_221 (by decide) ?_
          exact xe_z (()) hx hb hr (by decide) hlk hK (am_8 hc h1 h2 h3) hP hD hS d_Model_isAtMost_222 (by decide) (by decide)
        · have h3 := (lg_cmp_eq _ _).mp h3
          refine lv_iconst (v := 1) hx hb d_Model_isAtMost_217 (by decide) ?_
          refine lv_goto (tgt := 222) hx hb d_Model_isAtMost_218 (by decide) ?_
          exact xe_z (()) hx hb hr (by decide) hlk hK (am_7 hc h1 h2 h3) hP hD hS d_Model_isAtMost_222 (by decide) (by decide)
  · refine lv_lload hx hb d_Model_isAtMost_70 (lv_at hl 1 rfl) ?_
    refine lv_iload_n hx hb d_Model_isAtMost_72 rfl (lv_at hl 6 rfl) ?_
    refine lv_i2l (v := p.toInt64) hx hb d_Model_isAtMost_73 rfl ?_
    refine lv_bipush (v := 28) hx hb d_Model_isAtMost_74 (by decide) ?_
    refine lv_lshl (v := p.toInt64 <<< ((28 : Int32).toInt64 &&& 63)) hx hb d_Model_isAtMost_76 rfl ?_
    refine lv_topl (fun y15 ey15 => ?_)
    obtain rfl : y15 = am_p p 28 := ey15.trans (rfl)
    refine W.lcmp hx hb d_Model_isAtMost_77 ?_
    refine lv_if_lt (tgt := 102) hx hb d_Model_isAtMost_78 (by decide) (fun h1 => ?_) (fun h1 => ?_)
    · have h1 := (lg_cmp_lt _ _).mp h1
      refine lv_iconst (v := 1) hx hb d_Model_isAtMost_102 (by decide) ?_
      refine lv_goto (tgt := 107) hx hb d_Model_isAtMost_103 (by decide) ?_
      exact xe_z (()) hx hb hr (by decide) hlk hK (am_1 hc h1) hP hD hS d_Model_isAtMost_107 (by decide) (by decide)
    · have h1 := fun z => h1 ((lg_cmp_lt _ _).mpr z)
      refine lv_lload hx hb d_Model_isAtMost_81 (lv_at hl 1 rfl) ?_
      refine lv_iload_n hx hb d_Model_isAtMost_83 rfl (lv_at hl 6 rfl) ?_
      refine lv_i2l (v := p.toInt64) hx hb d_Model_isAtMost_84 rfl ?_
      refine lv_bipush (v := 28) hx hb d_Model_isAtMost_85 (by decide) ?_
      refine lv_lshl (v := p.toInt64 <<< ((28 : Int32).toInt64 &&& 63)) hx hb d_Model_isAtMost_87 rfl ?_
      refine lv_topl (fun y16 ey16 => ?_)
      obtain rfl : y16 = am_p p 28 := ey16.trans (rfl)
      refine W.lcmp hx hb d_Model_isAtMost_88 ?_
      refine lv_if_ne (tgt := 106) hx hb d_Model_isAtMost_89 (by decide) (fun h2 => ?_) (fun h2 => ?_)
      · have h2 := fun z => h2 ((lg_cmp_eq _ _).mpr z)
        refine lv_iconst (v := 0) hx hb d_Model_isAtMost_106 (by decide) ?_
        exact xe_z (()) hx hb hr (by decide) hlk hK (am_2 hc h1 h2) hP hD hS d_Model_isAtMost_107 (by decide) (by decide)
      · have h2 := (lg_cmp_eq _ _).mp h2
        refine lv_lload hx hb d_Model_isAtMost_92 (lv_at hl 0 rfl) ?_
        refine lv_lload hx hb d_Model_isAtMost_94 (lv_at hl 2 rfl) ?_
        refine lv_ladd hx hb d_Model_isAtMost_96 ?_
        refine lv_topl (fun y17 ey17 => ?_)
        obtain rfl : y17 = am_tu x := ey17.trans (rfl)
        refine lv_lconst (v := 0) hx hb d_Model_isAtMost_97 (by decide) ?_
        refine W.lcmp hx hb d_Model_isAtMost_98 ?_
        refine lv_if_ne (tgt := 106) hx hb d_Model_isAtMost_99 (by decide) (fun h3 => ?_) (fun h3 => ?_)
        · have h3 := fun z => h3 ((lg_cmp_eq _ _).mpr z)
          refine lv_iconst (v := 0) hx hb d_Model_isAtMost_106 (by decide) ?_
          exact xe_z (()) hx hb hr (by decide) hlk hK (am_4 hc h1 h2 h3) hP hD hS d_Model_isAtMost_107 (by decide) (by decide)
        · have h3 := (lg_cmp_eq _ _).mp h3
          refine lv_iconst (v := 1) hx hb d_Model_isAtMost_102 (by decide) ?_
          refine lv_goto (tgt := 107) hx hb d_Model_isAtMost_103 (by decide) ?_
          exact xe_z (()) hx hb hr (by decide) hlk hK (am_3 hc h1 h2 h3) hP hD hS d_Model_isAtMost_107 (by decide) (by decide)
set_option maxHeartbeats 4000000 in
set_option maxRecDepth 100000 in
theorem c_root (l : Launch) (G : va_G) (cI cB : ClassId) (tK tH sz : Nat) (p cb : Int32)  : xMi l G cI cB tK tH y_Model_root b_Model_root 8 (some .int) ({ frames := 1, cells := 0, slots := 0, locals := 43 }) [.int p, .int cb] sz [] (fun v _ => v = nI (km_ro p cb 36)) (fun u : Unit => []) := by
  refine xMi.of (lv := [(0, .int p), (1, .int cb)]) (by decide) (Nat.le_of_ble_eq_true rfl) rfl ?_
  intro pp ee ss mm bel met cod A ls H locs hx hb hml hr hlk hts hown hnm hA hK hst hP hD hS hl
  have hown : ss.vm.findClass R_Model = some mm.cls := hown
  refine lv_lconst (v := 0) hx hb d_Model_root_0 (by decide) ?_
  refine lv_topl (fun y1 ey1 => ?_)
  obtain rfl : y1 = lN (km_ro p cb 0) := ey1.trans (rfl)
  refine lv_lstore_n (lv' := [(2, .long (lN (km_ro p cb 0))), (0, .int p), (1, .int cb)]) hx hb d_Model_root_1 rfl hl (by decide) rfl (fun ls hl => ?_)
  refine lv_ldc2 (v := 68719476736) hx hb hown (hts _ tw_293) d_Model_root_2 ?_
  refine lv_topl (fun y2 ey2 => ?_)
  obtain rfl : y2 = lN (km_ro p cb 0 + 2 ^ (36 - 0)) := ey2.trans (kl_start p cb)
  refine lv_lstore (lv' := [(4, .long (lN (km_ro p cb 0 + 2 ^ (36 - 0)))), (2, .long (lN (km_ro p cb 0))), (0, .int p), (1, .int cb)]) hx hb d_Model_root_5 hl (by decide) rfl (fun ls hl => ?_)
  refine xl (pc := 7) (I := fun NN ls H locs => ∃ (k : Nat), 36 - k = NN ∧ lv_has ls 8 [(4, .long (lN (km_ro p cb k + 2 ^ (36 - k)))), (2, .long (lN (km_ro p cb k))), (0, .int p), (1, .int cb)] ∧ va_P G classes [] H ∧ va_D A [] ∧ va_S A ss.heap H locs ∧ (k ≤ 36)) [] ?_ _ _ _ _ ⟨0, rfl, lv_sub hl [0, 1, 2, 3] rfl, hP, hD, hS, by omega⟩
  intro NN ih7 ls H locs hI
  obtain ⟨k, hN, hl, hP, hD, hS, hk⟩ := hI
  have hro := km_ro_le p cb k hk
  refine lv_lload hx hb d_Model_root_7 (lv_at hl 0 rfl) ?_
  refine lv_lload_n hx hb d_Model_root_9 rfl (lv_at hl 1 rfl) ?_
  refine lv_lsub hx hb d_Model_root_10 ?_
  refine lv_topl (fun y3 ey3 => ?_)
  obtain rfl : y3 = lN (2 ^ (36 - k)) := ey3.trans (kl_sub _ _)
  refine lv_lconst (v := 1) hx hb d_Model_root_11 (by decide) ?_
  refine W.lcmp hx hb d_Model_root_12 ?_
  refine lv_if_le (tgt := 49) hx hb d_Model_root_13 (by decide) (fun h0 => ?_) (fun h0 => ?_)
  · have h0 : k = 36 := (kl_le k (by omega)).mp ((lg_cmp_le _ _).mp h0)
    refine lv_lload_n hx hb d_Model_root_49 rfl (lv_at hl 1 rfl) ?_
    refine lv_l2i (v := (lN (km_ro p cb k)).toInt32) hx hb d_Model_root_50 rfl ?_
    refine lv_topi (fun y4 ey4 => ?_)
    obtain rfl : y4 = nI (km_ro p cb k) := ey4.trans (lN_i _)
    exact xe_i (()) hx hb hr hlk hK (by rw [h0]) hP hD hS d_Model_root_51 (by decide) (by decide)
  · have h0 : ¬ k = 36 := fun z => h0 ((lg_cmp_le _ _).mpr ((kl_le k (by omega)).mpr z))
    refine lv_lload_n hx hb d_Model_root_16 rfl (lv_at hl 1 rfl) ?_
    refine lv_lload hx hb d_Model_root_17 (lv_at hl 0 rfl) ?_
    refine lv_ladd hx hb d_Model_root_19 ?_
    refine lv_ldc2 (v := 2) hx hb hown (hts _ tw_294) d_Model_root_20 ?_
    refine lv_ldiv hx hb d_Model_root_23 (by decide) ?_
    refine lv_topl (fun y5 ey5 => ?_)
    obtain rfl : y5 = lN (km_ro p cb k + 2 ^ (35 - k)) := ey5.trans (kl_mid (by omega) hro)
    refine lv_lstore (lv' := [(6, .long (lN (km_ro p cb k + 2 ^ (35 - k)))), (4, .long (lN (km_ro p cb k + 2 ^ (36 - k)))), (2, .long (lN (km_ro p cb k))), (0, .int p), (1, .int cb)]) hx hb d_Model_root_24 hl (by decide) rfl (fun ls hl => ?_)
    refine lv_lload hx hb d_Model_root_26 (lv_at hl 0 rfl) ?_
    refine lv_iload_n hx hb d_Model_root_28 rfl (lv_at hl 3 rfl) ?_
    refine lv_iload_n hx hb d_Model_root_29 rfl (lv_at hl 4 rfl) ?_
    refine xc_i (wr := []) (va_runS (As := [.long (lN (km_ro p cb k + 2 ^ (35 - k))), .int p, .int cb]) (rest := []) ⟨hx, hb, hml, hown, hts⟩ (c_am l G cI cB tK tH H.size (lN (km_ro p cb k + 2 ^ (35 - k))) p cb ) (va_cwS 3 hts (xg_S tw_295 tw_296 tw_20 tw_297) rfl rfl rfl (by decide +kernel) ⟨Nat.le_of_ble_eq_true rfl, Nat.le_of_ble_eq_true rfl⟩) (xc_pre hK hst hA hP hD hS [] (by decide) rfl [.long (lN (km_ro p cb k + 2 ^ (35 - k))), .int p, .int cb]) rfl rfl hl.1 rfl (lv_room (Nat.le_of_ble_eq_true rfl)) d_Model_root_30 ⟨Nat.le_of_ble_eq_true rfl, Nat.le_of_ble_eq_true rfl⟩) hA hP hD hS [] [] rfl rfl (by decide) (by decide) (fun r7 u6 H locs hp hP hD hS => ?_)
    have hP : va_P G classes [] H := hP
    have hD : va_D A [] := hD
    obtain rfl : r7 = km_am (lN (km_ro p cb k + 2 ^ (35 - k))) p cb := hp
    refine lv_if_eq (tgt := 42) hx hb d_Model_root_33 (by decide) (fun h1 => ?_) (fun h1 => ?_)
    · refine lv_lload hx hb d_Model_root_42 (lv_at hl 0 rfl) ?_
      refine lv_lstore (lv' := [(4, .long (lN (km_ro p cb k + 2 ^ (35 - k)))), (6, .long (lN (km_ro p cb k + 2 ^ (35 - k)))), (2, .long (lN (km_ro p cb k))), (0, .int p), (1, .int cb)]) hx hb d_Model_root_44 hl (by decide) rfl (fun ls hl => ?_)
      refine lv_goto (tgt := 7) hx hb d_Model_root_46 (by decide) ?_
      have e1 : lN (km_ro p cb k) = lN (km_ro p cb (k + 1)) := by rw [km_ro_0 h1]
      have e2 : lN (km_ro p cb k + 2 ^ (35 - k)) = lN (km_ro p cb (k + 1) + 2 ^ (36 - (k + 1))) := by rw [km_ro_0 h1, show 36 - (k + 1) = 35 - k by omega]
      rw [e1, e2] at hl
      exact ih7 _ (by omega) _ _ _ ⟨k + 1, rfl, lv_sub hl [0, 2, 3, 4] rfl, hP, hD, hS, by omega⟩
    · refine lv_lload hx hb d_Model_root_36 (lv_at hl 0 rfl) ?_
      refine lv_lstore_n (lv' := [(2, .long (lN (km_ro p cb k + 2 ^ (35 - k)))), (6, .long (lN (km_ro p cb k + 2 ^ (35 - k)))), (4, .long (lN (km_ro p cb k + 2 ^ (36 - k)))), (0, .int p), (1, .int cb)]) hx hb d_Model_root_38 rfl hl (by decide) rfl (fun ls hl => ?_)
      refine lv_goto (tgt := 46) hx hb d_Model_root_39 (by decide) ?_
      refine lv_goto (tgt := 7) hx hb d_Model_root_46 (by decide) ?_
      have e1 : lN (km_ro p cb k + 2 ^ (35 - k)) = lN (km_ro p cb (k + 1)) := by rw [km_ro_1 h1]
      have e2 : lN (km_ro p cb k + 2 ^ (36 - k)) = lN (km_ro p cb (k + 1) + 2 ^ (36 - (k + 1))) := by rw [km_ro_1 h1, kl_hi (by omega)]
      rw [e2, e1] at hl
      exact ih7 _ (by omega) _ _ _ ⟨k + 1, rfl, lv_sub hl [2, 0, 3, 4] rfl, hP, hD, hS, by omega⟩
set_option maxHeartbeats 4000000 in
set_option maxRecDepth 100000 in
theorem c_lay (l : Launch) (G : va_G) (cI cB : ClassId) (tK tH sz : Nat) (r : Nat → Nat) (zs gs st tn wa dn : Int32) (g : Nat → Int32) (n : Nat) (b : Int32) (hn : n < 320) : xMv l G cI cB tK tH y_Model_lay b_Model_lay 2 none ({ frames := 0, cells := 0, slots := 0, locals := 0 }) [.ref (r 0), .int b] sz [(r 0, .inr (3, [.ref (r 1), .ref (r 2), .ref (r 3), .int zs, .ref (r 4), .int gs, .int st, .int tn, .int wa, .int dn, .ref (r 5), .ref (r 6), .ref (r 7), .int (nI n), .ref (r 8), .ref (r 9), .ref (r 10), .ref (r 11), .ref (r 12)])), (r 7, .inl (cB, 320, .inl g))] (fun u => (∀ j, j < n → u j = g j) ∧ u n &&& 255 = b &&& 255) (fun u : Nat → Int32 => [(r 0, .inr (3, [.ref (r 1), .ref (r 2), .ref (r 3), .int zs, .ref (r 4), .int gs, .int st, .int tn, .int wa, .int dn, .ref (r 5), .ref (r 6), .ref (r 7), .int (nI (n + 1)), .ref (r 8), .ref (r 9), .ref (r 10), .ref (r 11), .ref (r 12)])), (r 7, .inl (cB, 320, .inl u))]) := by
  refine xMv.of (lv := [(0, .ref (r 0)), (1, .int b)]) (by decide) (Nat.le_of_ble_eq_true rfl) rfl ?_
  intro pp ee ss mm bel met cod A ls H locs hx hb hml hr hlk hts hown hnm hA hK hst hP hD hS hl
  have hown : ss.vm.findClass R_Model = some mm.cls := hown
  refine lv_aload_n hx hb d_Model_lay_0 rfl (lv_at hl 0 rfl) ?_
  refine va_get (D := G) (ci := 3) (v := .ref (r 7)) (C := R_Model) (T := F_Model) (N := 19) hx hb hts hi_Model hown hK hP 0 rfl rfl 12 (by decide) (hts _ tw_311) (fun _ h9 => h9) rfl d_Model_lay_1 ?_
  refine lv_aload_n hx hb d_Model_lay_4 rfl (lv_at hl 0 rfl) ?_
  refine va_get (D := G) (ci := 3) (v := .int (nI n)) (C := R_Model) (T := F_Model) (N := 19) hx hb hts hi_Model hown hK hP 0 rfl rfl 13 (by decide) (hts _ tw_312) (fun _ h9 => h9) rfl d_Model_lay_5 ?_
  refine lv_iload_n hx hb d_Model_lay_8 rfl (lv_at hl 1 rfl) ?_
  refine lv_i2b (v := b.toInt8.toInt32) hx hb d_Model_lay_9 rfl ?_
  refine xa_bast (k := n) (f := g) (x := b.toInt8.toInt32) hx hb hK hP hD hS 1 1 rfl rfl (by omega) (by omega) d_Model_lay_10 (fun H locs hP hD hS => ?_)
  have hP : va_P G classes [(r 0, .inr (3, [.ref (r 1), .ref (r 2), .ref (r 3), .int zs, .ref (r 4), .int gs, .int st, .int tn, .int wa, .int dn, .ref (r 5), .ref (r 6), .ref (r 7), .int (nI n), .ref (r 8), .ref (r 9), .ref (r 10), .ref (r 11), .ref (r 12)])), (r 7, .inl (cB, 320, .inl (upd g n b.toInt8.toInt32.toInt8.toInt32)))] H := hP
  have hD : va_D A [(r 0, .inr (3, [.ref (r 1), .ref (r 2), .ref (r 3), .int zs, .ref (r 4), .int gs, .int st, .int tn, .int wa, .int dn, .ref (r 5), .ref (r 6), .ref (r 7), .int (nI n), .ref (r 8), .ref (r 9), .ref (r 10), .ref (r 11), .ref (r 12)])), (r 7, .inl (cB, 320, .inl (upd g n b.toInt8.toInt32.toInt8.toInt32)))] := hD
  refine lv_aload_n hx hb d_Model_lay_11 rfl (lv_at hl 0 rfl) ?_
  refine lv_dup hx hb d_Model_lay_12 rfl ?_
  refine va_get (D := G) (ci := 3) (v := .int (nI n)) (C := R_Model) (T := F_Model) (N := 19) hx hb hts hi_Model hown hK hP 0 rfl rfl 13 (by decide) (hts _ tw_312) (fun _ h9 => h9) rfl d_Model_lay_13 ?_
  refine lv_iconst (v := 1) hx hb d_Model_lay_16 (by decide) ?_
  refine lv_iadd hx hb d_Model_lay_17 ?_
  refine lv_topi (fun y1 ey1 => ?_)
  obtain rfl : y1 = nI (n + 1) := ey1.trans (nI_add n 1)
  refine va_put (D := G) (ci := 3) (v := .int (nI (n + 1))) (ty := .int) (C := R_Model) (T := F_Model) (N := 19) hx hb hts hi_Model t_Model t_Model_ok n_Model hown hK hP hD hS 0 rfl rfl 13 (by decide) (hts _ tw_312) (fun _ h9 => h9) rfl (by decide +kernel) rfl rfl (Nat.le_of_ble_eq_true rfl) d_Model_lay_18 (fun H locs hP hD hS => ?_)
  have hP : va_P G classes [(r 0, .inr (3, [.ref (r 1), .ref (r 2), .ref (r 3), .int zs, .ref (r 4), .int gs, .int st, .int tn, .int wa, .int dn, .ref (r 5), .ref (r 6), .ref (r 7), .int (nI (n + 1)), .ref (r 8), .ref (r 9), .ref (r 10), .ref (r 11), .ref (r 12)])), (r 7, .inl (cB, 320, .inl (upd g n b.toInt8.toInt32.toInt8.toInt32)))] H := hP
  have hD : va_D A [(r 0, .inr (3, [.ref (r 1), .ref (r 2), .ref (r 3), .int zs, .ref (r 4), .int gs, .int st, .int tn, .int wa, .int dn, .ref (r 5), .ref (r 6), .ref (r 7), .int (nI (n + 1)), .ref (r 8), .ref (r 9), .ref (r 10), .ref (r 11), .ref (r 12)])), (r 7, .inl (cB, 320, .inl (upd g n b.toInt8.toInt32.toInt8.toInt32)))] := hD
  exact xe_v (upd g n b.toInt8.toInt32.toInt8.toInt32) hx hb hr hlk hK (⟨fun j hj => pk_un (by omega), by rw [pk_us, bp_b2]⟩) hP hD hS d_Model_lay_21 (by decide) (by decide)
set_option maxHeartbeats 4000000 in
set_option maxRecDepth 100000 in
theorem c_mix (l : Launch) (G : va_G) (cI cB : ClassId) (tK tH sz : Nat) (r : Nat → Nat) (zs gs st tn wa dn : Int32) (rs : Int32) (g m nw w : Nat → Int32) (q : Nat) (hq : 64 * q + 64 ≤ 320) (hg : ∀ j, j < 64 * q + 64 → g j &&& 255 = m j) : xMv l G cI cB tK tH y_Model_mix b_Model_mix 8 none ({ frames := 1, cells := 0, slots := 0, locals := 21 }) [.ref (r 0), .int (nI (64 * q))] sz [(r 0, .inr (3, [.ref (r 1), .ref (r 2), .ref (r 3), .int zs, .ref (r 4), .int gs, .int st, .int tn, .int wa, .int dn, .ref (r 5), .ref (r 6), .ref (r 7), .int rs, .ref (r 8), .ref (r 9), .ref (r 10), .ref (r 11), .ref (r 12)])), (r 1, .inl (cI, 64, .inl kK)), (r 7, .inl (cB, 320, .inl g)), (r 9, .inl (cI, 8, .inl (km_h m q))), (r 10, .inl (cI, 8, .inl nw)), (r 11, .inl (cI, 64, .inl w))] (fun _ => True) (fun u : (Nat → Int32) × (Nat → Int32) => [(r 0, .inr (3, [.ref (r 1), .ref (r 2), .ref (r 3), .int zs, .ref (r 4), .int gs, .int st, .int tn, .int wa, .int dn, .ref (r 5), .ref (r 6), .ref (r 7), .int rs, .ref (r 8), .ref (r 9), .ref (r 10), .ref (r 11), .ref (r 12)])), (r 1, .inl (cI, 64, .inl kK)), (r 7, .inl (cB, 320, .inl g)), (r 9, .inl (cI, 8, .inl (km_h m (q + 1)))), (r 10, .inl (cI, 8, .inl u.1)), (r 11, .inl (cI, 64, .inl u.2))]) := by
  refine xMv.of (lv := [(0, .ref (r 0)), (1, .int (nI (64 * q)))]) (by decide) (Nat.le_of_ble_eq_true rfl) rfl ?_
  intro pp ee ss mm bel met cod A ls H locs hx hb hml hr hlk hts hown hnm hA hK hst hP hD hS hl
  have hown : ss.vm.findClass R_Model = some mm.cls := hown
  refine lv_iconst (v := 0) hx hb d_Model_mix_0 (by decide) ?_
  refine lv_istore_n (lv' := [(2, .int 0), (0, .ref (r 0)), (1, .int (nI (64 * q)))]) hx hb d_Model_mix_1 rfl hl (by decide) rfl (fun ls hl => ?_)
  refine xl (pc := 2) (I := fun NN ls H locs => ∃ (t : Nat) (v : Nat → Int32), 64 - t = NN ∧ lv_has ls 8 [(2, .int (nI t)), (0, .ref (r 0)), (1, .int (nI (64 * q)))] ∧ va_P G classes [(r 0, .inr (3, [.ref (r 1), .ref (r 2), .ref (r 3), .int zs, .ref (r 4), .int gs, .int st, .int tn, .int wa, .int dn, .ref (r 5), .ref (r 6), .ref (r 7), .int rs, .ref (r 8), .ref (r 9), .ref (r 10), .ref (r 11), .ref (r 12)])), (r 1, .inl (cI, 64, .inl kK)), (r 7, .inl (cB, 320, .inl g)), (r 9, .inl (cI, 8, .inl (km_h m q))), (r 10, .inl (cI, 8, .inl nw)), (r 11, .inl (cI, 64, .inl v))] H ∧ va_D A [(r 0, .inr (3, [.ref (r 1), .ref (r 2), .ref (r 3), .int zs, .ref (r 4), .int gs, .int st, .int tn, .int wa, .int dn, .ref (r 5), .ref (r 6), .ref (r 7), .int rs, .ref (r 8), .ref (r 9), .ref (r 10), .ref (r 11), .ref (r 12)])), (r 1, .inl (cI, 64, .inl kK)), (r 7, .inl (cB, 320, .inl g)), (r 9, .inl (cI, 8, .inl (km_h m q))), (r 10, .inl (cI, 8, .inl nw)), (r 11, .inl (cI, 64, .inl v))] ∧ va_S A ss.heap H locs ∧ (t ≤ 64) ∧ (∀ j, j < t → v j = km_W (km_b m q) j)) [] ?_ _ _ _ _ ⟨0, w, rfl, lv_sub hl [0, 1, 2] rfl, hP, hD, hS, by omega, fun j hj => by omega⟩
  intro NN ih2 ls H locs hI
  obtain ⟨t, v, hN, hl, hP, hD, hS, ht, hv⟩ := hI
  refine lv_iload_n hx hb d_Model_mix_2 rfl (lv_at hl 0 rfl) ?_
  refine lv_bipush (v := 64) hx hb d_Model_mix_3 (by decide) ?_
  refine lv_icmp_ge (tgt := 161) hx hb d_Model_mix_5 (by decide) (fun hc1 => ?_) (fun hc1 => ?_)
  · have hc1 : 64 ≤ t := (nI_leI (a := 64) (b := t) (by omega) (by omega)).mp hc1
    refine lv_iconst (v := 0) hx hb d_Model_mix_161 (by decide) ?_
    refine lv_istore_n (lv' := [(2, .int 0), (0, .ref (r 0)), (1, .int (nI (64 * q)))]) hx hb d_Model_mix_162 rfl hl (by decide) rfl (fun ls hl => ?_)
    refine xl (pc := 163) (I := fun NN ls H locs => ∃ (i : Nat) (f9 : Nat → Int32), 8 - i = NN ∧ lv_has ls 8 [(2, .int (nI i)), (0, .ref (r 0)), (1, .int (nI (64 * q)))] ∧ va_P G classes [(r 0, .inr (3, [.ref (r 1), .ref (r 2), .ref (r 3), .int zs, .ref (r 4), .int gs, .int st, .int tn, .int wa, .int dn, .ref (r 5), .ref (r 6), .ref (r 7), .int rs, .ref (r 8), .ref (r 9), .ref (r 10), .ref (r 11), .ref (r 12)])), (r 1, .inl (cI, 64, .inl kK)), (r 7, .inl (cB, 320, .inl g)), (r 9, .inl (cI, 8, .inl (km_h m q))), (r 10, .inl (cI, 8, .inl f9)), (r 11, .inl (cI, 64, .inl v))] H ∧ va_D A [(r 0, .inr (3, [.ref (r 1), .ref (r 2), .ref (r 3), .int zs, .ref (r 4), .int gs, .int st, .int tn, .int wa, .int dn, .ref (r 5), .ref (r 6), .ref (r 7), .int rs, .ref (r 8), .ref (r 9), .ref (r 10), .ref (r 11), .ref (r 12)])), (r 1, .inl (cI, 64, .inl kK)), (r 7, .inl (cB, 320, .inl g)), (r 9, .inl (cI, 8, .inl (km_h m q))), (r 10, .inl (cI, 8, .inl f9)), (r 11, .inl (cI, 64, .inl v))] ∧ va_S A ss.heap H locs ∧ (i ≤ 8) ∧ (∀ j, j < i → f9 j = km_h m q j)) [] ?_ _ _ _ _ ⟨0, nw, rfl, lv_sub hl [0, 1, 2] rfl, hP, hD, hS, by omega, fun j hj => by omega⟩
    intro NN ih163 ls H locs hI
    obtain ⟨i, f9, hN, hl, hP, hD, hS, hi, hf9⟩ := hI
    refine lv_iload_n hx hb d_Model_mix_163 rfl (lv_at hl 0 rfl) ?_
    refine lv_bipush (v := 8) hx hb d_Model_mix_164 (by decide) ?_
    refine lv_icmp_ge (tgt := 187) hx hb d_Model_mix_166 (by decide) (fun hc2 => ?_) (fun hc2 => ?_)
    · have hc2 : 8 ≤ i := (nI_leI (a := 8) (b := i) (by omega) (by omega)).mp hc2
      have hP := xp_fun hP 4 (km_r v (km_h m q) 0) rfl (fun j hj => hf9 j (by omega))
      have hD := hD.set (p := 4) (e := .inl (cI, 8, .inl (km_r v (km_h m q) 0))) rfl
      have hP : va_P G classes [(r 0, .inr (3, [.ref (r 1), .ref (r 2), .ref (r 3), .int zs, .ref (r 4), .int gs, .int st, .int tn, .int wa, .int dn, .ref (r 5), .ref (r 6), .ref (r 7), .int rs, .ref (r 8), .ref (r 9), .ref (r 10), .ref (r 11), .ref (r 12)])), (r 1, .inl (cI, 64, .inl kK)), (r 7, .inl (cB, 320, .inl g)), (r 9, .inl (cI, 8, .inl (km_h m q))), (r 10, .inl (cI, 8, .inl (km_r v (km_h m q) 0))), (r 11, .inl (cI, 64, .inl v))] H := hP
      have hD : va_D A [(r 0, .inr (3, [.ref (r 1), .ref (r 2), .ref (r 3), .int zs, .ref (r 4), .int gs, .int st, .int tn, .int wa, .int dn, .ref (r 5), .ref (r 6), .ref (r 7), .int rs, .ref (r 8), .ref (r 9), .ref (r 10), .ref (r 11), .ref (r 12)])), (r 1, .inl (cI, 64, .inl kK)), (r 7, .inl (cB, 320, .inl g)), (r 9, .inl (cI, 8, .inl (km_h m q))), (r 10, .inl (cI, 8, .inl (km_r v (km_h m q) 0))), (r 11, .inl (cI, 64, .inl v))] := hD
      refine lv_iconst (v := 0) hx hb d_Model_mix_187 (by decide) ?_
      refine lv_istore_n (lv' := [(2, .int 0), (0, .ref (r 0)), (1, .int (nI (64 * q)))]) hx hb d_Model_mix_188 rfl hl (by decide) rfl (fun ls hl => ?_)
      refine xl (pc := 189) (I := fun NN ls H locs => ∃ (t9 : Nat), 64 - t9 = NN ∧ lv_has ls 8 [(2, .int (nI t9)), (0, .ref (r 0)), (1, .int (nI (64 * q)))] ∧ va_P G classes [(r 0, .inr (3, [.ref (r 1), .ref (r 2), .ref (r 3), .int zs, .ref (r 4), .int gs, .int st, .int tn, .int wa, .int dn, .ref (r 5), .ref (r 6), .ref (r 7), .int rs, .ref (r 8), .ref (r 9), .ref (r 10), .ref (r 11), .ref (r 12)])), (r 1, .inl (cI, 64, .inl kK)), (r 7, .inl (cB, 320, .inl g)), (r 9, .inl (cI, 8, .inl (km_h m q))), (r 10, .inl (cI, 8, .inl (km_r v (km_h m q) t9))), (r 11, .inl (cI, 64, .inl v))] H ∧ va_D A [(r 0, .inr (3, [.ref (r 1), .ref (r 2), .ref (r 3), .int zs, .ref (r 4), .int gs, .int st, .int tn, .int wa, .int dn, .ref (r 5), .ref (r 6), .ref (r 7), .int rs, .ref (r 8), .ref (r 9), .ref (r 10), .ref (r 11), .ref (r 12)])), (r 1, .inl (cI, 64, .inl kK)), (r 7, .inl (cB, 320, .inl g)), (r 9, .inl (cI, 8, .inl (km_h m q))), (r 10, .inl (cI, 8, .inl (km_r v (km_h m q) t9))), (r 11, .inl (cI, 64, .inl v))] ∧ va_S A ss.heap H locs ∧ (t9 ≤ 64)) [] ?_ _ _ _ _ ⟨0, rfl, lv_sub hl [0, 1, 2] rfl, hP, hD, hS, by omega⟩
      intro NN ih189 ls H locs hI
      obtain ⟨t9, hN, hl, hP, hD, hS, ht9⟩ := hI
      refine lv_iload_n hx hb d_Model_mix_189 rfl (lv_at hl 0 rfl) ?_
      refine lv_bipush (v := 64) hx hb d_Model_mix_190 (by decide) ?_
      refine lv_icmp_ge (tgt := 396) hx hb d_Model_mix_192 (by decide) (fun hc3 => ?_) (fun hc3 => ?_)
      · have hc3 : 64 ≤ t9 := (nI_leI (a := 64) (b := t9) (by omega) (by omega)).mp hc3
        refine lv_iconst (v := 0) hx hb d_Model_mix_396 (by decide) ?_
        refine lv_istore_n (lv' := [(2, .int 0), (0, .ref (r 0)), (1, .int (nI (64 * q)))]) hx hb d_Model_mix_397 rfl hl (by decide) rfl (fun ls hl => ?_)
        refine xl (pc := 398) (I := fun NN ls H locs => ∃ (i : Nat) (f9 : Nat → Int32), 8 - i = NN ∧ lv_has ls 8 [(2, .int (nI i)), (0, .ref (r 0)), (1, .int (nI (64 * q)))] ∧ va_P G classes [(r 0, .inr (3, [.ref (r 1), .ref (r 2), .ref (r 3), .int zs, .ref (r 4), .int gs, .int st, .int tn, .int wa, .int dn, .ref (r 5), .ref (r 6), .ref (r 7), .int rs, .ref (r 8), .ref (r 9), .ref (r 10), .ref (r 11), .ref (r 12)])), (r 1, .inl (cI, 64, .inl kK)), (r 7, .inl (cB, 320, .inl g)), (r 9, .inl (cI, 8, .inl f9)), (r 10, .inl (cI, 8, .inl (km_r v (km_h m q) t9))), (r 11, .inl (cI, 64, .inl v))] H ∧ va_D A [(r 0, .inr (3, [.ref (r 1), .ref (r 2), .ref (r 3), .int zs, .ref (r 4), .int gs, .int st, .int tn, .int wa, .int dn, .ref (r 5), .ref (r 6), .ref (r 7), .int rs, .ref (r 8), .ref (r 9), .ref (r 10), .ref (r 11), .ref (r 12)])), (r 1, .inl (cI, 64, .inl kK)), (r 7, .inl (cB, 320, .inl g)), (r 9, .inl (cI, 8, .inl f9)), (r 10, .inl (cI, 8, .inl (km_r v (km_h m q) t9))), (r 11, .inl (cI, 64, .inl v))] ∧ va_S A ss.heap H locs ∧ (i ≤ 8) ∧ (∀ j, j < i → f9 j = km_h m q j + km_r v (km_h m q) t9 j) ∧ (∀ j, i ≤ j → f9 j = km_h m q j)) [] ?_ _ _ _ _ ⟨0, km_h m q, rfl, lv_sub hl [0, 1, 2] rfl, hP, hD, hS, by omega, fun j hj => by omega, fun j _ => rfl⟩
        intro NN ih398 ls H locs hI
        obtain ⟨i, f9, hN, hl, hP, hD, hS, hi, hf9, hf8⟩ := hI
        refine lv_iload_n hx hb d_Model_mix_398 rfl (lv_at hl 0 rfl) ?_
        refine lv_bipush (v := 8) hx hb d_Model_mix_399 (by decide) ?_
        refine lv_icmp_ge (tgt := 429) hx hb d_Model_mix_401 (by decide) (fun hc4 => ?_) (fun hc4 => ?_)
        · have hc4 : 8 ≤ i := (nI_leI (a := 8) (b := i) (by omega) (by omega)).mp hc4
          obtain rfl : t9 = 64 := by omega
          have hP := xp_fun hP 3 (km_h m (q + 1)) rfl (km_h_next (fun j hj => hv j (by omega)) (fun j hj => hf9 j (by omega)))
          have hD := hD.set (p := 3) (e := .inl (cI, 8, .inl (km_h m (q + 1)))) rfl
          have hP : va_P G classes [(r 0, .inr (3, [.ref (r 1), .ref (r 2), .ref (r 3), .int zs, .ref (r 4), .int gs, .int st, .int tn, .int wa, .int dn, .ref (r 5), .ref (r 6), .ref (r 7), .int rs, .ref (r 8), .ref (r 9), .ref (r 10), .ref (r 11), .ref (r 12)])), (r 1, .inl (cI, 64, .inl kK)), (r 7, .inl (cB, 320, .inl g)), (r 9, .inl (cI, 8, .inl (km_h m (q + 1)))), (r 10, .inl (cI, 8, .inl (km_r v (km_h m q) 64))), (r 11, .inl (cI, 64, .inl v))] H := hP
          have hD : va_D A [(r 0, .inr (3, [.ref (r 1), .ref (r 2), .ref (r 3), .int zs, .ref (r 4), .int gs, .int st, .int tn, .int wa, .int dn, .ref (r 5), .ref (r 6), .ref (r 7), .int rs, .ref (r 8), .ref (r 9), .ref (r 10), .ref (r 11), .ref (r 12)])), (r 1, .inl (cI, 64, .inl kK)), (r 7, .inl (cB, 320, .inl g)), (r 9, .inl (cI, 8, .inl (km_h m (q + 1)))), (r 10, .inl (cI, 8, .inl (km_r v (km_h m q) 64))), (r 11, .inl (cI, 64, .inl v))] := hD
          exact xe_v (km_r v (km_h m q) 64, v) hx hb hr hlk hK (trivial) hP hD hS d_Model_mix_429 (by decide) (by decide)
        · have hc4 : ¬ 8 ≤ i := fun z => hc4 ((nI_leI (a := 8) (b := i) (by omega) (by omega)).mpr z)
          refine lv_aload_n hx hb d_Model_mix_404 rfl (lv_at hl 1 rfl) ?_
          refine va_get (D := G) (ci := 3) (v := .ref (r 9)) (C := R_Model) (T := F_Model) (N := 19) hx hb hts hi_Model hown hK hP 0 rfl rfl 15 (by decide) (hts _ tw_314) (fun _ h9 => h9) rfl d_Model_mix_405 ?_
          refine lv_iload_n hx hb d_Model_mix_408 rfl (lv_at hl 0 rfl) ?_
          refine lv_aload_n hx hb d_Model_mix_409 rfl (lv_at hl 1 rfl) ?_
          refine va_get (D := G) (ci := 3) (v := .ref (r 9)) (C := R_Model) (T := F_Model) (N := 19) hx hb hts hi_Model hown hK hP 0 rfl rfl 15 (by decide) (hts _ tw_314) (fun _ h9 => h9) rfl d_Model_mix_410 ?_
          refine lv_iload_n hx hb d_Model_mix_413 rfl (lv_at hl 0 rfl) ?_
          refine xa_iald (k := i) (f := f9) hx hb hK hP 3 0 rfl rfl (by omega) (by omega) d_Model_mix_414 ?_
          refine lv_aload_n hx hb d_Model_mix_415 rfl (lv_at hl 1 rfl) ?_
          refine va_get (D := G) (ci := 3) (v := .ref (r 10)) (C := R_Model) (T := F_Model) (N := 19) hx hb hts hi_Model hown hK hP 0 rfl rfl 16 (by decide) (hts _ tw_315) (fun _ h9 => h9) rfl d_Model_mix_416 ?_
          refine lv_iload_n hx hb d_Model_mix_419 rfl (lv_at hl 0 rfl) ?_
          refine xa_iald (k := i) (f := km_r v (km_h m q) t9) hx hb hK hP 4 0 rfl rfl (by omega) (by omega) d_Model_mix_420 ?_
          refine lv_iadd hx hb d_Model_mix_421 ?_
          refine xa_iast (k := i) (f := f9) (x := (f9 i) + ((km_r v (km_h m q) t9) i)) hx hb hK hP hD hS 3 0 rfl rfl (by omega) (by omega) d_Model_mix_422 (fun H locs hP hD hS => ?_)
          have hP : va_P G classes [(r 0, .inr (3, [.ref (r 1), .ref (r 2), .ref (r 3), .int zs, .ref (r 4), .int gs, .int st, .int tn, .int wa, .int dn, .ref (r 5), .ref (r 6), .ref (r 7), .int rs, .ref (r 8), .ref (r 9), .ref (r 10), .ref (r 11), .ref (r 12)])), (r 1, .inl (cI, 64, .inl kK)), (r 7, .inl (cB, 320, .inl g)), (r 9, .inl (cI, 8, .inl (upd f9 i ((f9 i) + ((km_r v (km_h m q) t9) i))))), (r 10, .inl (cI, 8, .inl (km_r v (km_h m q) t9))), (r 11, .inl (cI, 64, .inl v))] H := hP
          have hD : va_D A [(r 0, .inr (3, [.ref (r 1), .ref (r 2), .ref (r 3), .int zs, .ref (r 4), .int gs, .int st, .int tn, .int wa, .int dn, .ref (r 5), .ref (r 6), .ref (r 7), .int rs, .ref (r 8), .ref (r 9), .ref (r 10), .ref (r 11), .ref (r 12)])), (r 1, .inl (cI, 64, .inl kK)), (r 7, .inl (cB, 320, .inl g)), (r 9, .inl (cI, 8, .inl (upd f9 i ((f9 i) + ((km_r v (km_h m q) t9) i))))), (r 10, .inl (cI, 8, .inl (km_r v (km_h m q) t9))), (r 11, .inl (cI, 64, .inl v))] := hD
          refine lv_iinc (k := 0) (v := nI (i + 1)) (lv' := [(2, .int (nI (i + 1))), (0, .ref (r 0)), (1, .int (nI (64 * q)))]) hx hb d_Model_mix_423 hl rfl (nI_1 i) (by decide) rfl (fun ls hl => ?_)
          refine lv_goto (tgt := 398) hx hb d_Model_mix_426 (by decide) ?_
          exact ih398 _ (by omega) _ _ _ ⟨i + 1, _, rfl, lv_sub hl [0, 1, 2] rfl, hP, hD, hS, by omega, fun j hj => by
                by_cases e : j = i
                · subst e; rw [pk_us, hf8 j (by omega)]
                · rw [pk_un e]; exact hf9 j (by omega), fun j hj => by rw [pk_un (by omega)]; exact hf8 j (by omega)⟩
      · have hc3 : ¬ 64 ≤ t9 := fun z => hc3 ((nI_leI (a := 64) (b := t9) (by omega) (by omega)).mpr z)
        refine lv_aload_n hx hb d_Model_mix_195 rfl (lv_at hl 1 rfl) ?_
        refine va_get (D := G) (ci := 3) (v := .ref (r 10)) (C := R_Model) (T := F_Model) (N := 19) hx hb hts hi_Model hown hK hP 0 rfl rfl 16 (by decide) (hts _ tw_315) (fun _ h9 => h9) rfl d_Model_mix_196 ?_
        refine lv_iconst (v := 4) hx hb d_Model_mix_199 (by decide) ?_
        refine xa_iald (k := 4) (f := km_r v (km_h m q) t9) hx hb hK hP 4 0 rfl rfl (by omega) (by omega) d_Model_mix_200 ?_
        refine lv_istore_n (lv' := [(3, .int ((km_r v (km_h m q) t9) 4)), (2, .int (nI t9)), (0, .ref (r 0)), (1, .int (nI (64 * q)))]) hx hb d_Model_mix_201 rfl hl (by decide) rfl (fun ls hl => ?_)
        refine lv_aload_n hx hb d_Model_mix_202 rfl (lv_at hl 2 rfl) ?_
        refine va_get (D := G) (ci := 3) (v := .ref (r 10)) (C := R_Model) (T := F_Model) (N := 19) hx hb hts hi_Model hown hK hP 0 rfl rfl 16 (by decide) (hts _ tw_315) (fun _ h9 => h9) rfl d_Model_mix_203 ?_
        refine lv_iconst (v := 0) hx hb d_Model_mix_206 (by decide) ?_
        refine xa_iald (k := 0) (f := km_r v (km_h m q) t9) hx hb hK hP 4 0 rfl rfl (by omega) (by omega) d_Model_mix_207 ?_
        refine lv_istore (lv' := [(4, .int ((km_r v (km_h m q) t9) 0)), (3, .int ((km_r v (km_h m q) t9) 4)), (2, .int (nI t9)), (0, .ref (r 0)), (1, .int (nI (64 * q)))]) hx hb d_Model_mix_208 hl (by decide) rfl (fun ls hl => ?_)
        refine lv_aload_n hx hb d_Model_mix_210 rfl (lv_at hl 3 rfl) ?_
        refine va_get (D := G) (ci := 3) (v := .ref (r 10)) (C := R_Model) (T := F_Model) (N := 19) hx hb hts hi_Model hown hK hP 0 rfl rfl 16 (by decide) (hts _ tw_315) (fun _ h9 => h9) rfl d_Model_mix_211 ?_
        refine lv_bipush (v := 7) hx hb d_Model_mix_214 (by decide) ?_
        refine xa_iald (k := 7) (f := km_r v (km_h m q) t9) hx hb hK hP 4 0 rfl rfl (by omega) (by omega) d_Model_mix_216 ?_
        refine lv_iload_n hx hb d_Model_mix_217 rfl (lv_at hl 1 rfl) ?_
        refine lv_bipush (v := 6) hx hb d_Model_mix_218 (by decide) ?_
        refine xc_i (wr := [(r 0, .inr (3, [.ref (r 1), .ref (r 2), .ref (r 3), .int zs, .ref (r 4), .int gs, .int st, .int tn, .int wa, .int dn, .ref (r 5), .ref (r 6), .ref (r 7), .int rs, .ref (r 8), .ref (r 9), .ref (r 10), .ref (r 11), .ref (r 12)])), (r 1, .inl (cI, 64, .inl kK)), (r 7, .inl (cB, 320, .inl g)), (r 9, .inl (cI, 8, .inl (km_h m q))), (r 10, .inl (cI, 8, .inl (km_r v (km_h m q) t9))), (r 11, .inl (cI, 64, .inl v))]) (va_runS (As := [.int ((km_r v (km_h m q) t9) 4), .int 6]) (rest := [.int ((km_r v (km_h m q) t9) 7)]) ⟨hx, hb, hml, hown, hts⟩ (c_rot l G cI cB tK tH H.size (km_r v (km_h m q) t9 4) 6 (by decide)) (va_cwS 2 hts (xg_S tw_415 tw_416 tw_20 tw_417) rfl rfl rfl (by decide +kernel) ⟨Nat.le_of_ble_eq_true rfl, Nat.le_of_ble_eq_true rfl⟩) (xc_pre hK hst hA hP hD hS [] (by decide) rfl [.int ((km_r v (km_h m q) t9) 4), .int 6]) rfl rfl hl.1 rfl (lv_room (Nat.le_of_ble_eq_true rfl)) d_Model_mix_220 ⟨Nat.le_of_ble_eq_true rfl, Nat.le_of_ble_eq_true rfl⟩) hA hP hD hS [] [0, 1, 2, 3, 4, 5] rfl rfl (by decide) (by decide) (fun r6 u5 H locs hp hP hD hS => ?_)
        have hP : va_P G classes [(r 0, .inr (3, [.ref (r 1), .ref (r 2), .ref (r 3), .int zs, .ref (r 4), .int gs, .int st, .int tn, .int wa, .int dn, .ref (r 5), .ref (r 6), .ref (r 7), .int rs, .ref (r 8), .ref (r 9), .ref (r 10), .ref (r 11), .ref (r 12)])), (r 1, .inl (cI, 64, .inl kK)), (r 7, .inl (cB, 320, .inl g)), (r 9, .inl (cI, 8, .inl (km_h m q))), (r 10, .inl (cI, 8, .inl (km_r v (km_h m q) t9))), (r 11, .inl (cI, 64, .inl v))] H := hP
        have hD : va_D A [(r 0, .inr (3, [.ref (r 1), .ref (r 2), .ref (r 3), .int zs, .ref (r 4), .int gs, .int st, .int tn, .int wa, .int dn, .ref (r 5), .ref (r 6), .ref (r 7), .int rs, .ref (r 8), .ref (r 9), .ref (r 10), .ref (r 11), .ref (r 12)])), (r 1, .inl (cI, 64, .inl kK)), (r 7, .inl (cB, 320, .inl g)), (r 9, .inl (cI, 8, .inl (km_h m q))), (r 10, .inl (cI, 8, .inl (km_r v (km_h m q) t9))), (r 11, .inl (cI, 64, .inl v))] := hD
        obtain rfl : r6 = xr (km_r v (km_h m q) t9 4) 6 := hp
        refine lv_iload_n hx hb d_Model_mix_223 rfl (lv_at hl 1 rfl) ?_
        refine lv_bipush (v := 11) hx hb d_Model_mix_224 (by decide) ?_
        refine xc_i (wr := [(r 0, .inr (3, [.ref (r 1), .ref (r 2), .ref (r 3), .int zs, .ref (r 4), .int gs, .int st, .int tn, .int wa, .int dn, .ref (r 5), .ref (r 6), .ref (r 7), .int rs, .ref (r 8), .ref (r 9), .ref (r 10), .ref (r 11), .ref (r 12)])), (r 1, .inl (cI, 64, .inl kK)), (r 7, .inl (cB, 320, .inl g)), (r 9, .inl (cI, 8, .inl (km_h m q))), (r 10, .inl (cI, 8, .inl (km_r v (km_h m q) t9))), (r 11, .inl (cI, 64, .inl v))]) (va_runS (As := [.int ((km_r v (km_h m q) t9) 4), .int 11]) (rest := [.int (xr (km_r v (km_h m q) t9 4) 6), .int ((km_r v (km_h m q) t9) 7)]) ⟨hx, hb, hml, hown, hts⟩ (c_rot l G cI cB tK tH H.size (km_r v (km_h m q) t9 4) 11 (by decide)) (va_cwS 2 hts (xg_S tw_415 tw_416 tw_20 tw_417) rfl rfl rfl (by decide +kernel) ⟨Nat.le_of_ble_eq_true rfl, Nat.le_of_ble_eq_true rfl⟩) (xc_pre hK hst hA hP hD hS [] (by decide) rfl [.int ((km_r v (km_h m q) t9) 4), .int 11]) rfl rfl hl.1 rfl (lv_room (Nat.le_of_ble_eq_true rfl)) d_Model_mix_226 ⟨Nat.le_of_ble_eq_true rfl, Nat.le_of_ble_eq_true rfl⟩) hA hP hD hS [] [0, 1, 2, 3, 4, 5] rfl rfl (by decide) (by decide) (fun r8 u7 H locs hp hP hD hS => ?_)
        have hP : va_P G classes [(r 0, .inr (3, [.ref (r 1), .ref (r 2), .ref (r 3), .int zs, .ref (r 4), .int gs, .int st, .int tn, .int wa, .int dn, .ref (r 5), .ref (r 6), .ref (r 7), .int rs, .ref (r 8), .ref (r 9), .ref (r 10), .ref (r 11), .ref (r 12)])), (r 1, .inl (cI, 64, .inl kK)), (r 7, .inl (cB, 320, .inl g)), (r 9, .inl (cI, 8, .inl (km_h m q))), (r 10, .inl (cI, 8, .inl (km_r v (km_h m q) t9))), (r 11, .inl (cI, 64, .inl v))] H := hP
        have hD : va_D A [(r 0, .inr (3, [.ref (r 1), .ref (r 2), .ref (r 3), .int zs, .ref (r 4), .int gs, .int st, .int tn, .int wa, .int dn, .ref (r 5), .ref (r 6), .ref (r 7), .int rs, .ref (r 8), .ref (r 9), .ref (r 10), .ref (r 11), .ref (r 12)])), (r 1, .inl (cI, 64, .inl kK)), (r 7, .inl (cB, 320, .inl g)), (r 9, .inl (cI, 8, .inl (km_h m q))), (r 10, .inl (cI, 8, .inl (km_r v (km_h m q) t9))), (r 11, .inl (cI, 64, .inl v))] := hD
        obtain rfl : r8 = xr (km_r v (km_h m q) t9 4) 11 := hp
        refine lv_ixor hx hb d_Model_mix_229 ?_
        refine lv_iload_n hx hb d_Model_mix_230 rfl (lv_at hl 1 rfl) ?_
        refine lv_bipush (v := 25) hx hb d_Model_mix_231 (by decide) ?_
        refine xc_i (wr := [(r 0, .inr (3, [.ref (r 1), .ref (r 2), .ref (r 3), .int zs, .ref (r 4), .int gs, .int st, .int tn, .int wa, .int dn, .ref (r 5), .ref (r 6), .ref (r 7), .int rs, .ref (r 8), .ref (r 9), .ref (r 10), .ref (r 11), .ref (r 12)])), (r 1, .inl (cI, 64, .inl kK)), (r 7, .inl (cB, 320, .inl g)), (r 9, .inl (cI, 8, .inl (km_h m q))), (r 10, .inl (cI, 8, .inl (km_r v (km_h m q) t9))), (r 11, .inl (cI, 64, .inl v))]) (va_runS (As := [.int ((km_r v (km_h m q) t9) 4), .int 25]) (rest := [.int ((xr (km_r v (km_h m q) t9 4) 6) ^^^ (xr (km_r v (km_h m q) t9 4) 11)), .int ((km_r v (km_h m q) t9) 7)]) ⟨hx, hb, hml, hown, hts⟩ (c_rot l G cI cB tK tH H.size (km_r v (km_h m q) t9 4) 25 (by decide)) (va_cwS 2 hts (xg_S tw_415 tw_416 tw_20 tw_417) rfl rfl rfl (by decide +kernel) ⟨Nat.le_of_ble_eq_true rfl, Nat.le_of_ble_eq_true rfl⟩) (xc_pre hK hst hA hP hD hS [] (by decide) rfl [.int ((km_r v (km_h m q) t9) 4), .int 25]) rfl rfl hl.1 rfl (lv_room (Nat.le_of_ble_eq_true rfl)) d_Model_mix_233 ⟨Nat.le_of_ble_eq_true rfl, Nat.le_of_ble_eq_true rfl⟩) hA hP hD hS [] [0, 1, 2, 3, 4, 5] rfl rfl (by decide) (by decide) (fun r10 u9 H locs hp hP hD hS => ?_)
        have hP : va_P G classes [(r 0, .inr (3, [.ref (r 1), .ref (r 2), .ref (r 3), .int zs, .ref (r 4), .int gs, .int st, .int tn, .int wa, .int dn, .ref (r 5), .ref (r 6), .ref (r 7), .int rs, .ref (r 8), .ref (r 9), .ref (r 10), .ref (r 11), .ref (r 12)])), (r 1, .inl (cI, 64, .inl kK)), (r 7, .inl (cB, 320, .inl g)), (r 9, .inl (cI, 8, .inl (km_h m q))), (r 10, .inl (cI, 8, .inl (km_r v (km_h m q) t9))), (r 11, .inl (cI, 64, .inl v))] H := hP
        have hD : va_D A [(r 0, .inr (3, [.ref (r 1), .ref (r 2), .ref (r 3), .int zs, .ref (r 4), .int gs, .int st, .int tn, .int wa, .int dn, .ref (r 5), .ref (r 6), .ref (r 7), .int rs, .ref (r 8), .ref (r 9), .ref (r 10), .ref (r 11), .ref (r 12)])), (r 1, .inl (cI, 64, .inl kK)), (r 7, .inl (cB, 320, .inl g)), (r 9, .inl (cI, 8, .inl (km_h m q))), (r 10, .inl (cI, 8, .inl (km_r v (km_h m q) t9))), (r 11, .inl (cI, 64, .inl v))] := hD
        obtain rfl : r10 = xr (km_r v (km_h m q) t9 4) 25 := hp
        refine lv_ixor hx hb d_Model_mix_236 ?_
        refine lv_iadd hx hb d_Model_mix_237 ?_
        refine lv_iload_n hx hb d_Model_mix_238 rfl (lv_at hl 1 rfl) ?_
        refine lv_aload_n hx hb d_Model_mix_239 rfl (lv_at hl 3 rfl) ?_
        refine va_get (D := G) (ci := 3) (v := .ref (r 10)) (C := R_Model) (T := F_Model) (N := 19) hx hb hts hi_Model hown hK hP 0 rfl rfl 16 (by decide) (hts _ tw_315) (fun _ h9 => h9) rfl d_Model_mix_240 ?_
        refine lv_iconst (v := 5) hx hb d_Model_mix_243 (by decide) ?_
        refine xa_iald (k := 5) (f := km_r v (km_h m q) t9) hx hb hK hP 4 0 rfl rfl (by omega) (by omega) d_Model_mix_244 ?_
        refine lv_iand hx hb d_Model_mix_245 ?_
        refine lv_iload_n hx hb d_Model_mix_246 rfl (lv_at hl 1 rfl) ?_
        refine lv_iconst (v := (-1)) hx hb d_Model_mix_247 (by decide) ?_
        refine lv_ixor hx hb d_Model_mix_248 ?_
        refine lv_aload_n hx hb d_Model_mix_249 rfl (lv_at hl 3 rfl) ?_
        refine va_get (D := G) (ci := 3) (v := .ref (r 10)) (C := R_Model) (T := F_Model) (N := 19) hx hb hts hi_Model hown hK hP 0 rfl rfl 16 (by decide) (hts _ tw_315) (fun _ h9 => h9) rfl d_Model_mix_250 ?_
        refine lv_bipush (v := 6) hx hb d_Model_mix_253 (by decide) ?_
        refine xa_iald (k := 6) (f := km_r v (km_h m q) t9) hx hb hK hP 4 0 rfl rfl (by omega) (by omega) d_Model_mix_255 ?_
        refine lv_iand hx hb d_Model_mix_256 ?_
        refine lv_ixor hx hb d_Model_mix_257 ?_
        refine lv_iadd hx hb d_Model_mix_258 ?_
        refine lv_aload_n hx hb d_Model_mix_259 rfl (lv_at hl 3 rfl) ?_
        refine va_get (D := G) (ci := 3) (v := .ref (r 1)) (C := R_Model) (T := F_Model) (N := 19) hx hb hts hi_Model hown hK hP 0 rfl rfl 0 (by decide) (hts _ tw_299) (fun _ h9 => h9) rfl d_Model_mix_260 ?_
        refine lv_iload_n hx hb d_Model_mix_263 rfl (lv_at hl 2 rfl) ?_
        refine xa_iald (k := t9) (f := kK) hx hb hK hP 1 0 rfl rfl (by omega) (by omega) d_Model_mix_264 ?_
        refine lv_iadd hx hb d_Model_mix_265 ?_
        refine lv_aload_n hx hb d_Model_mix_266 rfl (lv_at hl 3 rfl) ?_
        refine va_get (D := G) (ci := 3) (v := .ref (r 11)) (C := R_Model) (T := F_Model) (N := 19) hx hb hts hi_Model hown hK hP 0 rfl rfl 17 (by decide) (hts _ tw_316) (fun _ h9 => h9) rfl d_Model_mix_267 ?_
        refine lv_iload_n hx hb d_Model_mix_270 rfl (lv_at hl 2 rfl) ?_
        refine xa_iald (k := t9) (f := v) hx hb hK hP 5 0 rfl rfl (by omega) (by omega) d_Model_mix_271 ?_
        refine lv_iadd hx hb d_Model_mix_272 ?_
        refine lv_topi (fun y11 ey11 => ?_)
        obtain rfl : y11 = km_u (kK t9) (v t9) (km_r v (km_h m q) t9) := ey11.trans (rfl)
        refine lv_istore (lv' := [(5, .int (km_u (kK t9) (v t9) (km_r v (km_h m q) t9))), (4, .int ((km_r v (km_h m q) t9) 0)), (3, .int ((km_r v (km_h m q) t9) 4)), (2, .int (nI t9)), (0, .ref (r 0)), (1, .int (nI (64 * q)))]) hx hb d_Model_mix_273 hl (by decide) rfl (fun ls hl => ?_)
        refine lv_iload hx hb d_Model_mix_275 (lv_at hl 1 rfl) ?_
        refine lv_iconst (v := 2) hx hb d_Model_mix_277 (by decide) ?_
        refine xc_i (wr := [(r 0, .inr (3, [.ref (r 1), .ref (r 2), .ref (r 3), .int zs, .ref (r 4), .int gs, .int st, .int tn, .int wa, .int dn, .ref (r 5), .ref (r 6), .ref (r 7), .int rs, .ref (r 8), .ref (r 9), .ref (r 10), .ref (r 11), .ref (r 12)])), (r 1, .inl (cI, 64, .inl kK)), (r 7, .inl (cB, 320, .inl g)), (r 9, .inl (cI, 8, .inl (km_h m q))), (r 10, .inl (cI, 8, .inl (km_r v (km_h m q) t9))), (r 11, .inl (cI, 64, .inl v))]) (va_runS (As := [.int ((km_r v (km_h m q) t9) 0), .int 2]) (rest := []) ⟨hx, hb, hml, hown, hts⟩ (c_rot l G cI cB tK tH H.size (km_r v (km_h m q) t9 0) 2 (by decide)) (va_cwS 2 hts (xg_S tw_415 tw_416 tw_20 tw_417) rfl rfl rfl (by decide +kernel) ⟨Nat.le_of_ble_eq_true rfl, Nat.le_of_ble_eq_true rfl⟩) (xc_pre hK hst hA hP hD hS [] (by decide) rfl [.int ((km_r v (km_h m q) t9) 0), .int 2]) rfl rfl hl.1 rfl (lv_room (Nat.le_of_ble_eq_true rfl)) d_Model_mix_278 ⟨Nat.le_of_ble_eq_true rfl, Nat.le_of_ble_eq_true rfl⟩) hA hP hD hS [] [0, 1, 2, 3, 4, 5] rfl rfl (by decide) (by decide) (fun r13 u12 H locs hp hP hD hS => ?_)
        have hP : va_P G classes [(r 0, .inr (3, [.ref (r 1), .ref (r 2), .ref (r 3), .int zs, .ref (r 4), .int gs, .int st, .int tn, .int wa, .int dn, .ref (r 5), .ref (r 6), .ref (r 7), .int rs, .ref (r 8), .ref (r 9), .ref (r 10), .ref (r 11), .ref (r 12)])), (r 1, .inl (cI, 64, .inl kK)), (r 7, .inl (cB, 320, .inl g)), (r 9, .inl (cI, 8, .inl (km_h m q))), (r 10, .inl (cI, 8, .inl (km_r v (km_h m q) t9))), (r 11, .inl (cI, 64, .inl v))] H := hP
        have hD : va_D A [(r 0, .inr (3, [.ref (r 1), .ref (r 2), .ref (r 3), .int zs, .ref (r 4), .int gs, .int st, .int tn, .int wa, .int dn, .ref (r 5), .ref (r 6), .ref (r 7), .int rs, .ref (r 8), .ref (r 9), .ref (r 10), .ref (r 11), .ref (r 12)])), (r 1, .inl (cI, 64, .inl kK)), (r 7, .inl (cB, 320, .inl g)), (r 9, .inl (cI, 8, .inl (km_h m q))), (r 10, .inl (cI, 8, .inl (km_r v (km_h m q) t9))), (r 11, .inl (cI, 64, .inl v))] := hD
        obtain rfl : r13 = xr (km_r v (km_h m q) t9 0) 2 := hp
        refine lv_iload hx hb d_Model_mix_281 (lv_at hl 1 rfl) ?_
        refine lv_bipush (v := 13) hx hb d_Model_mix_283 (by decide) ?_
        refine xc_i (wr := [(r 0, .inr (3, [.ref (r 1), .ref (r 2), .ref (r 3), .int zs, .ref (r 4), .int gs, .int st, .int tn, .int wa, .int dn, .ref (r 5), .ref (r 6), .ref (r 7), .int rs, .ref (r 8), .ref (r 9), .ref (r 10), .ref (r 11), .ref (r 12)])), (r 1, .inl (cI, 64, .inl kK)), (r 7, .inl (cB, 320, .inl g)), (r 9, .inl (cI, 8, .inl (km_h m q))), (r 10, .inl (cI, 8, .inl (km_r v (km_h m q) t9))), (r 11, .inl (cI, 64, .inl v))]) (va_runS (As := [.int ((km_r v (km_h m q) t9) 0), .int 13]) (rest := [.int (xr (km_r v (km_h m q) t9 0) 2)]) ⟨hx, hb, hml, hown, hts⟩ (c_rot l G cI cB tK tH H.size (km_r v (km_h m q) t9 0) 13 (by decide)) (va_cwS 2 hts (xg_S tw_415 tw_416 tw_20 tw_417) rfl rfl rfl (by decide +kernel) ⟨Nat.le_of_ble_eq_true rfl, Nat.le_of_ble_eq_true rfl⟩) (xc_pre hK hst hA hP hD hS [] (by decide) rfl [.int ((km_r v (km_h m q) t9) 0), .int 13]) rfl rfl hl.1 rfl (lv_room (Nat.le_of_ble_eq_true rfl)) d_Model_mix_285 ⟨Nat.le_of_ble_eq_true rfl, Nat.le_of_ble_eq_true rfl⟩) hA hP hD hS [] [0, 1, 2, 3, 4, 5] rfl rfl (by decide) (by decide) (fun r15 u14 H locs hp hP hD hS => ?_)
        have hP : va_P G classes [(r 0, .inr (3, [.ref (r 1), .ref (r 2), .ref (r 3), .int zs, .ref (r 4), .int gs, .int st, .int tn, .int wa, .int dn, .ref (r 5), .ref (r 6), .ref (r 7), .int rs, .ref (r 8), .ref (r 9), .ref (r 10), .ref (r 11), .ref (r 12)])), (r 1, .inl (cI, 64, .inl kK)), (r 7, .inl (cB, 320, .inl g)), (r 9, .inl (cI, 8, .inl (km_h m q))), (r 10, .inl (cI, 8, .inl (km_r v (km_h m q) t9))), (r 11, .inl (cI, 64, .inl v))] H := hP
        have hD : va_D A [(r 0, .inr (3, [.ref (r 1), .ref (r 2), .ref (r 3), .int zs, .ref (r 4), .int gs, .int st, .int tn, .int wa, .int dn, .ref (r 5), .ref (r 6), .ref (r 7), .int rs, .ref (r 8), .ref (r 9), .ref (r 10), .ref (r 11), .ref (r 12)])), (r 1, .inl (cI, 64, .inl kK)), (r 7, .inl (cB, 320, .inl g)), (r 9, .inl (cI, 8, .inl (km_h m q))), (r 10, .inl (cI, 8, .inl (km_r v (km_h m q) t9))), (r 11, .inl (cI, 64, .inl v))] := hD
        obtain rfl : r15 = xr (km_r v (km_h m q) t9 0) 13 := hp
        refine lv_ixor hx hb d_Model_mix_288 ?_
        refine lv_iload hx hb d_Model_mix_289 (lv_at hl 1 rfl) ?_
        refine lv_bipush (v := 22) hx hb d_Model_mix_291 (by decide) ?_
        refine xc_i (wr := [(r 0, .inr (3, [.ref (r 1), .ref (r 2), .ref (r 3), .int zs, .ref (r 4), .int gs, .int st, .int tn, .int wa, .int dn, .ref (r 5), .ref (r 6), .ref (r 7), .int rs, .ref (r 8), .ref (r 9), .ref (r 10), .ref (r 11), .ref (r 12)])), (r 1, .inl (cI, 64, .inl kK)), (r 7, .inl (cB, 320, .inl g)), (r 9, .inl (cI, 8, .inl (km_h m q))), (r 10, .inl (cI, 8, .inl (km_r v (km_h m q) t9))), (r 11, .inl (cI, 64, .inl v))]) (va_runS (As := [.int ((km_r v (km_h m q) t9) 0), .int 22]) (rest := [.int ((xr (km_r v (km_h m q) t9 0) 2) ^^^ (xr (km_r v (km_h m q) t9 0) 13))]) ⟨hx, hb, hml, hown, hts⟩ (c_rot l G cI cB tK tH H.size (km_r v (km_h m q) t9 0) 22 (by decide)) (va_cwS 2 hts (xg_S tw_415 tw_416 tw_20 tw_417) rfl rfl rfl (by decide +kernel) ⟨Nat.le_of_ble_eq_true rfl, Nat.le_of_ble_eq_true rfl⟩) (xc_pre hK hst hA hP hD hS [] (by decide) rfl [.int ((km_r v (km_h m q) t9) 0), .int 22]) rfl rfl hl.1 rfl (lv_room (Nat.le_of_ble_eq_true rfl)) d_Model_mix_293 ⟨Nat.le_of_ble_eq_true rfl, Nat.le_of_ble_eq_true rfl⟩) hA hP hD hS [] [0, 1, 2, 3, 4, 5] rfl rfl (by decide) (by decide) (fun r17 u16 H locs hp hP hD hS => ?_)
        have hP : va_P G classes [(r 0, .inr (3, [.ref (r 1), .ref (r 2), .ref (r 3), .int zs, .ref (r 4), .int gs, .int st, .int tn, .int wa, .int dn, .ref (r 5), .ref (r 6), .ref (r 7), .int rs, .ref (r 8), .ref (r 9), .ref (r 10), .ref (r 11), .ref (r 12)])), (r 1, .inl (cI, 64, .inl kK)), (r 7, .inl (cB, 320, .inl g)), (r 9, .inl (cI, 8, .inl (km_h m q))), (r 10, .inl (cI, 8, .inl (km_r v (km_h m q) t9))), (r 11, .inl (cI, 64, .inl v))] H := hP
        have hD : va_D A [(r 0, .inr (3, [.ref (r 1), .ref (r 2), .ref (r 3), .int zs, .ref (r 4), .int gs, .int st, .int tn, .int wa, .int dn, .ref (r 5), .ref (r 6), .ref (r 7), .int rs, .ref (r 8), .ref (r 9), .ref (r 10), .ref (r 11), .ref (r 12)])), (r 1, .inl (cI, 64, .inl kK)), (r 7, .inl (cB, 320, .inl g)), (r 9, .inl (cI, 8, .inl (km_h m q))), (r 10, .inl (cI, 8, .inl (km_r v (km_h m q) t9))), (r 11, .inl (cI, 64, .inl v))] := hD
        obtain rfl : r17 = xr (km_r v (km_h m q) t9 0) 22 := hp
        refine lv_ixor hx hb d_Model_mix_296 ?_
        refine lv_iload hx hb d_Model_mix_297 (lv_at hl 1 rfl) ?_
        refine lv_aload_n hx hb d_Model_mix_299 rfl (lv_at hl 4 rfl) ?_
        refine va_get (D := G) (ci := 3) (v := .ref (r 10)) (C := R_Model) (T := F_Model) (N := 19) hx hb hts hi_Model hown hK hP 0 rfl rfl 16 (by decide) (hts _ tw_315) (fun _ h9 => h9) rfl d_Model_mix_300 ?_
        refine lv_iconst (v := 1) hx hb d_Model_mix_303 (by decide) ?_
        refine xa_iald (k := 1) (f := km_r v (km_h m q) t9) hx hb hK hP 4 0 rfl rfl (by omega) (by omega) d_Model_mix_304 ?_
        refine lv_iand hx hb d_Model_mix_305 ?_
        refine lv_iload hx hb d_Model_mix_306 (lv_at hl 1 rfl) ?_
        refine lv_aload_n hx hb d_Model_mix_308 rfl (lv_at hl 4 rfl) ?_
        refine va_get (D := G) (ci := 3) (v := .ref (r 10)) (C := R_Model) (T := F_Model) (N := 19) hx hb hts hi_Model hown hK hP 0 rfl rfl 16 (by decide) (hts _ tw_315) (fun _ h9 => h9) rfl d_Model_mix_309 ?_
        refine lv_iconst (v := 2) hx hb d_Model_mix_312 (by decide) ?_
        refine xa_iald (k := 2) (f := km_r v (km_h m q) t9) hx hb hK hP 4 0 rfl rfl (by omega) (by omega) d_Model_mix_313 ?_
        refine lv_iand hx hb d_Model_mix_314 ?_
        refine lv_ixor hx hb d_Model_mix_315 ?_
        refine lv_aload_n hx hb d_Model_mix_316 rfl (lv_at hl 4 rfl) ?_
        refine va_get (D := G) (ci := 3) (v := .ref (r 10)) (C := R_Model) (T := F_Model) (N := 19) hx hb hts hi_Model hown hK hP 0 rfl rfl 16 (by decide) (hts _ tw_315) (fun _ h9 => h9) rfl d_Model_mix_317 ?_
        refine lv_iconst (v := 1) hx hb d_Model_mix_320 (by decide) ?_
        refine xa_iald (k := 1) (f := km_r v (km_h m q) t9) hx hb hK hP 4 0 rfl rfl (by omega) (by omega) d_Model_mix_321 ?_
        refine lv_aload_n hx hb d_Model_mix_322 rfl (lv_at hl 4 rfl) ?_
        refine va_get (D := G) (ci := 3) (v := .ref (r 10)) (C := R_Model) (T := F_Model) (N := 19) hx hb hts hi_Model hown hK hP 0 rfl rfl 16 (by decide) (hts _ tw_315) (fun _ h9 => h9) rfl d_Model_mix_323 ?_
        refine lv_iconst (v := 2) hx hb d_Model_mix_326 (by decide) ?_
        refine xa_iald (k := 2) (f := km_r v (km_h m q) t9) hx hb hK hP 4 0 rfl rfl (by omega) (by omega) d_Model_mix_327 ?_
        refine lv_iand hx hb d_Model_mix_328 ?_
        refine lv_ixor hx hb d_Model_mix_329 ?_
        refine lv_iadd hx hb d_Model_mix_330 ?_
        refine lv_topi (fun y18 ey18 => ?_)
        obtain rfl : y18 = km_v (km_r v (km_h m q) t9) := ey18.trans (rfl)
        refine lv_istore (lv' := [(6, .int (km_v (km_r v (km_h m q) t9))), (5, .int (km_u (kK t9) (v t9) (km_r v (km_h m q) t9))), (4, .int ((km_r v (km_h m q) t9) 0)), (3, .int ((km_r v (km_h m q) t9) 4)), (2, .int (nI t9)), (0, .ref (r 0)), (1, .int (nI (64 * q)))]) hx hb d_Model_mix_331 hl (by decide) rfl (fun ls hl => ?_)
        refine lv_bipush (v := 7) hx hb d_Model_mix_333 (by decide) ?_
        refine lv_istore (lv' := [(7, .int 7), (6, .int (km_v (km_r v (km_h m q) t9))), (5, .int (km_u (kK t9) (v t9) (km_r v (km_h m q) t9))), (4, .int ((km_r v (km_h m q) t9) 0)), (3, .int ((km_r v (km_h m q) t9) 4)), (2, .int (nI t9)), (0, .ref (r 0)), (1, .int (nI (64 * q)))]) hx hb d_Model_mix_335 hl (by decide) rfl (fun ls hl => ?_)
        refine xl (pc := 337) (I := fun NN ls H locs => ∃ (k : Nat) (f9 : Nat → Int32), k = NN ∧ lv_has ls 8 [(7, .int (nI k)), (5, .int (km_u (kK t9) (v t9) (km_r v (km_h m q) t9))), (6, .int (km_v (km_r v (km_h m q) t9))), (2, .int (nI t9)), (0, .ref (r 0)), (1, .int (nI (64 * q)))] ∧ va_P G classes [(r 0, .inr (3, [.ref (r 1), .ref (r 2), .ref (r 3), .int zs, .ref (r 4), .int gs, .int st, .int tn, .int wa, .int dn, .ref (r 5), .ref (r 6), .ref (r 7), .int rs, .ref (r 8), .ref (r 9), .ref (r 10), .ref (r 11), .ref (r 12)])), (r 1, .inl (cI, 64, .inl kK)), (r 7, .inl (cB, 320, .inl g)), (r 9, .inl (cI, 8, .inl (km_h m q))), (r 10, .inl (cI, 8, .inl f9)), (r 11, .inl (cI, 64, .inl v))] H ∧ va_D A [(r 0, .inr (3, [.ref (r 1), .ref (r 2), .ref (r 3), .int zs, .ref (r 4), .int gs, .int st, .int tn, .int wa, .int dn, .ref (r 5), .ref (r 6), .ref (r 7), .int rs, .ref (r 8), .ref (r 9), .ref (r 10), .ref (r 11), .ref (r 12)])), (r 1, .inl (cI, 64, .inl kK)), (r 7, .inl (cB, 320, .inl g)), (r 9, .inl (cI, 8, .inl (km_h m q))), (r 10, .inl (cI, 8, .inl f9)), (r 11, .inl (cI, 64, .inl v))] ∧ va_S A ss.heap H locs ∧ (k ≤ 7) ∧ (∀ j, j ≤ k → f9 j = km_r v (km_h m q) t9 j) ∧ (∀ j, k < j → j < 8 → f9 j = km_r v (km_h m q) t9 (j - 1))) [] ?_ _ _ _ _ ⟨7, _, rfl, lv_sub hl [0, 2, 1, 5, 6, 7] rfl, hP, hD, hS, by omega, fun j hj => rfl, fun j h1 h2 => by omega⟩
        intro NN ih337 ls H locs hI
        obtain ⟨k, f9, hN, hl, hP, hD, hS, hk, hlo, hhi⟩ := hI
        refine lv_iload hx hb d_Model_mix_337 (lv_at hl 0 rfl) ?_
        refine lv_if_le (tgt := 364) hx hb d_Model_mix_339 (by decide) (fun hc19 => ?_) (fun hc19 => ?_)
        · have hc19 : k ≤ 0 := (nI_leI (a := k) (b := 0) (by omega) (by omega)).mp hc19
          refine lv_aload_n hx hb d_Model_mix_364 rfl (lv_at hl 4 rfl) ?_
          refine va_get (D := G) (ci := 3) (v := .ref (r 10)) (C := R_Model) (T := F_Model) (N := 19) hx hb hts hi_Model hown hK hP 0 rfl rfl 16 (by decide) (hts _ tw_315) (fun _ h9 => h9) rfl d_Model_mix_365 ?_
          refine lv_iconst (v := 4) hx hb d_Model_mix_368 (by decide) ?_
          refine lv_aload_n hx hb d_Model_mix_369 rfl (lv_at hl 4 rfl) ?_
          refine va_get (D := G) (ci := 3) (v := .ref (r 10)) (C := R_Model) (T := F_Model) (N := 19) hx hb hts hi_Model hown hK hP 0 rfl rfl 16 (by decide) (hts _ tw_315) (fun _ h9 => h9) rfl d_Model_mix_370 ?_
          refine lv_iconst (v := 4) hx hb d_Model_mix_373 (by decide) ?_
          refine xa_iald (k := 4) (f := f9) hx hb hK hP 4 0 rfl rfl (by omega) (by omega) d_Model_mix_374 ?_
          refine lv_iload hx hb d_Model_mix_375 (lv_at hl 1 rfl) ?_
          refine lv_iadd hx hb d_Model_mix_377 ?_
          refine xa_iast (k := 4) (f := f9) (x := (f9 4) + (km_u (kK t9) (v t9) (km_r v (km_h m q) t9))) hx hb hK hP hD hS 4 0 rfl rfl (by omega) (by omega) d_Model_mix_378 (fun H locs hP hD hS => ?_)
          have hP : va_P G classes [(r 0, .inr (3, [.ref (r 1), .ref (r 2), .ref (r 3), .int zs, .ref (r 4), .int gs, .int st, .int tn, .int wa, .int dn, .ref (r 5), .ref (r 6), .ref (r 7), .int rs, .ref (r 8), .ref (r 9), .ref (r 10), .ref (r 11), .ref (r 12)])), (r 1, .inl (cI, 64, .inl kK)), (r 7, .inl (cB, 320, .inl g)), (r 9, .inl (cI, 8, .inl (km_h m q))), (r 10, .inl (cI, 8, .inl (upd f9 4 ((f9 4) + (km_u (kK t9) (v t9) (km_r v (km_h m q) t9)))))), (r 11, .inl (cI, 64, .inl v))] H := hP
          have hD : va_D A [(r 0, .inr (3, [.ref (r 1), .ref (r 2), .ref (r 3), .int zs, .ref (r 4), .int gs, .int st, .int tn, .int wa, .int dn, .ref (r 5), .ref (r 6), .ref (r 7), .int rs, .ref (r 8), .ref (r 9), .ref (r 10), .ref (r 11), .ref (r 12)])), (r 1, .inl (cI, 64, .inl kK)), (r 7, .inl (cB, 320, .inl g)), (r 9, .inl (cI, 8, .inl (km_h m q))), (r 10, .inl (cI, 8, .inl (upd f9 4 ((f9 4) + (km_u (kK t9) (v t9) (km_r v (km_h m q) t9)))))), (r 11, .inl (cI, 64, .inl v))] := hD
          refine lv_aload_n hx hb d_Model_mix_379 rfl (lv_at hl 4 rfl) ?_
          refine va_get (D := G) (ci := 3) (v := .ref (r 10)) (C := R_Model) (T := F_Model) (N := 19) hx hb hts hi_Model hown hK hP 0 rfl rfl 16 (by decide) (hts _ tw_315) (fun _ h9 => h9) rfl d_Model_mix_380 ?_
          refine lv_iconst (v := 0) hx hb d_Model_mix_383 (by decide) ?_
          refine lv_iload hx hb d_Model_mix_384 (lv_at hl 1 rfl) ?_
          refine lv_iload hx hb d_Model_mix_386 (lv_at hl 2 rfl) ?_
          refine lv_iadd hx hb d_Model_mix_388 ?_
          refine xa_iast (k := 0) (f := upd f9 4 ((f9 4) + (km_u (kK t9) (v t9) (km_r v (km_h m q) t9)))) (x := (km_u (kK t9) (v t9) (km_r v (km_h m q) t9)) + (km_v (km_r v (km_h m q) t9))) hx hb hK hP hD hS 4 0 rfl rfl (by omega) (by omega) d_Model_mix_389 (fun H locs hP hD hS => ?_)
          have hP : va_P G classes [(r 0, .inr (3, [.ref (r 1), .ref (r 2), .ref (r 3), .int zs, .ref (r 4), .int gs, .int st, .int tn, .int wa, .int dn, .ref (r 5), .ref (r 6), .ref (r 7), .int rs, .ref (r 8), .ref (r 9), .ref (r 10), .ref (r 11), .ref (r 12)])), (r 1, .inl (cI, 64, .inl kK)), (r 7, .inl (cB, 320, .inl g)), (r 9, .inl (cI, 8, .inl (km_h m q))), (r 10, .inl (cI, 8, .inl (upd (upd f9 4 ((f9 4) + (km_u (kK t9) (v t9) (km_r v (km_h m q) t9)))) 0 ((km_u (kK t9) (v t9) (km_r v (km_h m q) t9)) + (km_v (km_r v (km_h m q) t9)))))), (r 11, .inl (cI, 64, .inl v))] H := hP
          have hD : va_D A [(r 0, .inr (3, [.ref (r 1), .ref (r 2), .ref (r 3), .int zs, .ref (r 4), .int gs, .int st, .int tn, .int wa, .int dn, .ref (r 5), .ref (r 6), .ref (r 7), .int rs, .ref (r 8), .ref (r 9), .ref (r 10), .ref (r 11), .ref (r 12)])), (r 1, .inl (cI, 64, .inl kK)), (r 7, .inl (cB, 320, .inl g)), (r 9, .inl (cI, 8, .inl (km_h m q))), (r 10, .inl (cI, 8, .inl (upd (upd f9 4 ((f9 4) + (km_u (kK t9) (v t9) (km_r v (km_h m q) t9)))) 0 ((km_u (kK t9) (v t9) (km_r v (km_h m q) t9)) + (km_v (km_r v (km_h m q) t9)))))), (r 11, .inl (cI, 64, .inl v))] := hD
          have hP := xp_fun hP 4 (km_r v (km_h m q) (t9 + 1)) rfl (fun j hj => km_shift (kK t9) (v t9) (hlo 0 (by omega)) (fun j h1 h2 => hhi j (by omega) h2) j hj)
          have hD := hD.set (p := 4) (e := .inl (cI, 8, .inl (km_r v (km_h m q) (t9 + 1)))) rfl
          have hP : va_P G classes [(r 0, .inr (3, [.ref (r 1), .ref (r 2), .ref (r 3), .int zs, .ref (r 4), .int gs, .int st, .int tn, .int wa, .int dn, .ref (r 5), .ref (r 6), .ref (r 7), .int rs, .ref (r 8), .ref (r 9), .ref (r 10), .ref (r 11), .ref (r 12)])), (r 1, .inl (cI, 64, .inl kK)), (r 7, .inl (cB, 320, .inl g)), (r 9, .inl (cI, 8, .inl (km_h m q))), (r 10, .inl (cI, 8, .inl (km_r v (km_h m q) (t9 + 1)))), (r 11, .inl (cI, 64, .inl v))] H := hP
          have hD : va_D A [(r 0, .inr (3, [.ref (r 1), .ref (r 2), .ref (r 3), .int zs, .ref (r 4), .int gs, .int st, .int tn, .int wa, .int dn, .ref (r 5), .ref (r 6), .ref (r 7), .int rs, .ref (r 8), .ref (r 9), .ref (r 10), .ref (r 11), .ref (r 12)])), (r 1, .inl (cI, 64, .inl kK)), (r 7, .inl (cB, 320, .inl g)), (r 9, .inl (cI, 8, .inl (km_h m q))), (r 10, .inl (cI, 8, .inl (km_r v (km_h m q) (t9 + 1)))), (r 11, .inl (cI, 64, .inl v))] := hD
          refine lv_iinc (k := 3) (v := nI (t9 + 1)) (lv' := [(2, .int (nI (t9 + 1))), (7, .int (nI k)), (5, .int (km_u (kK t9) (v t9) (km_r v (km_h m q) t9))), (6, .int (km_v (km_r v (km_h m q) t9))), (0, .ref (r 0)), (1, .int (nI (64 * q)))]) hx hb d_Model_mix_390 hl rfl (nI_1 t9) (by decide) rfl (fun ls hl => ?_)
          refine lv_goto (tgt := 189) hx hb d_Model_mix_393 (by decide) ?_
          exact ih189 _ (by omega) _ _ _ ⟨t9 + 1, rfl, lv_sub hl [0, 4, 5] rfl, hP, hD, hS, by omega⟩
        · have hc19 : ¬ k ≤ 0 := fun z => hc19 ((nI_leI (a := k) (b := 0) (by omega) (by omega)).mpr z)
          refine lv_aload_n hx hb d_Model_mix_342 rfl (lv_at hl 4 rfl) ?_
          refine va_get (D := G) (ci := 3) (v := .ref (r 10)) (C := R_Model) (T := F_Model) (N := 19) hx hb hts hi_Model hown hK hP 0 rfl rfl 16 (by decide) (hts _ tw_315) (fun _ h9 => h9) rfl d_Model_mix_343 ?_
          refine lv_iload hx hb d_Model_mix_346 (lv_at hl 0 rfl) ?_
          refine lv_aload_n hx hb d_Model_mix_348 rfl (lv_at hl 4 rfl) ?_
          refine va_get (D := G) (ci := 3) (v := .ref (r 10)) (C := R_Model) (T := F_Model) (N := 19) hx hb hts hi_Model hown hK hP 0 rfl rfl 16 (by decide) (hts _ tw_315) (fun _ h9 => h9) rfl d_Model_mix_349 ?_
          refine lv_iload hx hb d_Model_mix_352 (lv_at hl 0 rfl) ?_
          refine lv_iconst (v := 1) hx hb d_Model_mix_354 (by decide) ?_
          refine lv_isub hx hb d_Model_mix_355 ?_
          refine lv_topi (fun y20 ey20 => ?_)
          obtain rfl : y20 = nI (k - 1) := ey20.trans (pk_sub (a := k) (b := 1) (by omega))
          refine xa_iald (k := k - 1) (f := f9) hx hb hK hP 4 0 rfl rfl (by omega) (by omega) d_Model_mix_356 ?_
          refine xa_iast (k := k) (f := f9) (x := f9 (k - 1)) hx hb hK hP hD hS 4 0 rfl rfl (by omega) (by omega) d_Model_mix_357 (fun H locs hP hD hS => ?_)
          have hP : va_P G classes [(r 0, .inr (3, [.ref (r 1), .ref (r 2), .ref (r 3), .int zs, .ref (r 4), .int gs, .int st, .int tn, .int wa, .int dn, .ref (r 5), .ref (r 6), .ref (r 7), .int rs, .ref (r 8), .ref (r 9), .ref (r 10), .ref (r 11), .ref (r 12)])), (r 1, .inl (cI, 64, .inl kK)), (r 7, .inl (cB, 320, .inl g)), (r 9, .inl (cI, 8, .inl (km_h m q))), (r 10, .inl (cI, 8, .inl (upd f9 k (f9 (k - 1))))), (r 11, .inl (cI, 64, .inl v))] H := hP
          have hD : va_D A [(r 0, .inr (3, [.ref (r 1), .ref (r 2), .ref (r 3), .int zs, .ref (r 4), .int gs, .int st, .int tn, .int wa, .int dn, .ref (r 5), .ref (r 6), .ref (r 7), .int rs, .ref (r 8), .ref (r 9), .ref (r 10), .ref (r 11), .ref (r 12)])), (r 1, .inl (cI, 64, .inl kK)), (r 7, .inl (cB, 320, .inl g)), (r 9, .inl (cI, 8, .inl (km_h m q))), (r 10, .inl (cI, 8, .inl (upd f9 k (f9 (k - 1))))), (r 11, .inl (cI, 64, .inl v))] := hD
          refine lv_iinc (k := 0) (v := nI (k - 1)) (lv' := [(7, .int (nI (k - 1))), (5, .int (km_u (kK t9) (v t9) (km_r v (km_h m q) t9))), (6, .int (km_v (km_r v (km_h m q) t9))), (2, .int (nI t9)), (0, .ref (r 0)), (1, .int (nI (64 * q)))]) hx hb d_Model_mix_358 hl rfl (kn_dec (by omega)) (by decide) rfl (fun ls hl => ?_)
          refine lv_goto (tgt := 337) hx hb d_Model_mix_361 (by decide) ?_
          exact ih337 _ (by omega) _ _ _ ⟨k - 1, _, rfl, lv_sub hl [0, 1, 2, 3, 4, 5] rfl, hP, hD, hS, by omega, fun j hj => by rw [pk_un (by omega)]; exact hlo j (by omega), fun j h1 h2 => by
                by_cases e : j = k
                · subst e; rw [pk_us]; exact hlo (j - 1) (by omega)
                · rw [pk_un e]; exact hhi j (by omega) h2⟩
    · have hc2 : ¬ 8 ≤ i := fun z => hc2 ((nI_leI (a := 8) (b := i) (by omega) (by omega)).mpr z)
      refine lv_aload_n hx hb d_Model_mix_169 rfl (lv_at hl 1 rfl) ?_
      refine va_get (D := G) (ci := 3) (v := .ref (r 10)) (C := R_Model) (T := F_Model) (N := 19) hx hb hts hi_Model hown hK hP 0 rfl rfl 16 (by decide) (hts _ tw_315) (fun _ h9 => h9) rfl d_Model_mix_170 ?_
      refine lv_iload_n hx hb d_Model_mix_173 rfl (lv_at hl 0 rfl) ?_
      refine lv_aload_n hx hb d_Model_mix_174 rfl (lv_at hl 1 rfl) ?_
      refine va_get (D := G) (ci := 3) (v := .ref (r 9)) (C := R_Model) (T := F_Model) (N := 19) hx hb hts hi_Model hown hK hP 0 rfl rfl 15 (by decide) (hts _ tw_314) (fun _ h9 => h9) rfl d_Model_mix_175 ?_
      refine lv_iload_n hx hb d_Model_mix_178 rfl (lv_at hl 0 rfl) ?_
      refine xa_iald (k := i) (f := km_h m q) hx hb hK hP 3 0 rfl rfl (by omega) (by omega) d_Model_mix_179 ?_
      refine xa_iast (k := i) (f := f9) (x := (km_h m q) i) hx hb hK hP hD hS 4 0 rfl rfl (by omega) (by omega) d_Model_mix_180 (fun H locs hP hD hS => ?_)
      have hP : va_P G classes [(r 0, .inr (3, [.ref (r 1), .ref (r 2), .ref (r 3), .int zs, .ref (r 4), .int gs, .int st, .int tn, .int wa, .int dn, .ref (r 5), .ref (r 6), .ref (r 7), .int rs, .ref (r 8), .ref (r 9), .ref (r 10), .ref (r 11), .ref (r 12)])), (r 1, .inl (cI, 64, .inl kK)), (r 7, .inl (cB, 320, .inl g)), (r 9, .inl (cI, 8, .inl (km_h m q))), (r 10, .inl (cI, 8, .inl (upd f9 i ((km_h m q) i)))), (r 11, .inl (cI, 64, .inl v))] H := hP
      have hD : va_D A [(r 0, .inr (3, [.ref (r 1), .ref (r 2), .ref (r 3), .int zs, .ref (r 4), .int gs, .int st, .int tn, .int wa, .int dn, .ref (r 5), .ref (r 6), .ref (r 7), .int rs, .ref (r 8), .ref (r 9), .ref (r 10), .ref (r 11), .ref (r 12)])), (r 1, .inl (cI, 64, .inl kK)), (r 7, .inl (cB, 320, .inl g)), (r 9, .inl (cI, 8, .inl (km_h m q))), (r 10, .inl (cI, 8, .inl (upd f9 i ((km_h m q) i)))), (r 11, .inl (cI, 64, .inl v))] := hD
      refine lv_iinc (k := 0) (v := nI (i + 1)) (lv' := [(2, .int (nI (i + 1))), (0, .ref (r 0)), (1, .int (nI (64 * q)))]) hx hb d_Model_mix_181 hl rfl (nI_1 i) (by decide) rfl (fun ls hl => ?_)
      refine lv_goto (tgt := 163) hx hb d_Model_mix_184 (by decide) ?_
      exact ih163 _ (by omega) _ _ _ ⟨i + 1, _, rfl, lv_sub hl [0, 1, 2] rfl, hP, hD, hS, by omega, fun j hj => by
            by_cases e : j = i
            · subst e; exact pk_us
            · rw [pk_un e]; exact hf9 j (by omega)⟩
  · have hc1 : ¬ 64 ≤ t := fun z => hc1 ((nI_leI (a := 64) (b := t) (by omega) (by omega)).mpr z)
    refine lv_iload_n hx hb d_Model_mix_8 rfl (lv_at hl 0 rfl) ?_
    refine lv_bipush (v := 16) hx hb d_Model_mix_9 (by decide) ?_
    refine lv_icmp_ge (tgt := 70) hx hb d_Model_mix_11 (by decide) (fun hc21 => ?_) (fun hc21 => ?_)
    · have hc21 : 16 ≤ t := (nI_leI (a := 16) (b := t) (by omega) (by omega)).mp hc21
      refine lv_aload_n hx hb d_Model_mix_70 rfl (lv_at hl 1 rfl) ?_
      refine va_get (D := G) (ci := 3) (v := .ref (r 11)) (C := R_Model) (T := F_Model) (N := 19) hx hb hts hi_Model hown hK hP 0 rfl rfl 17 (by decide) (hts _ tw_316) (fun _ h9 => h9) rfl d_Model_mix_71 ?_
      refine lv_iload_n hx hb d_Model_mix_74 rfl (lv_at hl 0 rfl) ?_
      refine lv_bipush (v := 15) hx hb d_Model_mix_75 (by decide) ?_
      refine lv_isub hx hb d_Model_mix_77 ?_
      refine lv_topi (fun y22 ey22 => ?_)
      obtain rfl : y22 = nI (t - 15) := ey22.trans (pk_sub (a := t) (b := 15) (by omega))
      refine xa_iald (k := t - 15) (f := v) hx hb hK hP 5 0 rfl rfl (by omega) (by omega) d_Model_mix_78 ?_
      refine lv_istore_n (lv' := [(3, .int (v (t - 15))), (2, .int (nI t)), (0, .ref (r 0)), (1, .int (nI (64 * q)))]) hx hb d_Model_mix_79 rfl hl (by decide) rfl (fun ls hl => ?_)
      refine lv_aload_n hx hb d_Model_mix_80 rfl (lv_at hl 2 rfl) ?_
      refine va_get (D := G) (ci := 3) (v := .ref (r 11)) (C := R_Model) (T := F_Model) (N := 19) hx hb hts hi_Model hown hK hP 0 rfl rfl 17 (by decide) (hts _ tw_316) (fun _ h9 => h9) rfl d_Model_mix_81 ?_
      refine lv_iload_n hx hb d_Model_mix_84 rfl (lv_at hl 1 rfl) ?_
      refine lv_iconst (v := 2) hx hb d_Model_mix_85 (by decide) ?_
      refine lv_isub hx hb d_Model_mix_86 ?_
      refine lv_topi (fun y23 ey23 => ?_)
      obtain rfl : y23 = nI (t - 2) := ey23.trans (pk_sub (a := t) (b := 2) (by omega))
      refine xa_iald (k := t - 2) (f := v) hx hb hK hP 5 0 rfl rfl (by omega) (by omega) d_Model_mix_87 ?_
      refine lv_istore (lv' := [(4, .int (v (t - 2))), (3, .int (v (t - 15))), (2, .int (nI t)), (0, .ref (r 0)), (1, .int (nI (64 * q)))]) hx hb d_Model_mix_88 hl (by decide) rfl (fun ls hl => ?_)
      refine lv_aload_n hx hb d_Model_mix_90 rfl (lv_at hl 3 rfl) ?_
      refine va_get (D := G) (ci := 3) (v := .ref (r 11)) (C := R_Model) (T := F_Model) (N := 19) hx hb hts hi_Model hown hK hP 0 rfl rfl 17 (by decide) (hts _ tw_316) (fun _ h9 => h9) rfl d_Model_mix_91 ?_
      refine lv_iload_n hx hb d_Model_mix_94 rfl (lv_at hl 2 rfl) ?_
      refine lv_iload hx hb d_Model_mix_95 (lv_at hl 0 rfl) ?_
      refine lv_bipush (v := 17) hx hb d_Model_mix_97 (by decide) ?_
      refine xc_i (wr := [(r 0, .inr (3, [.ref (r 1), .ref (r 2), .ref (r 3), .int zs, .ref (r 4), .int gs, .int st, .int tn, .int wa, .int dn, .ref (r 5), .ref (r 6), .ref (r 7), .int rs, .ref (r 8), .ref (r 9), .ref (r 10), .ref (r 11), .ref (r 12)])), (r 1, .inl (cI, 64, .inl kK)), (r 7, .inl (cB, 320, .inl g)), (r 9, .inl (cI, 8, .inl (km_h m q))), (r 10, .inl (cI, 8, .inl nw)), (r 11, .inl (cI, 64, .inl v))]) (va_runS (As := [.int (v (t - 2)), .int 17]) (rest := [.int (nI t), .ref (r 11)]) ⟨hx, hb, hml, hown, hts⟩ (c_rot l G cI cB tK tH H.size (v (t - 2)) 17 (by decide)) (va_cwS 2 hts (xg_S tw_415 tw_416 tw_20 tw_417) rfl rfl rfl (by decide +kernel) ⟨Nat.le_of_ble_eq_true rfl, Nat.le_of_ble_eq_true rfl⟩) (xc_pre hK hst hA hP hD hS [] (by decide) rfl [.int (v (t - 2)), .int 17]) rfl rfl hl.1 rfl (lv_room (Nat.le_of_ble_eq_true rfl)) d_Model_mix_99 ⟨Nat.le_of_ble_eq_true rfl, Nat.le_of_ble_eq_true rfl⟩) hA hP hD hS [] [0, 1, 2, 3, 4, 5] rfl rfl (by decide) (by decide) (fun r25 u24 H locs hp hP hD hS => ?_)
      have hP : va_P G classes [(r 0, .inr (3, [.ref (r 1), .ref (r 2), .ref (r 3), .int zs, .ref (r 4), .int gs, .int st, .int tn, .int wa, .int dn, .ref (r 5), .ref (r 6), .ref (r 7), .int rs, .ref (r 8), .ref (r 9), .ref (r 10), .ref (r 11), .ref (r 12)])), (r 1, .inl (cI, 64, .inl kK)), (r 7, .inl (cB, 320, .inl g)), (r 9, .inl (cI, 8, .inl (km_h m q))), (r 10, .inl (cI, 8, .inl nw)), (r 11, .inl (cI, 64, .inl v))] H := hP
      have hD : va_D A [(r 0, .inr (3, [.ref (r 1), .ref (r 2), .ref (r 3), .int zs, .ref (r 4), .int gs, .int st, .int tn, .int wa, .int dn, .ref (r 5), .ref (r 6), .ref (r 7), .int rs, .ref (r 8), .ref (r 9), .ref (r 10), .ref (r 11), .ref (r 12)])), (r 1, .inl (cI, 64, .inl kK)), (r 7, .inl (cB, 320, .inl g)), (r 9, .inl (cI, 8, .inl (km_h m q))), (r 10, .inl (cI, 8, .inl nw)), (r 11, .inl (cI, 64, .inl v))] := hD
      obtain rfl : r25 = xr (v (t - 2)) 17 := hp
      refine lv_iload hx hb d_Model_mix_102 (lv_at hl 0 rfl) ?_
      refine lv_bipush (v := 19) hx hb d_Model_mix_104 (by decide) ?_
      refine xc_i (wr := [(r 0, .inr (3, [.ref (r 1), .ref (r 2), .ref (r 3), .int zs, .ref (r 4), .int gs, .int st, .int tn, .int wa, .int dn, .ref (r 5), .ref (r 6), .ref (r 7), .int rs, .ref (r 8), .ref (r 9), .ref (r 10), .ref (r 11), .ref (r 12)])), (r 1, .inl (cI, 64, .inl kK)), (r 7, .inl (cB, 320, .inl g)), (r 9, .inl (cI, 8, .inl (km_h m q))), (r 10, .inl (cI, 8, .inl nw)), (r 11, .inl (cI, 64, .inl v))]) (va_runS (As := [.int (v (t - 2)), .int 19]) (rest := [.int (xr (v (t - 2)) 17), .int (nI t), .ref (r 11)]) ⟨hx, hb, hml, hown, hts⟩ (c_rot l G cI cB tK tH H.size (v (t - 2)) 19 (by decide)) (va_cwS 2 hts (xg_S tw_415 tw_416 tw_20 tw_417) rfl rfl rfl (by decide +kernel) ⟨Nat.le_of_ble_eq_true rfl, Nat.le_of_ble_eq_true rfl⟩) (xc_pre hK hst hA hP hD hS [] (by decide) rfl [.int (v (t - 2)), .int 19]) rfl rfl hl.1 rfl (lv_room (Nat.le_of_ble_eq_true rfl)) d_Model_mix_106 ⟨Nat.le_of_ble_eq_true rfl, Nat.le_of_ble_eq_true rfl⟩) hA hP hD hS [] [0, 1, 2, 3, 4, 5] rfl rfl (by decide) (by decide) (fun r27 u26 H locs hp hP hD hS => ?_)
      have hP : va_P G classes [(r 0, .inr (3, [.ref (r 1), .ref (r 2), .ref (r 3), .int zs, .ref (r 4), .int gs, .int st, .int tn, .int wa, .int dn, .ref (r 5), .ref (r 6), .ref (r 7), .int rs, .ref (r 8), .ref (r 9), .ref (r 10), .ref (r 11), .ref (r 12)])), (r 1, .inl (cI, 64, .inl kK)), (r 7, .inl (cB, 320, .inl g)), (r 9, .inl (cI, 8, .inl (km_h m q))), (r 10, .inl (cI, 8, .inl nw)), (r 11, .inl (cI, 64, .inl v))] H := hP
      have hD : va_D A [(r 0, .inr (3, [.ref (r 1), .ref (r 2), .ref (r 3), .int zs, .ref (r 4), .int gs, .int st, .int tn, .int wa, .int dn, .ref (r 5), .ref (r 6), .ref (r 7), .int rs, .ref (r 8), .ref (r 9), .ref (r 10), .ref (r 11), .ref (r 12)])), (r 1, .inl (cI, 64, .inl kK)), (r 7, .inl (cB, 320, .inl g)), (r 9, .inl (cI, 8, .inl (km_h m q))), (r 10, .inl (cI, 8, .inl nw)), (r 11, .inl (cI, 64, .inl v))] := hD
      obtain rfl : r27 = xr (v (t - 2)) 19 := hp
      refine lv_ixor hx hb d_Model_mix_109 ?_
      refine lv_iload hx hb d_Model_mix_110 (lv_at hl 0 rfl) ?_
      refine lv_bipush (v := 10) hx hb d_Model_mix_112 (by decide) ?_
      refine lv_iushr (v := xu (v (t - 2)) 10) hx hb d_Model_mix_114 rfl ?_
      refine lv_ixor hx hb d_Model_mix_115 ?_
      refine lv_topi (fun y28 ey28 => ?_)
      obtain rfl : y28 = km_z1 (v (t - 2)) := ey28.trans (rfl)
      refine lv_aload_n hx hb d_Model_mix_116 rfl (lv_at hl 3 rfl) ?_
      refine va_get (D := G) (ci := 3) (v := .ref (r 11)) (C := R_Model) (T := F_Model) (N := 19) hx hb hts hi_Model hown hK hP 0 rfl rfl 17 (by decide) (hts _ tw_316) (fun _ h9 => h9) rfl d_Model_mix_117 ?_
      refine lv_iload_n hx hb d_Model_mix_120 rfl (lv_at hl 2 rfl) ?_
      refine lv_bipush (v := 7) hx hb d_Model_mix_121 (by decide) ?_
      refine lv_isub hx hb d_Model_mix_123 ?_
      refine lv_topi (fun y29 ey29 => ?_)
      obtain rfl : y29 = nI (t - 7) := ey29.trans (pk_sub (a := t) (b := 7) (by omega))
      refine xa_iald (k := t - 7) (f := v) hx hb hK hP 5 0 rfl rfl (by omega) (by omega) d_Model_mix_124 ?_
      refine lv_iadd hx hb d_Model_mix_125 ?_
      refine lv_iload_n hx hb d_Model_mix_126 rfl (lv_at hl 1 rfl) ?_
      refine lv_bipush (v := 7) hx hb d_Model_mix_127 (by decide) ?_
      refine xc_i (wr := [(r 0, .inr (3, [.ref (r 1), .ref (r 2), .ref (r 3), .int zs, .ref (r 4), .int gs, .int st, .int tn, .int wa, .int dn, .ref (r 5), .ref (r 6), .ref (r 7), .int rs, .ref (r 8), .ref (r 9), .ref (r 10), .ref (r 11), .ref (r 12)])), (r 1, .inl (cI, 64, .inl kK)), (r 7, .inl (cB, 320, .inl g)), (r 9, .inl (cI, 8, .inl (km_h m q))), (r 10, .inl (cI, 8, .inl nw)), (r 11, .inl (cI, 64, .inl v))]) (va_runS (As := [.int (v (t - 15)), .int 7]) (rest := [.int ((km_z1 (v (t - 2))) + (v (t - 7))), .int (nI t), .ref (r 11)]) ⟨hx, hb, hml, hown, hts⟩ (c_rot l G cI cB tK tH H.size (v (t - 15)) 7 (by decide)) (va_cwS 2 hts (xg_S tw_415 tw_416 tw_20 tw_417) rfl rfl rfl (by decide +kernel) ⟨Nat.le_of_ble_eq_true rfl, Nat.le_of_ble_eq_true rfl⟩) (xc_pre hK hst hA hP hD hS [] (by decide) rfl [.int (v (t - 15)), .int 7]) rfl rfl hl.1 rfl (lv_room (Nat.le_of_ble_eq_true rfl)) d_Model_mix_129 ⟨Nat.le_of_ble_eq_true rfl, Nat.le_of_ble_eq_true rfl⟩) hA hP hD hS [] [0, 1, 2, 3, 4, 5] rfl rfl (by decide) (by decide) (fun r31 u30 H locs hp hP hD hS => ?_)
      have hP : va_P G classes [(r 0, .inr (3, [.ref (r 1), .ref (r 2), .ref (r 3), .int zs, .ref (r 4), .int gs, .int st, .int tn, .int wa, .int dn, .ref (r 5), .ref (r 6), .ref (r 7), .int rs, .ref (r 8), .ref (r 9), .ref (r 10), .ref (r 11), .ref (r 12)])), (r 1, .inl (cI, 64, .inl kK)), (r 7, .inl (cB, 320, .inl g)), (r 9, .inl (cI, 8, .inl (km_h m q))), (r 10, .inl (cI, 8, .inl nw)), (r 11, .inl (cI, 64, .inl v))] H := hP
      have hD : va_D A [(r 0, .inr (3, [.ref (r 1), .ref (r 2), .ref (r 3), .int zs, .ref (r 4), .int gs, .int st, .int tn, .int wa, .int dn, .ref (r 5), .ref (r 6), .ref (r 7), .int rs, .ref (r 8), .ref (r 9), .ref (r 10), .ref (r 11), .ref (r 12)])), (r 1, .inl (cI, 64, .inl kK)), (r 7, .inl (cB, 320, .inl g)), (r 9, .inl (cI, 8, .inl (km_h m q))), (r 10, .inl (cI, 8, .inl nw)), (r 11, .inl (cI, 64, .inl v))] := hD
      obtain rfl : r31 = xr (v (t - 15)) 7 := hp
      refine lv_iload_n hx hb d_Model_mix_132 rfl (lv_at hl 1 rfl) ?_
      refine lv_bipush (v := 18) hx hb d_Model_mix_133 (by decide) ?_
      refine xc_i (wr := [(r 0, .inr (3, [.ref (r 1), .ref (r 2), .ref (r 3), .int zs, .ref (r 4), .int gs, .int st, .int tn, .int wa, .int dn, .ref (r 5), .ref (r 6), .ref (r 7), .int rs, .ref (r 8), .ref (r 9), .ref (r 10), .ref (r 11), .ref (r 12)])), (r 1, .inl (cI, 64, .inl kK)), (r 7, .inl (cB, 320, .inl g)), (r 9, .inl (cI, 8, .inl (km_h m q))), (r 10, .inl (cI, 8, .inl nw)), (r 11, .inl (cI, 64, .inl v))]) (va_runS (As := [.int (v (t - 15)), .int 18]) (rest := [.int (xr (v (t - 15)) 7), .int ((km_z1 (v (t - 2))) + (v (t - 7))), .int (nI t), .ref (r 11)]) ⟨hx, hb, hml, hown, hts⟩ (c_rot l G cI cB tK tH H.size (v (t - 15)) 18 (by decide)) (va_cwS 2 hts (xg_S tw_415 tw_416 tw_20 tw_417) rfl rfl rfl (by decide +kernel) ⟨Nat.le_of_ble_eq_true rfl, Nat.le_of_ble_eq_true rfl⟩) (xc_pre hK hst hA hP hD hS [] (by decide) rfl [.int (v (t - 15)), .int 18]) rfl rfl hl.1 rfl (lv_room (Nat.le_of_ble_eq_true rfl)) d_Model_mix_135 ⟨Nat.le_of_ble_eq_true rfl, Nat.le_of_ble_eq_true rfl⟩) hA hP hD hS [] [0, 1, 2, 3, 4, 5] rfl rfl (by decide) (by decide) (fun r33 u32 H locs hp hP hD hS => ?_)
      have hP : va_P G classes [(r 0, .inr (3, [.ref (r 1), .ref (r 2), .ref (r 3), .int zs, .ref (r 4), .int gs, .int st, .int tn, .int wa, .int dn, .ref (r 5), .ref (r 6), .ref (r 7), .int rs, .ref (r 8), .ref (r 9), .ref (r 10), .ref (r 11), .ref (r 12)])), (r 1, .inl (cI, 64, .inl kK)), (r 7, .inl (cB, 320, .inl g)), (r 9, .inl (cI, 8, .inl (km_h m q))), (r 10, .inl (cI, 8, .inl nw)), (r 11, .inl (cI, 64, .inl v))] H := hP
      have hD : va_D A [(r 0, .inr (3, [.ref (r 1), .ref (r 2), .ref (r 3), .int zs, .ref (r 4), .int gs, .int st, .int tn, .int wa, .int dn, .ref (r 5), .ref (r 6), .ref (r 7), .int rs, .ref (r 8), .ref (r 9), .ref (r 10), .ref (r 11), .ref (r 12)])), (r 1, .inl (cI, 64, .inl kK)), (r 7, .inl (cB, 320, .inl g)), (r 9, .inl (cI, 8, .inl (km_h m q))), (r 10, .inl (cI, 8, .inl nw)), (r 11, .inl (cI, 64, .inl v))] := hD
      obtain rfl : r33 = xr (v (t - 15)) 18 := hp
      refine lv_ixor hx hb d_Model_mix_138 ?_
      refine lv_iload_n hx hb d_Model_mix_139 rfl (lv_at hl 1 rfl) ?_
      refine lv_iconst (v := 3) hx hb d_Model_mix_140 (by decide) ?_
      refine lv_iushr (v := xu (v (t - 15)) 3) hx hb d_Model_mix_141 rfl ?_
      refine lv_ixor hx hb d_Model_mix_142 ?_
      refine lv_topi (fun y34 ey34 => ?_)
      obtain rfl : y34 = km_z0 (v (t - 15)) := ey34.trans (rfl)
      refine lv_iadd hx hb d_Model_mix_143 ?_
      refine lv_aload_n hx hb d_Model_mix_144 rfl (lv_at hl 3 rfl) ?_
      refine va_get (D := G) (ci := 3) (v := .ref (r 11)) (C := R_Model) (T := F_Model) (N := 19) hx hb hts hi_Model hown hK hP 0 rfl rfl 17 (by decide) (hts _ tw_316) (fun _ h9 => h9) rfl d_Model_mix_145 ?_
      refine lv_iload_n hx hb d_Model_mix_148 rfl (lv_at hl 2 rfl) ?_
      refine lv_bipush (v := 16) hx hb d_Model_mix_149 (by decide) ?_
      refine lv_isub hx hb d_Model_mix_151 ?_
      refine lv_topi (fun y35 ey35 => ?_)
      obtain rfl : y35 = nI (t - 16) := ey35.trans (pk_sub (a := t) (b := 16) (by omega))
      refine xa_iald (k := t - 16) (f := v) hx hb hK hP 5 0 rfl rfl (by omega) (by omega) d_Model_mix_152 ?_
      refine lv_iadd hx hb d_Model_mix_153 ?_
      refine xa_iast (k := t) (f := v) (x := (((km_z1 (v (t - 2))) + (v (t - 7))) + (km_z0 (v (t - 15)))) + (v (t - 16))) hx hb hK hP hD hS 5 0 rfl rfl (by omega) (by omega) d_Model_mix_154 (fun H locs hP hD hS => ?_)
      have hP : va_P G classes [(r 0, .inr (3, [.ref (r 1), .ref (r 2), .ref (r 3), .int zs, .ref (r 4), .int gs, .int st, .int tn, .int wa, .int dn, .ref (r 5), .ref (r 6), .ref (r 7), .int rs, .ref (r 8), .ref (r 9), .ref (r 10), .ref (r 11), .ref (r 12)])), (r 1, .inl (cI, 64, .inl kK)), (r 7, .inl (cB, 320, .inl g)), (r 9, .inl (cI, 8, .inl (km_h m q))), (r 10, .inl (cI, 8, .inl nw)), (r 11, .inl (cI, 64, .inl (upd v t ((((km_z1 (v (t - 2))) + (v (t - 7))) + (km_z0 (v (t - 15)))) + (v (t - 16))))))] H := hP
      have hD : va_D A [(r 0, .inr (3, [.ref (r 1), .ref (r 2), .ref (r 3), .int zs, .ref (r 4), .int gs, .int st, .int tn, .int wa, .int dn, .ref (r 5), .ref (r 6), .ref (r 7), .int rs, .ref (r 8), .ref (r 9), .ref (r 10), .ref (r 11), .ref (r 12)])), (r 1, .inl (cI, 64, .inl kK)), (r 7, .inl (cB, 320, .inl g)), (r 9, .inl (cI, 8, .inl (km_h m q))), (r 10, .inl (cI, 8, .inl nw)), (r 11, .inl (cI, 64, .inl (upd v t ((((km_z1 (v (t - 2))) + (v (t - 7))) + (km_z0 (v (t - 15)))) + (v (t - 16))))))] := hD
      refine lv_iinc (k := 2) (v := nI (t + 1)) (lv' := [(2, .int (nI (t + 1))), (4, .int (v (t - 2))), (3, .int (v (t - 15))), (0, .ref (r 0)), (1, .int (nI (64 * q)))]) hx hb d_Model_mix_155 hl rfl (nI_1 t) (by decide) rfl (fun ls hl => ?_)
      refine lv_goto (tgt := 2) hx hb d_Model_mix_158 (by decide) ?_
      exact ih2 _ (by omega) _ _ _ ⟨t + 1, upd v t ((((km_z1 (v (t - 2))) + (v (t - 7))) + (km_z0 (v (t - 15)))) + (v (t - 16))), rfl, lv_sub hl [0, 3, 4] rfl, hP, hD, hS, by omega, km_W_step (by omega) (by omega) hv⟩
    · have hc21 : ¬ 16 ≤ t := fun z => hc21 ((nI_leI (a := 16) (b := t) (by omega) (by omega)).mpr z)
      refine lv_aload_n hx hb d_Model_mix_14 rfl (lv_at hl 1 rfl) ?_
      refine va_get (D := G) (ci := 3) (v := .ref (r 11)) (C := R_Model) (T := F_Model) (N := 19) hx hb hts hi_Model hown hK hP 0 rfl rfl 17 (by decide) (hts _ tw_316) (fun _ h9 => h9) rfl d_Model_mix_15 ?_
      refine lv_iload_n hx hb d_Model_mix_18 rfl (lv_at hl 0 rfl) ?_
      refine lv_iconst (v := 0) hx hb d_Model_mix_19 (by decide) ?_
      refine xa_iast (k := t) (f := v) (x := 0) hx hb hK hP hD hS 5 0 rfl rfl (by omega) (by omega) d_Model_mix_20 (fun H locs hP hD hS => ?_)
      have hP : va_P G classes [(r 0, .inr (3, [.ref (r 1), .ref (r 2), .ref (r 3), .int zs, .ref (r 4), .int gs, .int st, .int tn, .int wa, .int dn, .ref (r 5), .ref (r 6), .ref (r 7), .int rs, .ref (r 8), .ref (r 9), .ref (r 10), .ref (r 11), .ref (r 12)])), (r 1, .inl (cI, 64, .inl kK)), (r 7, .inl (cB, 320, .inl g)), (r 9, .inl (cI, 8, .inl (km_h m q))), (r 10, .inl (cI, 8, .inl nw)), (r 11, .inl (cI, 64, .inl (upd v t 0)))] H := hP
      have hD : va_D A [(r 0, .inr (3, [.ref (r 1), .ref (r 2), .ref (r 3), .int zs, .ref (r 4), .int gs, .int st, .int tn, .int wa, .int dn, .ref (r 5), .ref (r 6), .ref (r 7), .int rs, .ref (r 8), .ref (r 9), .ref (r 10), .ref (r 11), .ref (r 12)])), (r 1, .inl (cI, 64, .inl kK)), (r 7, .inl (cB, 320, .inl g)), (r 9, .inl (cI, 8, .inl (km_h m q))), (r 10, .inl (cI, 8, .inl nw)), (r 11, .inl (cI, 64, .inl (upd v t 0)))] := hD
      refine lv_iconst (v := 0) hx hb d_Model_mix_21 (by decide) ?_
      refine lv_istore_n (lv' := [(3, .int 0), (2, .int (nI t)), (0, .ref (r 0)), (1, .int (nI (64 * q)))]) hx hb d_Model_mix_22 rfl hl (by decide) rfl (fun ls hl => ?_)
      refine xl (pc := 23) (I := fun NN ls H locs => ∃ (k : Nat) (v2 : Nat → Int32), 4 - k = NN ∧ lv_has ls 8 [(3, .int (nI k)), (2, .int (nI t)), (0, .ref (r 0)), (1, .int (nI (64 * q)))] ∧ va_P G classes [(r 0, .inr (3, [.ref (r 1), .ref (r 2), .ref (r 3), .int zs, .ref (r 4), .int gs, .int st, .int tn, .int wa, .int dn, .ref (r 5), .ref (r 6), .ref (r 7), .int rs, .ref (r 8), .ref (r 9), .ref (r 10), .ref (r 11), .ref (r 12)])), (r 1, .inl (cI, 64, .inl kK)), (r 7, .inl (cB, 320, .inl g)), (r 9, .inl (cI, 8, .inl (km_h m q))), (r 10, .inl (cI, 8, .inl nw)), (r 11, .inl (cI, 64, .inl v2))] H ∧ va_D A [(r 0, .inr (3, [.ref (r 1), .ref (r 2), .ref (r 3), .int zs, .ref (r 4), .int gs, .int st, .int tn, .int wa, .int dn, .ref (r 5), .ref (r 6), .ref (r 7), .int rs, .ref (r 8), .ref (r 9), .ref (r 10), .ref (r 11), .ref (r 12)])), (r 1, .inl (cI, 64, .inl kK)), (r 7, .inl (cB, 320, .inl g)), (r 9, .inl (cI, 8, .inl (km_h m q))), (r 10, .inl (cI, 8, .inl nw)), (r 11, .inl (cI, 64, .inl v2))] ∧ va_S A ss.heap H locs ∧ (k ≤ 4) ∧ (∀ j, j < t → v2 j = km_W (km_b m q) j) ∧ (v2 t = km_p m (64 * q + 4 * t) k)) [] ?_ _ _ _ _ ⟨0, upd v t 0, rfl, lv_sub hl [0, 1, 2, 3] rfl, hP, hD, hS, by omega, fun j hj => by rw [pk_un (by omega)]; exact hv j hj, pk_us⟩
      intro NN ih23 ls H locs hI
      obtain ⟨k, v2, hN, hl, hP, hD, hS, hk, hv2, hvt⟩ := hI
      refine lv_iload_n hx hb d_Model_mix_23 rfl (lv_at hl 0 rfl) ?_
      refine lv_iconst (v := 4) hx hb d_Model_mix_24 (by decide) ?_
      refine lv_icmp_ge (tgt := 67) hx hb d_Model_mix_25 (by decide) (fun hc36 => ?_) (fun hc36 => ?_)
      · have hc36 : 4 ≤ k := (nI_leI (a := 4) (b := k) (by omega) (by omega)).mp hc36
        refine lv_goto (tgt := 155) hx hb d_Model_mix_67 (by decide) ?_
        refine lv_iinc (k := 1) (v := nI (t + 1)) (lv' := [(2, .int (nI (t + 1))), (3, .int (nI k)), (0, .ref (r 0)), (1, .int (nI (64 * q)))]) hx hb d_Model_mix_155 hl rfl (nI_1 t) (by decide) rfl (fun ls hl => ?_)
        refine lv_goto (tgt := 2) hx hb d_Model_mix_158 (by decide) ?_
        exact ih2 _ (by omega) _ _ _ ⟨t + 1, v2, rfl, lv_sub hl [0, 2, 3] rfl, hP, hD, hS, by omega, km_b_W (by omega) hv2 (by rw [hvt, show k = 4 by omega])⟩
      · have hc36 : ¬ 4 ≤ k := fun z => hc36 ((nI_leI (a := 4) (b := k) (by omega) (by omega)).mpr z)
        refine lv_aload_n hx hb d_Model_mix_28 rfl (lv_at hl 2 rfl) ?_
        refine va_get (D := G) (ci := 3) (v := .ref (r 11)) (C := R_Model) (T := F_Model) (N := 19) hx hb hts hi_Model hown hK hP 0 rfl rfl 17 (by decide) (hts _ tw_316) (fun _ h9 => h9) rfl d_Model_mix_29 ?_
        refine lv_iload_n hx hb d_Model_mix_32 rfl (lv_at hl 1 rfl) ?_
        refine lv_aload_n hx hb d_Model_mix_33 rfl (lv_at hl 2 rfl) ?_
        refine va_get (D := G) (ci := 3) (v := .ref (r 11)) (C := R_Model) (T := F_Model) (N := 19) hx hb hts hi_Model hown hK hP 0 rfl rfl 17 (by decide) (hts _ tw_316) (fun _ h9 => h9) rfl d_Model_mix_34 ?_
        refine lv_iload_n hx hb d_Model_mix_37 rfl (lv_at hl 1 rfl) ?_
        refine xa_iald (k := t) (f := v2) hx hb hK hP 5 0 rfl rfl (by omega) (by omega) d_Model_mix_38 ?_
        refine lv_sipush (v := 256) hx hb d_Model_mix_39 (by decide) ?_
        refine lv_imul hx hb d_Model_mix_42 ?_
        refine lv_aload_n hx hb d_Model_mix_43 rfl (lv_at hl 2 rfl) ?_
        refine va_get (D := G) (ci := 3) (v := .ref (r 7)) (C := R_Model) (T := F_Model) (N := 19) hx hb hts hi_Model hown hK hP 0 rfl rfl 12 (by decide) (hts _ tw_311) (fun _ h9 => h9) rfl d_Model_mix_44 ?_
        refine lv_iload_n hx hb d_Model_mix_47 rfl (lv_at hl 3 rfl) ?_
        refine lv_iconst (v := 4) hx hb d_Model_mix_48 (by decide) ?_
        refine lv_iload_n hx hb d_Model_mix_49 rfl (lv_at hl 1 rfl) ?_
        refine lv_imul hx hb d_Model_mix_50 ?_
        refine lv_topi (fun y37 ey37 => ?_)
        obtain rfl : y37 = nI (4 * t) := ey37.trans (pk_mul 4 t)
        refine lv_iadd hx hb d_Model_mix_51 ?_
        refine lv_topi (fun y38 ey38 => ?_)
        obtain rfl : y38 = nI (64 * q + (4 * t)) := ey38.trans (nI_add (64 * q) (4 * t))
        refine lv_iload_n hx hb d_Model_mix_52 rfl (lv_at hl 0 rfl) ?_
        refine lv_iadd hx hb d_Model_mix_53 ?_
        refine lv_topi (fun y39 ey39 => ?_)
        obtain rfl : y39 = nI (64 * q + (4 * t) + k) := ey39.trans (nI_add (64 * q + (4 * t)) k)
        refine xa_bald (k := 64 * q + (4 * t) + k) (f := g) hx hb hK hP 2 1 rfl rfl (by omega) (by omega) d_Model_mix_54 ?_
        refine lv_sipush (v := 255) hx hb d_Model_mix_55 (by decide) ?_
        refine lv_iand hx hb d_Model_mix_58 ?_
        refine lv_topi (fun y40 ey40 => ?_)
        obtain rfl : y40 = m (64 * q + 4 * t + k) := ey40.trans (hg _ (by omega))
        refine lv_iadd hx hb d_Model_mix_59 ?_
        refine xa_iast (k := t) (f := v2) (x := ((v2 t) * 256) + (m (64 * q + 4 * t + k))) hx hb hK hP hD hS 5 0 rfl rfl (by omega) (by omega) d_Model_mix_60 (fun H locs hP hD hS => ?_)
        have hP : va_P G classes [(r 0, .inr (3, [.ref (r 1), .ref (r 2), .ref (r 3), .int zs, .ref (r 4), .int gs, .int st, .int tn, .int wa, .int dn, .ref (r 5), .ref (r 6), .ref (r 7), .int rs, .ref (r 8), .ref (r 9), .ref (r 10), .ref (r 11), .ref (r 12)])), (r 1, .inl (cI, 64, .inl kK)), (r 7, .inl (cB, 320, .inl g)), (r 9, .inl (cI, 8, .inl (km_h m q))), (r 10, .inl (cI, 8, .inl nw)), (r 11, .inl (cI, 64, .inl (upd v2 t (((v2 t) * 256) + (m (64 * q + 4 * t + k))))))] H := hP
        have hD : va_D A [(r 0, .inr (3, [.ref (r 1), .ref (r 2), .ref (r 3), .int zs, .ref (r 4), .int gs, .int st, .int tn, .int wa, .int dn, .ref (r 5), .ref (r 6), .ref (r 7), .int rs, .ref (r 8), .ref (r 9), .ref (r 10), .ref (r 11), .ref (r 12)])), (r 1, .inl (cI, 64, .inl kK)), (r 7, .inl (cB, 320, .inl g)), (r 9, .inl (cI, 8, .inl (km_h m q))), (r 10, .inl (cI, 8, .inl nw)), (r 11, .inl (cI, 64, .inl (upd v2 t (((v2 t) * 256) + (m (64 * q + 4 * t + k))))))] := hD
        refine lv_iinc (k := 0) (v := nI (k + 1)) (lv' := [(3, .int (nI (k + 1))), (2, .int (nI t)), (0, .ref (r 0)), (1, .int (nI (64 * q)))]) hx hb d_Model_mix_61 hl rfl (nI_1 k) (by decide) rfl (fun ls hl => ?_)
        refine lv_goto (tgt := 23) hx hb d_Model_mix_64 (by decide) ?_
        exact ih23 _ (by omega) _ _ _ ⟨k + 1, _, rfl, lv_sub hl [0, 1, 2, 3] rfl, hP, hD, hS, by omega, fun j hj => by rw [pk_un (by omega)]; exact hv2 j hj, by rw [pk_us, hvt]; rfl⟩
