set_option maxHeartbeats 4000000 in
set_option maxRecDepth 100000 in
theorem c_X2_remainder (l : Launch) (X : hX) (g : Nat) (M : hm) (a0 : Nat) (a1 : UInt64) (a3 : UInt64) (RR : UInt64) (hj : j_X2_remainder g M a0 a1 a3 = some RR) : Ct l X yX2_remainder cX2_remainder 17 (some .double) { frames := 1, cells := 0, slots := 0, locals := 29 } [.ref a0, .double a1, .double a3] M (qD X (M, RR)) := by
  refine h_enter (own := RX2) (by decide) rfl (Nat.le_of_ble_eq_true rfl) ?_
  intro p e s m below meth c ls cx hr hlocks hnm hP hS hl
  have hx := cx.1
  have hb := cx.2.1
  have hl : lv_has ls 17 [(0, .ref a0), (1, .double a1), (3, .double a3)] := hl
  unfold j_X2_remainder at hj
  have hgo : ∀ (H : Heap) (locs : List Loc), hp X M H → va_S (hA X) s.heap H locs → W p l e ({ frames := 1, cells := 0, slots := 0, locals := 29 } : Room) s m _ below meth c H locs 0 0 (MQ below (qD X (M, RR)) _ s 0 0 (hA X)) (F0 m 0 ls []) := by
    have J_188 : ∀ (s0 : UInt64) (H : Heap) (locs : List Loc) (ls : Array Slot), j_X2_remainder_188 g M s0 = some RR → hp X M H → va_S (hA X) s.heap H locs → lv_has ls 17 [] → W p l e ({ frames := 1, cells := 0, slots := 0, locals := 29 } : Room) s m _ below meth c H locs 0 0 (MQ below (qD X (M, RR)) _ s 0 0 (hA X)) (F0 m 188 ls [.double s0]) := by
      intro s0 H locs ls hj hP hS hl
      unfold j_X2_remainder_188 at hj
      exact t_D cx hr hlocks hP hS (congrArg (Prod.mk M) (Option.some.inj hj)) (Nat.le_of_ble_eq_true rfl) (Nat.le_of_ble_eq_true rfl) dX2_remainder_188
    have J_159 : ∀ (p0 : Nat) (p1 : UInt64) (p10 : Int32) (p13 : Int64) (H : Heap) (locs : List Loc) (ls : Array Slot), j_X2_remainder_159 g M p0 p1 p10 p13 = some RR → hp X M H → va_S (hA X) s.heap H locs → lv_has ls 17 [(0, .ref p0), (1, .double p1), (10, .int p10), (13, .long p13)] → W p l e ({ frames := 1, cells := 0, slots := 0, locals := 29 } : Room) s m _ below meth c H locs 0 0 (MQ below (qD X (M, RR)) _ s 0 0 (hA X)) (F0 m 159 ls []) := by
      intro p0 p1 p10 p13 H locs ls hj hP hS hl
      unfold j_X2_remainder_159 at hj
      refine lv_aload_n hx hb dX2_remainder_159 rfl (lv_at hl 0 rfl) ?_
      obtain ⟨v1, g_v1, hj⟩ := Option.bind_eq_some_iff.mp hj
      refine r_getR cx hP g_v1 iX2 rfl (by decide) mF_X2_12 dX2_remainder_160 ?_
      refine lv_lload hx hb dX2_remainder_163 (lv_at hl 3 rfl) ?_
      refine lv_l2d hx hb dX2_remainder_165 ?_
      refine lv_iload hx hb dX2_remainder_166 (lv_at hl 2 rfl) ?_
      obtain ⟨b2, e_b2, hj⟩ := Option.bind_eq_some_iff.mp hj
      subst e_b2
      obtain ⟨_, o3, hj⟩ := Option.bind_eq_some_iff.mp hj
      obtain ⟨v4, g_v4, hj⟩ := Option.bind_eq_some_iff.mp hj
      refine f_D (k_V (b := b2) (As := [.double (FP.l2d p13), .int p10]) (n := 2) (rest := []) cx hl.1 hP hS (c_X4_times l X g M b2 (FP.l2d p13) p10 v4 g_v4) o3 rfl mC_X4_times mM_X2_174 mI_X4_times mS_X4_times mZ_X4 (by decide +kernel) ⟨Nat.le_of_ble_eq_true rfl, Nat.le_of_ble_eq_true rfl⟩ rfl rfl (Nat.le_of_ble_eq_true rfl) dX2_remainder_168 ⟨Nat.le_of_ble_eq_true rfl, Nat.le_of_ble_eq_true rfl⟩) hS (fun H locs hP hS => ?_)
      have hP : hp X M H := hP
      refine W.eq (g2 := F0 m 171 ls [.double v4]) rfl ?_
      refine W.widen (k := 0) (n := 0) (Nat.le_of_ble_eq_true rfl) (Nat.le_of_ble_eq_true rfl) ?_
      refine lv_dstore (lv' := [(15, .double v4), (0, .ref p0), (1, .double p1), (10, .int p10), (13, .long p13)]) hx hb dX2_remainder_171 hl (by decide) rfl (fun ls hl => ?_)
      refine lv_dload_n hx hb dX2_remainder_173 rfl (lv_at hl 2 rfl) ?_
      obtain ⟨v5, g_v5, hj⟩ := Option.bind_eq_some_iff.mp hj
      refine f_I (k_N (As := [.double p1]) (n := 1) (rest := []) cx hl.1 hP hS (c_X5_hasMinus l X g M p1 v5 g_v5) mC_X5_hasMinus cx.2.2.2.2.2.1.2.1.1 mT_X5_hasMinus mZ_X5 (by decide +kernel) ⟨Nat.le_of_ble_eq_true rfl, Nat.le_of_ble_eq_true rfl⟩ rfl rfl (Nat.le_of_ble_eq_true rfl) dX2_remainder_174 ⟨Nat.le_of_ble_eq_true rfl, Nat.le_of_ble_eq_true rfl⟩) hS (fun H locs hP hS => ?_)
      have hP : hp X M H := hP
      refine W.eq (g2 := F0 m 177 ls [.int v5]) rfl ?_
      refine W.widen (k := 0) (n := 0) (Nat.le_of_ble_eq_true rfl) (Nat.le_of_ble_eq_true rfl) ?_
      refine lv_if_eq (tgt := 186) hx hb dX2_remainder_177 (by decide) (fun c6 => ?_) (fun c6 => ?_)
      · have hj := if_t c6 hj
        refine lv_dload hx hb dX2_remainder_186 (lv_at hl 0 rfl) ?_
        exact J_188 v4 H locs ls hj hP hS (lv_sub hl [] rfl)
      · have hj := if_f c6 hj
        refine lv_dload hx hb dX2_remainder_180 (lv_at hl 0 rfl) ?_
        refine lv_dneg hx hb dX2_remainder_182 ?_
        refine lv_goto (tgt := 188) hx hb dX2_remainder_183 (by decide) ?_
        exact J_188 (FP.dneg v4) H locs ls hj hP hS (lv_sub hl [] rfl)
    have L_119 : ∀ (n119 : Nat) (p0 : Nat) (p1 : UInt64) (p10 : Int32) (p11 : Int64) (p13 : Int64) (p15 : Int32) (H : Heap) (locs : List Loc) (ls : Array Slot), j_X2_remainder_119 g M n119 p0 p1 p10 p11 p13 p15 = some RR → hp X M H → va_S (hA X) s.heap H locs → lv_has ls 17 [(0, .ref p0), (1, .double p1), (10, .int p10), (11, .long p11), (13, .long p13), (15, .int p15)] → W p l e ({ frames := 1, cells := 0, slots := 0, locals := 29 } : Room) s m _ below meth c H locs 0 0 (MQ below (qD X (M, RR)) _ s 0 0 (hA X)) (F0 m 119 ls []) := by
      intro n119
      induction n119 with
      | zero =>
        intro p0 p1 p10 p11 p13 p15 H locs ls hj
        exact no_zero hj
      | succ n119 ih_119 =>
        have J_147 : ∀ (p0 : Nat) (p1 : UInt64) (p10 : Int32) (p11 : Int64) (p15 : Int32) (s0 : Int32) (s1 : Int64) (H : Heap) (locs : List Loc) (ls : Array Slot), j_X2_remainder_147 g (fun p0 p1 p10 p11 p13 p15 => j_X2_remainder_119 g M n119 p0 p1 p10 p11 p13 p15) M p0 p1 p10 p11 p15 s0 s1 = some RR → hp X M H → va_S (hA X) s.heap H locs → lv_has ls 17 [(0, .ref p0), (1, .double p1), (10, .int p10), (11, .long p11), (15, .int p15)] → W p l e ({ frames := 1, cells := 0, slots := 0, locals := 29 } : Room) s m _ below meth c H locs 0 0 (MQ below (qD X (M, RR)) _ s 0 0 (hA X)) (F0 m 147 ls [.int s0, .long s1]) := by
          intro p0 p1 p10 p11 p15 s0 s1 H locs ls hj hP hS hl
          unfold j_X2_remainder_147 at hj
          refine lv_lshl (v := (s1 <<< (s0.toInt64 &&& 63))) hx hb dX2_remainder_147 rfl ?_
          refine lv_lload hx hb dX2_remainder_148 (lv_at hl 3 rfl) ?_
          have c7 := if_n hj
          have hj := if_f c7 hj
          refine lv_lrem hx hb dX2_remainder_150 c7 ?_
          refine lv_lstore (lv' := [(13, .long ((s1 <<< (s0.toInt64 &&& 63)) - (s1 <<< (s0.toInt64 &&& 63)) / p11 * p11)), (0, .ref p0), (1, .double p1), (10, .int p10), (11, .long p11), (15, .int p15)]) hx hb dX2_remainder_151 hl (by decide) rfl (fun ls hl => ?_)
          refine lv_iinc (v := (p15 + (-10 : Int32))) (lv' := [(15, .int (p15 + (-10 : Int32))), (13, .long ((s1 <<< (s0.toInt64 &&& 63)) - (s1 <<< (s0.toInt64 &&& 63)) / p11 * p11)), (0, .ref p0), (1, .double p1), (10, .int p10), (11, .long p11)]) hx hb dX2_remainder_153 hl (k := 5) rfl rfl (by decide) rfl (fun ls hl => ?_)
          refine lv_goto (tgt := 119) hx hb dX2_remainder_156 (by decide) ?_
          exact ih_119 p0 p1 p10 p11 ((s1 <<< (s0.toInt64 &&& 63)) - (s1 <<< (s0.toInt64 &&& 63)) / p11 * p11) (p15 + (-10 : Int32)) H locs ls hj hP hS (lv_sub hl [2, 3, 4, 5, 1, 0] rfl)
        intro p0 p1 p10 p11 p13 p15 H locs ls hj hP hS hl
        rw [j_X2_remainder_119_s] at hj
        refine lv_iload hx hb dX2_remainder_119 (lv_at hl 5 rfl) ?_
        refine lv_if_le (tgt := 159) hx hb dX2_remainder_121 (by decide) (fun c8 => ?_) (fun c8 => ?_)
        · have hj := if_t c8 hj
          exact J_159 p0 p1 p10 p13 H locs ls hj hP hS (lv_sub hl [0, 1, 2, 4] rfl)
        · have hj := if_f c8 hj
          refine lv_lload hx hb dX2_remainder_124 (lv_at hl 4 rfl) ?_
          refine lv_lconst (v := 0) hx hb dX2_remainder_126 (by decide) ?_
          refine W.lcmp hx hb dX2_remainder_127 ?_
          refine lv_if_eq (tgt := 159) hx hb dX2_remainder_128 (by decide) (fun c9 => ?_) (fun c9 => ?_)
          · have hj := if_t c9 hj
            exact J_159 p0 p1 p10 p13 H locs ls hj hP hS (lv_sub hl [0, 1, 2, 4] rfl)
          · have hj := if_f c9 hj
            refine lv_lload hx hb dX2_remainder_131 (lv_at hl 4 rfl) ?_
            refine lv_iload hx hb dX2_remainder_133 (lv_at hl 5 rfl) ?_
            refine lv_bipush (v := 10) hx hb dX2_remainder_135 (by decide) ?_
            refine lv_icmp_ge (tgt := 145) hx hb dX2_remainder_137 (by decide) (fun c10 => ?_) (fun c10 => ?_)
            · have hj := if_t c10 hj
              refine lv_bipush (v := 10) hx hb dX2_remainder_145 (by decide) ?_
              exact J_147 p0 p1 p10 p11 p15 (10 : Int32) p13 H locs ls hj hP hS (lv_sub hl [0, 1, 2, 3, 5] rfl)
            · have hj := if_f c10 hj
              refine lv_iload hx hb dX2_remainder_140 (lv_at hl 5 rfl) ?_
              refine lv_goto (tgt := 147) hx hb dX2_remainder_142 (by decide) ?_
              exact J_147 p0 p1 p10 p11 p15 p15 p13 H locs ls hj hP hS (lv_sub hl [0, 1, 2, 3, 5] rfl)
    have J_44 : ∀ (p1 : UInt64) (H : Heap) (locs : List Loc) (ls : Array Slot), j_X2_remainder_44 g M p1 = some RR → hp X M H → va_S (hA X) s.heap H locs → lv_has ls 17 [(1, .double p1)] → W p l e ({ frames := 1, cells := 0, slots := 0, locals := 29 } : Room) s m _ below meth c H locs 0 0 (MQ below (qD X (M, RR)) _ s 0 0 (hA X)) (F0 m 44 ls []) := by
      intro p1 H locs ls hj hP hS hl
      unfold j_X2_remainder_44 at hj
      refine lv_dload_n hx hb dX2_remainder_44 rfl (lv_at hl 0 rfl) ?_
      exact t_D cx hr hlocks hP hS (congrArg (Prod.mk M) (Option.some.inj hj)) (Nat.le_of_ble_eq_true rfl) (Nat.le_of_ble_eq_true rfl) dX2_remainder_45
    have J_27 : ∀ (p0 : Nat) (p1 : UInt64) (p5 : UInt64) (s0 : UInt64) (H : Heap) (locs : List Loc) (ls : Array Slot), j_X2_remainder_27 g M p0 p1 p5 s0 = some RR → hp X M H → va_S (hA X) s.heap H locs → lv_has ls 17 [(0, .ref p0), (1, .double p1), (5, .double p5)] → W p l e ({ frames := 1, cells := 0, slots := 0, locals := 29 } : Room) s m _ below meth c H locs 0 0 (MQ below (qD X (M, RR)) _ s 0 0 (hA X)) (F0 m 27 ls [.double s0]) := by
      intro p0 p1 p5 s0 H locs ls hj hP hS hl
      unfold j_X2_remainder_27 at hj
      refine lv_dstore (lv' := [(7, .double s0), (0, .ref p0), (1, .double p1), (5, .double p5)]) hx hb dX2_remainder_27 hl (by decide) rfl (fun ls hl => ?_)
      refine lv_dload hx hb dX2_remainder_29 (lv_at hl 3 rfl) ?_
      refine lv_dload hx hb dX2_remainder_31 (lv_at hl 0 rfl) ?_
      refine lv_dcmp hx hb dX2_remainder_33 ?_
      refine lv_if_lt (tgt := 44) hx hb dX2_remainder_34 (by decide) (fun c11 => ?_) (fun c11 => ?_)
      · have hj := if_t c11 hj
        exact J_44 p1 H locs ls hj hP hS (lv_sub hl [2] rfl)
      · have hj := if_f c11 hj
        refine lv_dload hx hb dX2_remainder_37 (lv_at hl 3 rfl) ?_
        refine lv_dconst0 hx hb dX2_remainder_39 ?_
        refine lv_dcmp hx hb dX2_remainder_40 ?_
        refine lv_if_ne (tgt := 46) hx hb dX2_remainder_41 (by decide) (fun c12 => ?_) (fun c12 => ?_)
        · have hj := if_f c12 hj
          refine lv_aload_n hx hb dX2_remainder_46 rfl (lv_at hl 1 rfl) ?_
          obtain ⟨v13, g_v13, hj⟩ := Option.bind_eq_some_iff.mp hj
          refine r_getR cx hP g_v13 iX2 rfl (by decide) mF_X2_12 dX2_remainder_47 ?_
          refine lv_dload hx hb dX2_remainder_50 (lv_at hl 3 rfl) ?_
          refine lv_iconst (v := 0) hx hb dX2_remainder_52 (by decide) ?_
          obtain ⟨b14, e_b14, hj⟩ := Option.bind_eq_some_iff.mp hj
          subst e_b14
          obtain ⟨_, o15, hj⟩ := Option.bind_eq_some_iff.mp hj
          obtain ⟨v16, g_v16, hj⟩ := Option.bind_eq_some_iff.mp hj
          refine f_I (k_V (b := b14) (As := [.double p5, .int (0 : Int32)]) (n := 2) (rest := []) cx hl.1 hP hS (c_X4_unit l X g M b14 p5 (0 : Int32) v16 g_v16) o15 rfl mC_X4_unit mM_X2_170 mI_X4_unit mS_X4_unit mZ_X4 (by decide +kernel) ⟨Nat.le_of_ble_eq_true rfl, Nat.le_of_ble_eq_true rfl⟩ rfl rfl (Nat.le_of_ble_eq_true rfl) dX2_remainder_53 ⟨Nat.le_of_ble_eq_true rfl, Nat.le_of_ble_eq_true rfl⟩) hS (fun H locs hP hS => ?_)
          have hP : hp X M H := hP
          refine W.eq (g2 := F0 m 56 ls [.int v16]) rfl ?_
          refine W.widen (k := 0) (n := 0) (Nat.le_of_ble_eq_true rfl) (Nat.le_of_ble_eq_true rfl) ?_
          refine lv_istore (lv' := [(9, .int v16), (7, .double s0), (0, .ref p0), (1, .double p1), (5, .double p5)]) hx hb dX2_remainder_56 hl (by decide) rfl (fun ls hl => ?_)
          refine lv_aload_n hx hb dX2_remainder_58 rfl (lv_at hl 2 rfl) ?_
          obtain ⟨v17, g_v17, hj⟩ := Option.bind_eq_some_iff.mp hj
          refine r_getR cx hP g_v17 iX2 rfl (by decide) mF_X2_12 dX2_remainder_59 ?_
          refine lv_dload hx hb dX2_remainder_62 (lv_at hl 1 rfl) ?_
          refine lv_iconst (v := 0) hx hb dX2_remainder_64 (by decide) ?_
          obtain ⟨b18, e_b18, hj⟩ := Option.bind_eq_some_iff.mp hj
          subst e_b18
          obtain ⟨_, o19, hj⟩ := Option.bind_eq_some_iff.mp hj
          obtain ⟨v20, g_v20, hj⟩ := Option.bind_eq_some_iff.mp hj
          refine f_I (k_V (b := b18) (As := [.double s0, .int (0 : Int32)]) (n := 2) (rest := []) cx hl.1 hP hS (c_X4_unit l X g M b18 s0 (0 : Int32) v20 g_v20) o19 rfl mC_X4_unit mM_X2_170 mI_X4_unit mS_X4_unit mZ_X4 (by decide +kernel) ⟨Nat.le_of_ble_eq_true rfl, Nat.le_of_ble_eq_true rfl⟩ rfl rfl (Nat.le_of_ble_eq_true rfl) dX2_remainder_65 ⟨Nat.le_of_ble_eq_true rfl, Nat.le_of_ble_eq_true rfl⟩) hS (fun H locs hP hS => ?_)
          have hP : hp X M H := hP
          refine W.eq (g2 := F0 m 68 ls [.int v20]) rfl ?_
          refine W.widen (k := 0) (n := 0) (Nat.le_of_ble_eq_true rfl) (Nat.le_of_ble_eq_true rfl) ?_
          refine lv_istore (lv' := [(10, .int v20), (9, .int v16), (7, .double s0), (0, .ref p0), (1, .double p1), (5, .double p5)]) hx hb dX2_remainder_68 hl (by decide) rfl (fun ls hl => ?_)
          refine lv_aload_n hx hb dX2_remainder_70 rfl (lv_at hl 3 rfl) ?_
          obtain ⟨v21, g_v21, hj⟩ := Option.bind_eq_some_iff.mp hj
          refine r_getR cx hP g_v21 iX2 rfl (by decide) mF_X2_12 dX2_remainder_71 ?_
          refine lv_dload hx hb dX2_remainder_74 (lv_at hl 2 rfl) ?_
          refine lv_iload hx hb dX2_remainder_76 (lv_at hl 0 rfl) ?_
          refine lv_ineg hx hb dX2_remainder_78 ?_
          obtain ⟨b22, e_b22, hj⟩ := Option.bind_eq_some_iff.mp hj
          subst e_b22
          obtain ⟨_, o23, hj⟩ := Option.bind_eq_some_iff.mp hj
          obtain ⟨v24, g_v24, hj⟩ := Option.bind_eq_some_iff.mp hj
          refine f_D (k_V (b := b22) (As := [.double s0, .int (-v20)]) (n := 2) (rest := []) cx hl.1 hP hS (c_X4_times l X g M b22 s0 (-v20) v24 g_v24) o23 rfl mC_X4_times mM_X2_174 mI_X4_times mS_X4_times mZ_X4 (by decide +kernel) ⟨Nat.le_of_ble_eq_true rfl, Nat.le_of_ble_eq_true rfl⟩ rfl rfl (Nat.le_of_ble_eq_true rfl) dX2_remainder_79 ⟨Nat.le_of_ble_eq_true rfl, Nat.le_of_ble_eq_true rfl⟩) hS (fun H locs hP hS => ?_)
          have hP : hp X M H := hP
          refine W.eq (g2 := F0 m 82 ls [.double v24]) rfl ?_
          refine W.widen (k := 0) (n := 0) (Nat.le_of_ble_eq_true rfl) (Nat.le_of_ble_eq_true rfl) ?_
          refine lv_d2l hx hb dX2_remainder_82 ?_
          refine lv_lstore (lv' := [(11, .long (FP.d2l v24)), (10, .int v20), (9, .int v16), (7, .double s0), (0, .ref p0), (1, .double p1), (5, .double p5)]) hx hb dX2_remainder_83 hl (by decide) rfl (fun ls hl => ?_)
          refine lv_lload hx hb dX2_remainder_85 (lv_at hl 0 rfl) ?_
          refine lv_lconst (v := 0) hx hb dX2_remainder_87 (by decide) ?_
          refine W.lcmp hx hb dX2_remainder_88 ?_
          refine lv_if_gt (tgt := 94) hx hb dX2_remainder_89 (by decide) (fun c25 => ?_) (fun c25 => ?_)
          · have hj := if_t c25 hj
            refine lv_aload_n hx hb dX2_remainder_94 rfl (lv_at hl 4 rfl) ?_
            obtain ⟨v26, g_v26, hj⟩ := Option.bind_eq_some_iff.mp hj
            refine r_getR cx hP g_v26 iX2 rfl (by decide) mF_X2_12 dX2_remainder_95 ?_
            refine lv_dload hx hb dX2_remainder_98 (lv_at hl 6 rfl) ?_
            refine lv_iload hx hb dX2_remainder_100 (lv_at hl 2 rfl) ?_
            refine lv_ineg hx hb dX2_remainder_102 ?_
            obtain ⟨b27, e_b27, hj⟩ := Option.bind_eq_some_iff.mp hj
            subst e_b27
            obtain ⟨_, o28, hj⟩ := Option.bind_eq_some_iff.mp hj
            obtain ⟨v29, g_v29, hj⟩ := Option.bind_eq_some_iff.mp hj
            refine f_D (k_V (b := b27) (As := [.double p5, .int (-v16)]) (n := 2) (rest := []) cx hl.1 hP hS (c_X4_times l X g M b27 p5 (-v16) v29 g_v29) o28 rfl mC_X4_times mM_X2_174 mI_X4_times mS_X4_times mZ_X4 (by decide +kernel) ⟨Nat.le_of_ble_eq_true rfl, Nat.le_of_ble_eq_true rfl⟩ rfl rfl (Nat.le_of_ble_eq_true rfl) dX2_remainder_103 ⟨Nat.le_of_ble_eq_true rfl, Nat.le_of_ble_eq_true rfl⟩) hS (fun H locs hP hS => ?_)
            have hP : hp X M H := hP
            refine W.eq (g2 := F0 m 106 ls [.double v29]) rfl ?_
            refine W.widen (k := 0) (n := 0) (Nat.le_of_ble_eq_true rfl) (Nat.le_of_ble_eq_true rfl) ?_
            refine lv_d2l hx hb dX2_remainder_106 ?_
            refine lv_lload hx hb dX2_remainder_107 (lv_at hl 0 rfl) ?_
            have c30 := if_n hj
            have hj := if_f c30 hj
            refine lv_lrem hx hb dX2_remainder_109 c30 ?_
            refine lv_lstore (lv' := [(13, .long ((FP.d2l v29) - (FP.d2l v29) / (FP.d2l v24) * (FP.d2l v24))), (11, .long (FP.d2l v24)), (10, .int v20), (9, .int v16), (7, .double s0), (0, .ref p0), (1, .double p1), (5, .double p5)]) hx hb dX2_remainder_110 hl (by decide) rfl (fun ls hl => ?_)
            refine lv_iload hx hb dX2_remainder_112 (lv_at hl 3 rfl) ?_
            refine lv_iload hx hb dX2_remainder_114 (lv_at hl 2 rfl) ?_
            refine lv_isub hx hb dX2_remainder_116 ?_
            refine lv_istore (lv' := [(15, .int (v16 - v20)), (13, .long ((FP.d2l v29) - (FP.d2l v29) / (FP.d2l v24) * (FP.d2l v24))), (11, .long (FP.d2l v24)), (10, .int v20), (9, .int v16), (7, .double s0), (0, .ref p0), (1, .double p1), (5, .double p5)]) hx hb dX2_remainder_117 hl (by decide) rfl (fun ls hl => ?_)
            exact L_119 g p0 p1 v20 (FP.d2l v24) ((FP.d2l v29) - (FP.d2l v29) / (FP.d2l v24) * (FP.d2l v24)) (v16 - v20) H locs ls hj hP hS (lv_sub hl [6, 7, 3, 2, 1, 0] rfl)
          · have hj := if_f c25 hj
            refine lv_dload_n hx hb dX2_remainder_92 rfl (lv_at hl 5 rfl) ?_
            exact t_D cx hr hlocks hP hS (congrArg (Prod.mk M) (Option.some.inj hj)) (Nat.le_of_ble_eq_true rfl) (Nat.le_of_ble_eq_true rfl) dX2_remainder_93
        · have hj := if_t c12 hj
          exact J_44 p1 H locs ls hj hP hS (lv_sub hl [2] rfl)
    have J_13 : ∀ (p0 : Nat) (p1 : UInt64) (p3 : UInt64) (s0 : UInt64) (H : Heap) (locs : List Loc) (ls : Array Slot), j_X2_remainder_13 g M p0 p1 p3 s0 = some RR → hp X M H → va_S (hA X) s.heap H locs → lv_has ls 17 [(0, .ref p0), (1, .double p1), (3, .double p3)] → W p l e ({ frames := 1, cells := 0, slots := 0, locals := 29 } : Room) s m _ below meth c H locs 0 0 (MQ below (qD X (M, RR)) _ s 0 0 (hA X)) (F0 m 13 ls [.double s0]) := by
      intro p0 p1 p3 s0 H locs ls hj hP hS hl
      unfold j_X2_remainder_13 at hj
      refine lv_dstore (lv' := [(5, .double s0), (0, .ref p0), (1, .double p1), (3, .double p3)]) hx hb dX2_remainder_13 hl (by decide) rfl (fun ls hl => ?_)
      refine lv_dload_n hx hb dX2_remainder_15 rfl (lv_at hl 3 rfl) ?_
      refine lv_dconst0 hx hb dX2_remainder_16 ?_
      refine lv_dcmp hx hb dX2_remainder_17 ?_
      refine lv_if_ge (tgt := 26) hx hb dX2_remainder_18 (by decide) (fun c31 => ?_) (fun c31 => ?_)
      · have hj := if_t c31 hj
        refine lv_dload_n hx hb dX2_remainder_26 rfl (lv_at hl 3 rfl) ?_
        exact J_27 p0 p1 s0 p3 H locs ls hj hP hS (lv_sub hl [1, 2, 0] rfl)
      · have hj := if_f c31 hj
        refine lv_dload_n hx hb dX2_remainder_21 rfl (lv_at hl 3 rfl) ?_
        refine lv_dneg hx hb dX2_remainder_22 ?_
        refine lv_goto (tgt := 27) hx hb dX2_remainder_23 (by decide) ?_
        exact J_27 p0 p1 s0 (FP.dneg p3) H locs ls hj hP hS (lv_sub hl [1, 2, 0] rfl)
    intro H locs hP hS
    refine lv_dload_n hx hb dX2_remainder_0 rfl (lv_at hl 1 rfl) ?_
    obtain ⟨v32, g_v32, hj⟩ := Option.bind_eq_some_iff.mp hj
    refine f_I (k_N (As := [.double a1]) (n := 1) (rest := []) cx hl.1 hP hS (c_X5_hasMinus l X g M a1 v32 g_v32) mC_X5_hasMinus cx.2.2.2.2.2.1.2.1.1 mT_X5_hasMinus mZ_X5 (by decide +kernel) ⟨Nat.le_of_ble_eq_true rfl, Nat.le_of_ble_eq_true rfl⟩ rfl rfl (Nat.le_of_ble_eq_true rfl) dX2_remainder_1 ⟨Nat.le_of_ble_eq_true rfl, Nat.le_of_ble_eq_true rfl⟩) hS (fun H locs hP hS => ?_)
    have hP : hp X M H := hP
    refine W.eq (g2 := F0 m 4 ls [.int v32]) rfl ?_
    refine W.widen (k := 0) (n := 0) (Nat.le_of_ble_eq_true rfl) (Nat.le_of_ble_eq_true rfl) ?_
    refine lv_if_eq (tgt := 12) hx hb dX2_remainder_4 (by decide) (fun c33 => ?_) (fun c33 => ?_)
    · have hj := if_t c33 hj
      refine lv_dload_n hx hb dX2_remainder_12 rfl (lv_at hl 1 rfl) ?_
      exact J_13 a0 a1 a3 a1 H locs ls hj hP hS (lv_sub hl [0, 1, 2] rfl)
    · have hj := if_f c33 hj
      refine lv_dload_n hx hb dX2_remainder_7 rfl (lv_at hl 1 rfl) ?_
      refine lv_dneg hx hb dX2_remainder_8 ?_
      refine lv_goto (tgt := 13) hx hb dX2_remainder_9 (by decide) ?_
      exact J_13 a0 a1 a3 (FP.dneg a1) H locs ls hj hP hS (lv_sub hl [0, 1, 2] rfl)
  exact hgo _ _ hP hS
set_option maxHeartbeats 4000000 in
set_option maxRecDepth 100000 in
theorem c_X2_ofTwo (l : Launch) (X : hX) (g : Nat) (M : hm) (a0 : Nat) (a1 : Int32) (a2 : UInt64) (a4 : UInt64) (RR : UInt64) (hj : j_X2_ofTwo g M a0 a1 a2 a4 = some RR) : Ct l X yX2_ofTwo cX2_ofTwo 6 (some .double) { frames := 2, cells := 0, slots := 0, locals := 65 } [.ref a0, .int a1, .double a2, .double a4] M (qD X (M, RR)) := by
  refine h_enter (own := RX2) (by decide) rfl (Nat.le_of_ble_eq_true rfl) ?_
  intro p e s m below meth c ls cx hr hlocks hnm hP hS hl
  have hx := cx.1
  have hb := cx.2.1
  have hl : lv_has ls 6 [(0, .ref a0), (1, .int a1), (2, .double a2), (4, .double a4)] := hl
  unfold j_X2_ofTwo at hj
  have hgo : ∀ (H : Heap) (locs : List Loc), hp X M H → va_S (hA X) s.heap H locs → W p l e ({ frames := 2, cells := 0, slots := 0, locals := 65 } : Room) s m _ below meth c H locs 0 0 (MQ below (qD X (M, RR)) _ s 0 0 (hA X)) (F0 m 0 ls []) := by
    have J_139 : ∀ (s0 : UInt64) (H : Heap) (locs : List Loc) (ls : Array Slot), j_X2_ofTwo_139 g M s0 = some RR → hp X M H → va_S (hA X) s.heap H locs → lv_has ls 6 [] → W p l e ({ frames := 2, cells := 0, slots := 0, locals := 65 } : Room) s m _ below meth c H locs 0 0 (MQ below (qD X (M, RR)) _ s 0 0 (hA X)) (F0 m 139 ls [.double s0]) := by
      intro s0 H locs ls hj hP hS hl
      unfold j_X2_ofTwo_139 at hj
      exact t_D cx hr hlocks hP hS (congrArg (Prod.mk M) (Option.some.inj hj)) (Nat.le_of_ble_eq_true rfl) (Nat.le_of_ble_eq_true rfl) dX2_ofTwo_139
    have J_120 : ∀ (s0 : UInt64) (H : Heap) (locs : List Loc) (ls : Array Slot), j_X2_ofTwo_120 g M s0 = some RR → hp X M H → va_S (hA X) s.heap H locs → lv_has ls 6 [] → W p l e ({ frames := 2, cells := 0, slots := 0, locals := 65 } : Room) s m _ below meth c H locs 0 0 (MQ below (qD X (M, RR)) _ s 0 0 (hA X)) (F0 m 120 ls [.double s0]) := by
      intro s0 H locs ls hj hP hS hl
      unfold j_X2_ofTwo_120 at hj
      exact t_D cx hr hlocks hP hS (congrArg (Prod.mk M) (Option.some.inj hj)) (Nat.le_of_ble_eq_true rfl) (Nat.le_of_ble_eq_true rfl) dX2_ofTwo_120
    have J_104 : ∀ (s0 : UInt64) (H : Heap) (locs : List Loc) (ls : Array Slot), j_X2_ofTwo_104 g M s0 = some RR → hp X M H → va_S (hA X) s.heap H locs → lv_has ls 6 [] → W p l e ({ frames := 2, cells := 0, slots := 0, locals := 65 } : Room) s m _ below meth c H locs 0 0 (MQ below (qD X (M, RR)) _ s 0 0 (hA X)) (F0 m 104 ls [.double s0]) := by
      intro s0 H locs ls hj hP hS hl
      unfold j_X2_ofTwo_104 at hj
      exact t_D cx hr hlocks hP hS (congrArg (Prod.mk M) (Option.some.inj hj)) (Nat.le_of_ble_eq_true rfl) (Nat.le_of_ble_eq_true rfl) dX2_ofTwo_104
    intro H locs hP hS
    refine lv_iload_n hx hb dX2_ofTwo_0 rfl (lv_at hl 1 rfl) ?_
    by_cases c1 : a1 = (9 : Int32)
    · have hj := if_t c1 hj
      refine lv_tableIn (off := 47) (tgt := 48) hx hb dX2_ofTwo_1 (by rw [c1]; decide) (by rw [c1]; decide) (by rw [c1]; decide) (by decide) ?_
      refine lv_aload_n hx hb dX2_ofTwo_48 rfl (lv_at hl 0 rfl) ?_
      refine lv_dload_n hx hb dX2_ofTwo_49 rfl (lv_at hl 2 rfl) ?_
      refine lv_dload hx hb dX2_ofTwo_50 (lv_at hl 3 rfl) ?_
      obtain ⟨_, o9, hj⟩ := Option.bind_eq_some_iff.mp hj
      obtain ⟨v10, g_v10, hj⟩ := Option.bind_eq_some_iff.mp hj
      refine f_D (k_V (b := a0) (As := [.double a2, .double a4]) (n := 2) (rest := []) cx hl.1 hP hS (c_X2_sum l X g M a0 a2 a4 v10 g_v10) o9 rfl mC_X2_sum mM_X2_130 mI_X2_sum mS_X2_sum mZ_X2 (by decide +kernel) ⟨Nat.le_of_ble_eq_true rfl, Nat.le_of_ble_eq_true rfl⟩ rfl rfl (Nat.le_of_ble_eq_true rfl) dX2_ofTwo_52 ⟨Nat.le_of_ble_eq_true rfl, Nat.le_of_ble_eq_true rfl⟩) hS (fun H locs hP hS => ?_)
      have hP : hp X M H := hP
      refine W.eq (g2 := F0 m 55 ls [.double v10]) rfl ?_
      refine W.widen (k := 0) (n := 0) (Nat.le_of_ble_eq_true rfl) (Nat.le_of_ble_eq_true rfl) ?_
      exact t_D cx hr hlocks hP hS (congrArg (Prod.mk M) (Option.some.inj hj)) (Nat.le_of_ble_eq_true rfl) (Nat.le_of_ble_eq_true rfl) dX2_ofTwo_55
    have hj := if_f c1 hj
    by_cases c2 : a1 = (10 : Int32)
    · have hj := if_t c2 hj
      refine lv_tableIn (off := 55) (tgt := 56) hx hb dX2_ofTwo_1 (by rw [c2]; decide) (by rw [c2]; decide) (by rw [c2]; decide) (by decide) ?_
      refine lv_aload_n hx hb dX2_ofTwo_56 rfl (lv_at hl 0 rfl) ?_
      refine lv_dload_n hx hb dX2_ofTwo_57 rfl (lv_at hl 2 rfl) ?_
      refine lv_dload hx hb dX2_ofTwo_58 (lv_at hl 3 rfl) ?_
      refine lv_dneg hx hb dX2_ofTwo_60 ?_
      obtain ⟨_, o11, hj⟩ := Option.bind_eq_some_iff.mp hj
      obtain ⟨v12, g_v12, hj⟩ := Option.bind_eq_some_iff.mp hj
      refine f_D (k_V (b := a0) (As := [.double a2, .double (FP.dneg a4)]) (n := 2) (rest := []) cx hl.1 hP hS (c_X2_sum l X g M a0 a2 (FP.dneg a4) v12 g_v12) o11 rfl mC_X2_sum mM_X2_130 mI_X2_sum mS_X2_sum mZ_X2 (by decide +kernel) ⟨Nat.le_of_ble_eq_true rfl, Nat.le_of_ble_eq_true rfl⟩ rfl rfl (Nat.le_of_ble_eq_true rfl) dX2_ofTwo_61 ⟨Nat.le_of_ble_eq_true rfl, Nat.le_of_ble_eq_true rfl⟩) hS (fun H locs hP hS => ?_)
      have hP : hp X M H := hP
      refine W.eq (g2 := F0 m 64 ls [.double v12]) rfl ?_
      refine W.widen (k := 0) (n := 0) (Nat.le_of_ble_eq_true rfl) (Nat.le_of_ble_eq_true rfl) ?_
      exact t_D cx hr hlocks hP hS (congrArg (Prod.mk M) (Option.some.inj hj)) (Nat.le_of_ble_eq_true rfl) (Nat.le_of_ble_eq_true rfl) dX2_ofTwo_64
    have hj := if_f c2 hj
    by_cases c3 : a1 = (11 : Int32)
    · have hj := if_t c3 hj
      refine lv_tableIn (off := 64) (tgt := 65) hx hb dX2_ofTwo_1 (by rw [c3]; decide) (by rw [c3]; decide) (by rw [c3]; decide) (by decide) ?_
      refine lv_aload_n hx hb dX2_ofTwo_65 rfl (lv_at hl 0 rfl) ?_
      refine lv_dload_n hx hb dX2_ofTwo_66 rfl (lv_at hl 2 rfl) ?_
      refine lv_dload hx hb dX2_ofTwo_67 (lv_at hl 3 rfl) ?_
      obtain ⟨_, o13, hj⟩ := Option.bind_eq_some_iff.mp hj
      obtain ⟨v14, g_v14, hj⟩ := Option.bind_eq_some_iff.mp hj
      refine f_D (k_V (b := a0) (As := [.double a2, .double a4]) (n := 2) (rest := []) cx hl.1 hP hS (c_X2_product l X g M a0 a2 a4 v14 g_v14) o13 rfl mC_X2_product mM_X2_151 mI_X2_product mS_X2_product mZ_X2 (by decide +kernel) ⟨Nat.le_of_ble_eq_true rfl, Nat.le_of_ble_eq_true rfl⟩ rfl rfl (Nat.le_of_ble_eq_true rfl) dX2_ofTwo_69 ⟨Nat.le_of_ble_eq_true rfl, Nat.le_of_ble_eq_true rfl⟩) hS (fun H locs hP hS => ?_)
      have hP : hp X M H := hP
      refine W.eq (g2 := F0 m 72 ls [.double v14]) rfl ?_
      refine W.widen (k := 0) (n := 0) (Nat.le_of_ble_eq_true rfl) (Nat.le_of_ble_eq_true rfl) ?_
      exact t_D cx hr hlocks hP hS (congrArg (Prod.mk M) (Option.some.inj hj)) (Nat.le_of_ble_eq_true rfl) (Nat.le_of_ble_eq_true rfl) dX2_ofTwo_72
    have hj := if_f c3 hj
    by_cases c4 : a1 = (12 : Int32)
    · have hj := if_t c4 hj
      refine lv_tableIn (off := 72) (tgt := 73) hx hb dX2_ofTwo_1 (by rw [c4]; decide) (by rw [c4]; decide) (by rw [c4]; decide) (by decide) ?_
      refine lv_aload_n hx hb dX2_ofTwo_73 rfl (lv_at hl 0 rfl) ?_
      refine lv_dload_n hx hb dX2_ofTwo_74 rfl (lv_at hl 2 rfl) ?_
      refine lv_dload hx hb dX2_ofTwo_75 (lv_at hl 3 rfl) ?_
      obtain ⟨_, o15, hj⟩ := Option.bind_eq_some_iff.mp hj
      obtain ⟨v16, g_v16, hj⟩ := Option.bind_eq_some_iff.mp hj
      refine f_D (k_V (b := a0) (As := [.double a2, .double a4]) (n := 2) (rest := []) cx hl.1 hP hS (c_X2_quotient l X g M a0 a2 a4 v16 g_v16) o15 rfl mC_X2_quotient mM_X2_148 mI_X2_quotient mS_X2_quotient mZ_X2 (by decide +kernel) ⟨Nat.le_of_ble_eq_true rfl, Nat.le_of_ble_eq_true rfl⟩ rfl rfl (Nat.le_of_ble_eq_true rfl) dX2_ofTwo_77 ⟨Nat.le_of_ble_eq_true rfl, Nat.le_of_ble_eq_true rfl⟩) hS (fun H locs hP hS => ?_)
      have hP : hp X M H := hP
      refine W.eq (g2 := F0 m 80 ls [.double v16]) rfl ?_
      refine W.widen (k := 0) (n := 0) (Nat.le_of_ble_eq_true rfl) (Nat.le_of_ble_eq_true rfl) ?_
      exact t_D cx hr hlocks hP hS (congrArg (Prod.mk M) (Option.some.inj hj)) (Nat.le_of_ble_eq_true rfl) (Nat.le_of_ble_eq_true rfl) dX2_ofTwo_80
    have hj := if_f c4 hj
    by_cases c5 : a1 = (13 : Int32)
    · have hj := if_t c5 hj
      refine lv_tableIn (off := 80) (tgt := 81) hx hb dX2_ofTwo_1 (by rw [c5]; decide) (by rw [c5]; decide) (by rw [c5]; decide) (by decide) ?_
      refine lv_aload_n hx hb dX2_ofTwo_81 rfl (lv_at hl 0 rfl) ?_
      refine lv_dload_n hx hb dX2_ofTwo_82 rfl (lv_at hl 2 rfl) ?_
      refine lv_dload hx hb dX2_ofTwo_83 (lv_at hl 3 rfl) ?_
      obtain ⟨_, o17, hj⟩ := Option.bind_eq_some_iff.mp hj
      obtain ⟨v18, g_v18, hj⟩ := Option.bind_eq_some_iff.mp hj
      refine f_D (k_V (b := a0) (As := [.double a2, .double a4]) (n := 2) (rest := []) cx hl.1 hP hS (c_X2_remainder l X g M a0 a2 a4 v18 g_v18) o17 rfl mC_X2_remainder mM_X2_154 mI_X2_remainder mS_X2_remainder mZ_X2 (by decide +kernel) ⟨Nat.le_of_ble_eq_true rfl, Nat.le_of_ble_eq_true rfl⟩ rfl rfl (Nat.le_of_ble_eq_true rfl) dX2_ofTwo_85 ⟨Nat.le_of_ble_eq_true rfl, Nat.le_of_ble_eq_true rfl⟩) hS (fun H locs hP hS => ?_)
      have hP : hp X M H := hP
      refine W.eq (g2 := F0 m 88 ls [.double v18]) rfl ?_
      refine W.widen (k := 0) (n := 0) (Nat.le_of_ble_eq_true rfl) (Nat.le_of_ble_eq_true rfl) ?_
      exact t_D cx hr hlocks hP hS (congrArg (Prod.mk M) (Option.some.inj hj)) (Nat.le_of_ble_eq_true rfl) (Nat.le_of_ble_eq_true rfl) dX2_ofTwo_88
    have hj := if_f c5 hj
    by_cases c6 : a1 = (14 : Int32)
    · have hj := if_t c6 hj
      refine lv_tableIn (off := 88) (tgt := 89) hx hb dX2_ofTwo_1 (by rw [c6]; decide) (by rw [c6]; decide) (by rw [c6]; decide) (by decide) ?_
      refine lv_dload hx hb dX2_ofTwo_89 (lv_at hl 3 rfl) ?_
      refine lv_dload_n hx hb dX2_ofTwo_91 rfl (lv_at hl 2 rfl) ?_
      obtain ⟨v19, g_v19, hj⟩ := Option.bind_eq_some_iff.mp hj
      refine f_I (k_S (As := [.double a4, .double a2]) (n := 2) (rest := []) cx hl.1 hP hS (c_X2_comesBefore l X g M a4 a2 v19 g_v19) mC_X2_comesBefore mM_X2_157 mT_X2_comesBefore mZ_X2 (by decide +kernel) ⟨Nat.le_of_ble_eq_true rfl, Nat.le_of_ble_eq_true rfl⟩ rfl rfl (Nat.le_of_ble_eq_true rfl) dX2_ofTwo_92 ⟨Nat.le_of_ble_eq_true rfl, Nat.le_of_ble_eq_true rfl⟩) hS (fun H locs hP hS => ?_)
      have hP : hp X M H := hP
      refine W.eq (g2 := F0 m 95 ls [.int v19]) rfl ?_
      refine W.widen (k := 0) (n := 0) (Nat.le_of_ble_eq_true rfl) (Nat.le_of_ble_eq_true rfl) ?_
      refine lv_if_eq (tgt := 103) hx hb dX2_ofTwo_95 (by decide) (fun c20 => ?_) (fun c20 => ?_)
      · have hj := if_t c20 hj
        refine lv_dload_n hx hb dX2_ofTwo_103 rfl (lv_at hl 2 rfl) ?_
        exact J_104 a2 H locs ls hj hP hS (lv_sub hl [] rfl)
      · have hj := if_f c20 hj
        refine lv_dload hx hb dX2_ofTwo_98 (lv_at hl 3 rfl) ?_
        refine lv_goto (tgt := 104) hx hb dX2_ofTwo_100 (by decide) ?_
        exact J_104 a4 H locs ls hj hP hS (lv_sub hl [] rfl)
    have hj := if_f c6 hj
    by_cases c7 : a1 = (15 : Int32)
    · have hj := if_t c7 hj
      refine lv_tableIn (off := 104) (tgt := 105) hx hb dX2_ofTwo_1 (by rw [c7]; decide) (by rw [c7]; decide) (by rw [c7]; decide) (by decide) ?_
      refine lv_dload hx hb dX2_ofTwo_105 (lv_at hl 3 rfl) ?_
      refine lv_dload_n hx hb dX2_ofTwo_107 rfl (lv_at hl 2 rfl) ?_
      obtain ⟨v21, g_v21, hj⟩ := Option.bind_eq_some_iff.mp hj
      refine f_I (k_S (As := [.double a4, .double a2]) (n := 2) (rest := []) cx hl.1 hP hS (c_X2_comesBefore l X g M a4 a2 v21 g_v21) mC_X2_comesBefore mM_X2_157 mT_X2_comesBefore mZ_X2 (by decide +kernel) ⟨Nat.le_of_ble_eq_true rfl, Nat.le_of_ble_eq_true rfl⟩ rfl rfl (Nat.le_of_ble_eq_true rfl) dX2_ofTwo_108 ⟨Nat.le_of_ble_eq_true rfl, Nat.le_of_ble_eq_true rfl⟩) hS (fun H locs hP hS => ?_)
      have hP : hp X M H := hP
      refine W.eq (g2 := F0 m 111 ls [.int v21]) rfl ?_
      refine W.widen (k := 0) (n := 0) (Nat.le_of_ble_eq_true rfl) (Nat.le_of_ble_eq_true rfl) ?_
      refine lv_if_eq (tgt := 118) hx hb dX2_ofTwo_111 (by decide) (fun c22 => ?_) (fun c22 => ?_)
      · have hj := if_t c22 hj
        refine lv_dload hx hb dX2_ofTwo_118 (lv_at hl 3 rfl) ?_
        exact J_120 a4 H locs ls hj hP hS (lv_sub hl [] rfl)
      · have hj := if_f c22 hj
        refine lv_dload_n hx hb dX2_ofTwo_114 rfl (lv_at hl 2 rfl) ?_
        refine lv_goto (tgt := 120) hx hb dX2_ofTwo_115 (by decide) ?_
        exact J_120 a2 H locs ls hj hP hS (lv_sub hl [] rfl)
    have hj := if_f c7 hj
    by_cases c8 : a1 = (16 : Int32)
    · have hj := if_t c8 hj
      refine lv_tableIn (off := 120) (tgt := 121) hx hb dX2_ofTwo_1 (by rw [c8]; decide) (by rw [c8]; decide) (by rw [c8]; decide) (by decide) ?_
      refine lv_dload_n hx hb dX2_ofTwo_121 rfl (lv_at hl 2 rfl) ?_
      obtain ⟨v23, g_v23, hj⟩ := Option.bind_eq_some_iff.mp hj
      refine f_I (k_N (As := [.double a2]) (n := 1) (rest := []) cx hl.1 hP hS (c_X5_hasMinus l X g M a2 v23 g_v23) mC_X5_hasMinus cx.2.2.2.2.2.1.2.1.1 mT_X5_hasMinus mZ_X5 (by decide +kernel) ⟨Nat.le_of_ble_eq_true rfl, Nat.le_of_ble_eq_true rfl⟩ rfl rfl (Nat.le_of_ble_eq_true rfl) dX2_ofTwo_122 ⟨Nat.le_of_ble_eq_true rfl, Nat.le_of_ble_eq_true rfl⟩) hS (fun H locs hP hS => ?_)
      have hP : hp X M H := hP
      refine W.eq (g2 := F0 m 125 ls [.int v23]) rfl ?_
      refine W.widen (k := 0) (n := 0) (Nat.le_of_ble_eq_true rfl) (Nat.le_of_ble_eq_true rfl) ?_
      refine lv_dload hx hb dX2_ofTwo_125 (lv_at hl 3 rfl) ?_
      obtain ⟨v24, g_v24, hj⟩ := Option.bind_eq_some_iff.mp hj
      refine f_I (k_N (As := [.double a4]) (n := 1) (rest := [.int v23]) cx hl.1 hP hS (c_X5_hasMinus l X g M a4 v24 g_v24) mC_X5_hasMinus cx.2.2.2.2.2.1.2.1.1 mT_X5_hasMinus mZ_X5 (by decide +kernel) ⟨Nat.le_of_ble_eq_true rfl, Nat.le_of_ble_eq_true rfl⟩ rfl rfl (Nat.le_of_ble_eq_true rfl) dX2_ofTwo_127 ⟨Nat.le_of_ble_eq_true rfl, Nat.le_of_ble_eq_true rfl⟩) hS (fun H locs hP hS => ?_)
      have hP : hp X M H := hP
      refine W.eq (g2 := F0 m 130 ls [.int v24, .int v23]) rfl ?_
      refine W.widen (k := 0) (n := 0) (Nat.le_of_ble_eq_true rfl) (Nat.le_of_ble_eq_true rfl) ?_
      refine lv_icmp_ne (tgt := 137) hx hb dX2_ofTwo_130 (by decide) (fun c25 => ?_) (fun c25 => ?_)
      · have hj := if_f c25 hj
        refine lv_dload_n hx hb dX2_ofTwo_137 rfl (lv_at hl 2 rfl) ?_
        refine lv_dneg hx hb dX2_ofTwo_138 ?_
        exact J_139 (FP.dneg a2) H locs ls hj hP hS (lv_sub hl [] rfl)
      · have hj := if_t c25 hj
        refine lv_dload_n hx hb dX2_ofTwo_133 rfl (lv_at hl 2 rfl) ?_
        refine lv_goto (tgt := 139) hx hb dX2_ofTwo_134 (by decide) ?_
        exact J_139 a2 H locs ls hj hP hS (lv_sub hl [] rfl)
    have hj := if_f c8 hj
    have sw : a1.toInt < 9 ∨ 16 < a1.toInt := by
      rcases Int.lt_or_ge a1.toInt 9 with q | q
      · exact Or.inl q
      have q := sw_step q (sw_ne c1 (by decide))
      have q := sw_step q (sw_ne c2 (by decide))
      have q := sw_step q (sw_ne c3 (by decide))
      have q := sw_step q (sw_ne c4 (by decide))
      have q := sw_step q (sw_ne c5 (by decide))
      have q := sw_step q (sw_ne c6 (by decide))
      have q := sw_step q (sw_ne c7 (by decide))
      have q := sw_step q (sw_ne c8 (by decide))
      exact Or.inr (by omega)
    refine lv_tableOut (tgt := 140) hx hb dX2_ofTwo_1 sw (by decide) ?_
    refine lv_aload_n hx hb dX2_ofTwo_140 rfl (lv_at hl 0 rfl) ?_
    refine lv_aload_n hx hb dX2_ofTwo_141 rfl (lv_at hl 0 rfl) ?_
    refine lv_dload_n hx hb dX2_ofTwo_142 rfl (lv_at hl 2 rfl) ?_
    refine lv_dload hx hb dX2_ofTwo_143 (lv_at hl 3 rfl) ?_
    obtain ⟨_, o26, hj⟩ := Option.bind_eq_some_iff.mp hj
    obtain ⟨v27, g_v27, hj⟩ := Option.bind_eq_some_iff.mp hj
    refine f_D (k_V (b := a0) (As := [.double a2, .double a4]) (n := 2) (rest := [.ref a0]) cx hl.1 hP hS (c_X2_quotient l X g M a0 a2 a4 v27 g_v27) o26 rfl mC_X2_quotient mM_X2_148 mI_X2_quotient mS_X2_quotient mZ_X2 (by decide +kernel) ⟨Nat.le_of_ble_eq_true rfl, Nat.le_of_ble_eq_true rfl⟩ rfl rfl (Nat.le_of_ble_eq_true rfl) dX2_ofTwo_145 ⟨Nat.le_of_ble_eq_true rfl, Nat.le_of_ble_eq_true rfl⟩) hS (fun H locs hP hS => ?_)
    have hP : hp X M H := hP
    refine W.eq (g2 := F0 m 148 ls [.double v27, .ref a0]) rfl ?_
    refine W.widen (k := 0) (n := 0) (Nat.le_of_ble_eq_true rfl) (Nat.le_of_ble_eq_true rfl) ?_
    obtain ⟨v28, g_v28, hj⟩ := Option.bind_eq_some_iff.mp hj
    refine f_D (k_S (As := [.double v27]) (n := 1) (rest := [.ref a0]) cx hl.1 hP hS (c_X2_nearest l X g M v27 v28 g_v28) mC_X2_nearest mM_X2_141 mT_X2_nearest mZ_X2 (by decide +kernel) ⟨Nat.le_of_ble_eq_true rfl, Nat.le_of_ble_eq_true rfl⟩ rfl rfl (Nat.le_of_ble_eq_true rfl) dX2_ofTwo_148 ⟨Nat.le_of_ble_eq_true rfl, Nat.le_of_ble_eq_true rfl⟩) hS (fun H locs hP hS => ?_)
    have hP : hp X M H := hP
    refine W.eq (g2 := F0 m 151 ls [.double v28, .ref a0]) rfl ?_
    refine W.widen (k := 0) (n := 0) (Nat.le_of_ble_eq_true rfl) (Nat.le_of_ble_eq_true rfl) ?_
    refine lv_dload hx hb dX2_ofTwo_151 (lv_at hl 3 rfl) ?_
    obtain ⟨_, o29, hj⟩ := Option.bind_eq_some_iff.mp hj
    obtain ⟨v30, g_v30, hj⟩ := Option.bind_eq_some_iff.mp hj
    refine f_D (k_V (b := a0) (As := [.double v28, .double a4]) (n := 2) (rest := []) cx hl.1 hP hS (c_X2_product l X g M a0 v28 a4 v30 g_v30) o29 rfl mC_X2_product mM_X2_151 mI_X2_product mS_X2_product mZ_X2 (by decide +kernel) ⟨Nat.le_of_ble_eq_true rfl, Nat.le_of_ble_eq_true rfl⟩ rfl rfl (Nat.le_of_ble_eq_true rfl) dX2_ofTwo_153 ⟨Nat.le_of_ble_eq_true rfl, Nat.le_of_ble_eq_true rfl⟩) hS (fun H locs hP hS => ?_)
    have hP : hp X M H := hP
    refine W.eq (g2 := F0 m 156 ls [.double v30]) rfl ?_
    refine W.widen (k := 0) (n := 0) (Nat.le_of_ble_eq_true rfl) (Nat.le_of_ble_eq_true rfl) ?_
    exact t_D cx hr hlocks hP hS (congrArg (Prod.mk M) (Option.some.inj hj)) (Nat.le_of_ble_eq_true rfl) (Nat.le_of_ble_eq_true rfl) dX2_ofTwo_156
  exact hgo _ _ hP hS
set_option maxHeartbeats 4000000 in
set_option maxRecDepth 100000 in
theorem c_X2_numberAt (l : Launch) (X : hX) (g : Nat) (M : hm) (a0 : Nat) (a1 : Option Nat) (a2 : Int32) (RR : UInt64) (hj : j_X2_numberAt g M a0 a1 a2 = some RR) : Ct l X yX2_numberAt cX2_numberAt 3 (some .double) { frames := 3, cells := 0, slots := 0, locals := 90 } [.ref a0, va_rf a1, .int a2] M (qD X (M, RR)) := by
  refine h_enter (own := RX2) (by decide) rfl (Nat.le_of_ble_eq_true rfl) ?_
  intro p e s m below meth c ls cx hr hlocks hnm hP hS hl
  have hx := cx.1
  have hb := cx.2.1
  have hl : lv_has ls 3 [(0, .ref a0), (1, va_rf a1), (2, .int a2)] := hl
  unfold j_X2_numberAt at hj
  have hgo : ∀ (H : Heap) (locs : List Loc), hp X M H → va_S (hA X) s.heap H locs → W p l e ({ frames := 3, cells := 0, slots := 0, locals := 90 } : Room) s m _ below meth c H locs 0 0 (MQ below (qD X (M, RR)) _ s 0 0 (hA X)) (F0 m 0 ls []) := by
    have J_271 : ∀ (s0 : UInt64) (s1 : UInt64) (H : Heap) (locs : List Loc) (ls : Array Slot), j_X2_numberAt_271 g M s0 s1 = some RR → hp X M H → va_S (hA X) s.heap H locs → lv_has ls 3 [] → W p l e ({ frames := 3, cells := 0, slots := 0, locals := 90 } : Room) s m _ below meth c H locs 0 0 (MQ below (qD X (M, RR)) _ s 0 0 (hA X)) (F0 m 271 ls [.double s0, .double s1]) := by
      intro s0 s1 H locs ls hj hP hS hl
      unfold j_X2_numberAt_271 at hj
      obtain ⟨v1, g_v1, hj⟩ := Option.bind_eq_some_iff.mp hj
      obtain ⟨n_v1, e_v1⟩ := n64_eq g_v1
      refine lv_dadd hx hb dX2_numberAt_271 n_v1 ?_
      rw [← e_v1]
      exact t_D cx hr hlocks hP hS (congrArg (Prod.mk M) (Option.some.inj hj)) (Nat.le_of_ble_eq_true rfl) (Nat.le_of_ble_eq_true rfl) dX2_numberAt_272
    have J_246 : ∀ (p0 : Nat) (p1 : Option Nat) (p2 : Int32) (s0 : UInt64) (H : Heap) (locs : List Loc) (ls : Array Slot), j_X2_numberAt_246 g M p0 p1 p2 s0 = some RR → hp X M H → va_S (hA X) s.heap H locs → lv_has ls 3 [(0, .ref p0), (1, va_rf p1), (2, .int p2)] → W p l e ({ frames := 3, cells := 0, slots := 0, locals := 90 } : Room) s m _ below meth c H locs 0 0 (MQ below (qD X (M, RR)) _ s 0 0 (hA X)) (F0 m 246 ls [.double s0]) := by
      intro p0 p1 p2 s0 H locs ls hj hP hS hl
      unfold j_X2_numberAt_246 at hj
      refine h_aload_n hx hb dX2_numberAt_246 rfl (lv_at hl 1 rfl) ?_
      obtain ⟨b2, e_b2, hj⟩ := Option.bind_eq_some_iff.mp hj
      subst e_b2
      obtain ⟨v3, g_v3, hj⟩ := Option.bind_eq_some_iff.mp hj
      refine r_getI cx hP g_v3 iX3 rfl (by decide) mF_X2_94 dX2_numberAt_247 ?_
      refine lv_aload_n hx hb dX2_numberAt_250 rfl (lv_at hl 0 rfl) ?_
      obtain ⟨v4, g_v4, hj⟩ := Option.bind_eq_some_iff.mp hj
      refine r_getR cx hP g_v4 iX2 rfl (by decide) mF_X2_21 dX2_numberAt_251 ?_
      refine lv_iload_n hx hb dX2_numberAt_254 rfl (lv_at hl 2 rfl) ?_
      refine lv_aload_n hx hb dX2_numberAt_255 rfl (lv_at hl 0 rfl) ?_
      obtain ⟨v5, g_v5, hj⟩ := Option.bind_eq_some_iff.mp hj
      refine r_getR cx hP g_v5 iX2 rfl (by decide) mF_X2_25 dX2_numberAt_256 ?_
      refine lv_iload_n hx hb dX2_numberAt_259 rfl (lv_at hl 2 rfl) ?_
      obtain ⟨v6, g_v6, hj⟩ := Option.bind_eq_some_iff.mp hj
      refine f_I (k_N (As := [.int v3, va_rf v4, .int p2, va_rf v5, .int p2]) (n := 5) (rest := [.double s0]) cx hl.1 hP hS (c_X5_isSo l X g M v3 v4 p2 v5 p2 v6 g_v6) mC_X5_isSo cx.2.2.2.2.2.1.2.1.2.2.1 mT_X5_isSo mZ_X5 (by decide +kernel) ⟨Nat.le_of_ble_eq_true rfl, Nat.le_of_ble_eq_true rfl⟩ rfl rfl (Nat.le_of_ble_eq_true rfl) dX2_numberAt_260 ⟨Nat.le_of_ble_eq_true rfl, Nat.le_of_ble_eq_true rfl⟩) hS (fun H locs hP hS => ?_)
      have hP : hp X M H := hP
      refine W.eq (g2 := F0 m 263 ls [.int v6, .double s0]) rfl ?_
      refine W.widen (k := 0) (n := 0) (Nat.le_of_ble_eq_true rfl) (Nat.le_of_ble_eq_true rfl) ?_
      refine lv_if_eq (tgt := 270) hx hb dX2_numberAt_263 (by decide) (fun c7 => ?_) (fun c7 => ?_)
      · have hj := if_t c7 hj
        refine lv_dconst0 hx hb dX2_numberAt_270 ?_
        exact J_271 FP.dconst0 s0 H locs ls hj hP hS (lv_sub hl [] rfl)
      · have hj := if_f c7 hj
        refine lv_dconst1 hx hb dX2_numberAt_266 ?_
        refine lv_goto (tgt := 271) hx hb dX2_numberAt_267 (by decide) ?_
        exact J_271 FP.dconst1 s0 H locs ls hj hP hS (lv_sub hl [] rfl)
    have J_229 : ∀ (s0 : UInt64) (H : Heap) (locs : List Loc) (ls : Array Slot), j_X2_numberAt_229 g M s0 = some RR → hp X M H → va_S (hA X) s.heap H locs → lv_has ls 3 [] → W p l e ({ frames := 3, cells := 0, slots := 0, locals := 90 } : Room) s m _ below meth c H locs 0 0 (MQ below (qD X (M, RR)) _ s 0 0 (hA X)) (F0 m 229 ls [.double s0]) := by
      intro s0 H locs ls hj hP hS hl
      unfold j_X2_numberAt_229 at hj
      exact t_D cx hr hlocks hP hS (congrArg (Prod.mk M) (Option.some.inj hj)) (Nat.le_of_ble_eq_true rfl) (Nat.le_of_ble_eq_true rfl) dX2_numberAt_229
    have J_180 : ∀ (s0 : UInt64) (H : Heap) (locs : List Loc) (ls : Array Slot), j_X2_numberAt_180 g M s0 = some RR → hp X M H → va_S (hA X) s.heap H locs → lv_has ls 3 [] → W p l e ({ frames := 3, cells := 0, slots := 0, locals := 90 } : Room) s m _ below meth c H locs 0 0 (MQ below (qD X (M, RR)) _ s 0 0 (hA X)) (F0 m 180 ls [.double s0]) := by
      intro s0 H locs ls hj hP hS hl
      unfold j_X2_numberAt_180 at hj
      exact t_D cx hr hlocks hP hS (congrArg (Prod.mk M) (Option.some.inj hj)) (Nat.le_of_ble_eq_true rfl) (Nat.le_of_ble_eq_true rfl) dX2_numberAt_180
    have J_148 : ∀ (s0 : UInt64) (H : Heap) (locs : List Loc) (ls : Array Slot), j_X2_numberAt_148 g M s0 = some RR → hp X M H → va_S (hA X) s.heap H locs → lv_has ls 3 [] → W p l e ({ frames := 3, cells := 0, slots := 0, locals := 90 } : Room) s m _ below meth c H locs 0 0 (MQ below (qD X (M, RR)) _ s 0 0 (hA X)) (F0 m 148 ls [.double s0]) := by
      intro s0 H locs ls hj hP hS hl
      unfold j_X2_numberAt_148 at hj
      exact t_D cx hr hlocks hP hS (congrArg (Prod.mk M) (Option.some.inj hj)) (Nat.le_of_ble_eq_true rfl) (Nat.le_of_ble_eq_true rfl) dX2_numberAt_148
    intro H locs hP hS
    refine h_aload_n hx hb dX2_numberAt_0 rfl (lv_at hl 1 rfl) ?_
    obtain ⟨b8, e_b8, hj⟩ := Option.bind_eq_some_iff.mp hj
    subst e_b8
    obtain ⟨v9, g_v9, hj⟩ := Option.bind_eq_some_iff.mp hj
    refine r_getI cx hP g_v9 iX3 rfl (by decide) mF_X2_54 dX2_numberAt_1 ?_
    refine lv_bipush (v := 8) hx hb dX2_numberAt_4 (by decide) ?_
    refine lv_icmp_gt (tgt := 27) hx hb dX2_numberAt_6 (by decide) (fun c10 => ?_) (fun c10 => ?_)
    · have hj := if_t c10 hj
      refine lv_aload_n hx hb dX2_numberAt_27 rfl (lv_at hl 1 rfl) ?_
      obtain ⟨v11, g_v11, hj⟩ := Option.bind_eq_some_iff.mp hj
      refine r_getI cx hP g_v11 iX3 rfl (by decide) mF_X2_54 dX2_numberAt_28 ?_
      obtain ⟨v12, g_v12, hj⟩ := Option.bind_eq_some_iff.mp hj
      refine f_I (k_S (As := [.int v11]) (n := 1) (rest := []) cx hl.1 hP hS (c_X2_isOfTwo l X g M v11 v12 g_v12) mC_X2_isOfTwo mM_X2_80 mT_X2_isOfTwo mZ_X2 (by decide +kernel) ⟨Nat.le_of_ble_eq_true rfl, Nat.le_of_ble_eq_true rfl⟩ rfl rfl (Nat.le_of_ble_eq_true rfl) dX2_numberAt_31 ⟨Nat.le_of_ble_eq_true rfl, Nat.le_of_ble_eq_true rfl⟩) hS (fun H locs hP hS => ?_)
      have hP : hp X M H := hP
      refine W.eq (g2 := F0 m 34 ls [.int v12]) rfl ?_
      refine W.widen (k := 0) (n := 0) (Nat.le_of_ble_eq_true rfl) (Nat.le_of_ble_eq_true rfl) ?_
      refine lv_if_eq (tgt := 64) hx hb dX2_numberAt_34 (by decide) (fun c13 => ?_) (fun c13 => ?_)
      · have hj := if_t c13 hj
        refine lv_aload_n hx hb dX2_numberAt_64 rfl (lv_at hl 1 rfl) ?_
        obtain ⟨v14, g_v14, hj⟩ := Option.bind_eq_some_iff.mp hj
        refine r_getI cx hP g_v14 iX3 rfl (by decide) mF_X2_54 dX2_numberAt_65 ?_
        by_cases c15 : v14 = (18 : Int32)
        · have hj := if_t c15 hj
          refine lv_tableIn (off := 48) (tgt := 116) hx hb dX2_numberAt_68 (by rw [c15]; decide) (by rw [c15]; decide) (by rw [c15]; decide) (by decide) ?_
          refine lv_aload_n hx hb dX2_numberAt_116 rfl (lv_at hl 0 rfl) ?_
          obtain ⟨v23, g_v23, hj⟩ := Option.bind_eq_some_iff.mp hj
          refine r_getR cx hP g_v23 iX2 rfl (by decide) mF_X2_21 dX2_numberAt_117 ?_
          refine lv_iload_n hx hb dX2_numberAt_120 rfl (lv_at hl 2 rfl) ?_
          obtain ⟨b24, e_b24, hj⟩ := Option.bind_eq_some_iff.mp hj
          subst e_b24
          obtain ⟨_, o25, hj⟩ := Option.bind_eq_some_iff.mp hj
          obtain ⟨v26, g_v26, hj⟩ := Option.bind_eq_some_iff.mp hj
          refine f_I (k_V (b := b24) (As := [.int a2]) (n := 1) (rest := []) cx hl.1 hP hS (c_X3_blankAt l X g M b24 a2 v26 g_v26) o25 rfl mC_X3_blankAt mM_X2_84 mI_X3_blankAt mS_X3_blankAt mZ_X3 (by decide +kernel) ⟨Nat.le_of_ble_eq_true rfl, Nat.le_of_ble_eq_true rfl⟩ rfl rfl (Nat.le_of_ble_eq_true rfl) dX2_numberAt_121 ⟨Nat.le_of_ble_eq_true rfl, Nat.le_of_ble_eq_true rfl⟩) hS (fun H locs hP hS => ?_)
          have hP : hp X M H := hP
          refine W.eq (g2 := F0 m 124 ls [.int v26]) rfl ?_
          refine W.widen (k := 0) (n := 0) (Nat.le_of_ble_eq_true rfl) (Nat.le_of_ble_eq_true rfl) ?_
          refine lv_if_eq (tgt := 139) hx hb dX2_numberAt_124 (by decide) (fun c27 => ?_) (fun c27 => ?_)
          · have hj := if_t c27 hj
            refine lv_aload_n hx hb dX2_numberAt_139 rfl (lv_at hl 0 rfl) ?_
            obtain ⟨v28, g_v28, hj⟩ := Option.bind_eq_some_iff.mp hj
            refine r_getR cx hP g_v28 iX2 rfl (by decide) mF_X2_21 dX2_numberAt_140 ?_
            obtain ⟨b29, e_b29, hj⟩ := Option.bind_eq_some_iff.mp hj
            subst e_b29
            obtain ⟨v30, g_v30, hj⟩ := Option.bind_eq_some_iff.mp hj
            refine r_getR cx hP g_v30 iX3 rfl (by decide) mF_X2_87 dX2_numberAt_143 ?_
            refine lv_iload_n hx hb dX2_numberAt_146 rfl (lv_at hl 2 rfl) ?_
            obtain ⟨b31, e_b31, hj⟩ := Option.bind_eq_some_iff.mp hj
            subst e_b31
            obtain ⟨v32, g_v32, hj⟩ := Option.bind_eq_some_iff.mp hj
            refine r_aldD cx hP g_v32 dX2_numberAt_147 ?_
            exact J_148 v32 H locs ls hj hP hS (lv_sub hl [] rfl)
          · have hj := if_f c27 hj
            refine lv_aload_n hx hb dX2_numberAt_127 rfl (lv_at hl 0 rfl) ?_
            obtain ⟨v33, g_v33, hj⟩ := Option.bind_eq_some_iff.mp hj
            refine r_getR cx hP g_v33 iX2 rfl (by decide) mF_X2_25 dX2_numberAt_128 ?_
            obtain ⟨b34, e_b34, hj⟩ := Option.bind_eq_some_iff.mp hj
            subst e_b34
            obtain ⟨v35, g_v35, hj⟩ := Option.bind_eq_some_iff.mp hj
            refine r_getR cx hP g_v35 iX3 rfl (by decide) mF_X2_87 dX2_numberAt_131 ?_
            refine lv_iload_n hx hb dX2_numberAt_134 rfl (lv_at hl 2 rfl) ?_
            obtain ⟨b36, e_b36, hj⟩ := Option.bind_eq_some_iff.mp hj
            subst e_b36
            obtain ⟨v37, g_v37, hj⟩ := Option.bind_eq_some_iff.mp hj
            refine r_aldD cx hP g_v37 dX2_numberAt_135 ?_
            refine lv_goto (tgt := 148) hx hb dX2_numberAt_136 (by decide) ?_
            exact J_148 v37 H locs ls hj hP hS (lv_sub hl [] rfl)
        have hj := if_f c15 hj
        by_cases c16 : v14 = (19 : Int32)
        · have hj := if_t c16 hj
          refine lv_tableIn (off := 81) (tgt := 149) hx hb dX2_numberAt_68 (by rw [c16]; decide) (by rw [c16]; decide) (by rw [c16]; decide) (by decide) ?_
          refine lv_aload_n hx hb dX2_numberAt_149 rfl (lv_at hl 0 rfl) ?_
          refine lv_iload_n hx hb dX2_numberAt_150 rfl (lv_at hl 2 rfl) ?_
          obtain ⟨_, o38, hj⟩ := Option.bind_eq_some_iff.mp hj
          obtain ⟨v39, g_v39, hj⟩ := Option.bind_eq_some_iff.mp hj
          refine f_D (k_V (b := a0) (As := [.int a2]) (n := 1) (rest := []) cx hl.1 hP hS (c_X2_middleAt l X g M a0 a2 v39 g_v39) o38 rfl mC_X2_middleAt mM_X2_119 mI_X2_middleAt mS_X2_middleAt mZ_X2 (by decide +kernel) ⟨Nat.le_of_ble_eq_true rfl, Nat.le_of_ble_eq_true rfl⟩ rfl rfl (Nat.le_of_ble_eq_true rfl) dX2_numberAt_151 ⟨Nat.le_of_ble_eq_true rfl, Nat.le_of_ble_eq_true rfl⟩) hS (fun H locs hP hS => ?_)
          have hP : hp X M H := hP
          refine W.eq (g2 := F0 m 154 ls [.double v39]) rfl ?_
          refine W.widen (k := 0) (n := 0) (Nat.le_of_ble_eq_true rfl) (Nat.le_of_ble_eq_true rfl) ?_
          exact t_D cx hr hlocks hP hS (congrArg (Prod.mk M) (Option.some.inj hj)) (Nat.le_of_ble_eq_true rfl) (Nat.le_of_ble_eq_true rfl) dX2_numberAt_154
        have hj := if_f c16 hj
        by_cases c17 : v14 = (20 : Int32)
        · have hj := if_t c17 hj
          refine lv_tableIn (off := 87) (tgt := 155) hx hb dX2_numberAt_68 (by rw [c17]; decide) (by rw [c17]; decide) (by rw [c17]; decide) (by decide) ?_
          refine lv_aload_n hx hb dX2_numberAt_155 rfl (lv_at hl 0 rfl) ?_
          refine lv_aload_n hx hb dX2_numberAt_156 rfl (lv_at hl 1 rfl) ?_
          refine lv_iload_n hx hb dX2_numberAt_157 rfl (lv_at hl 2 rfl) ?_
          obtain ⟨_, o40, hj⟩ := Option.bind_eq_some_iff.mp hj
          obtain ⟨v41, g_v41, hj⟩ := Option.bind_eq_some_iff.mp hj
          refine f_D (k_V (b := a0) (As := [.ref b8, .int a2]) (n := 2) (rest := []) cx hl.1 hP hS (c_X2_farthestAt l X g M a0 (some b8) a2 v41 g_v41) o40 rfl mC_X2_farthestAt mM_X2_123 mI_X2_farthestAt mS_X2_farthestAt mZ_X2 (by decide +kernel) ⟨Nat.le_of_ble_eq_true rfl, Nat.le_of_ble_eq_true rfl⟩ rfl rfl (Nat.le_of_ble_eq_true rfl) dX2_numberAt_158 ⟨Nat.le_of_ble_eq_true rfl, Nat.le_of_ble_eq_true rfl⟩) hS (fun H locs hP hS => ?_)
          have hP : hp X M H := hP
          refine W.eq (g2 := F0 m 161 ls [.double v41]) rfl ?_
          refine W.widen (k := 0) (n := 0) (Nat.le_of_ble_eq_true rfl) (Nat.le_of_ble_eq_true rfl) ?_
          exact t_D cx hr hlocks hP hS (congrArg (Prod.mk M) (Option.some.inj hj)) (Nat.le_of_ble_eq_true rfl) (Nat.le_of_ble_eq_true rfl) dX2_numberAt_161
        have hj := if_f c17 hj
        by_cases c18 : v14 = (21 : Int32)
        · have hj := if_t c18 hj
          refine lv_tableIn (off := 87) (tgt := 155) hx hb dX2_numberAt_68 (by rw [c18]; decide) (by rw [c18]; decide) (by rw [c18]; decide) (by decide) ?_
          refine lv_aload_n hx hb dX2_numberAt_155 rfl (lv_at hl 0 rfl) ?_
          refine lv_aload_n hx hb dX2_numberAt_156 rfl (lv_at hl 1 rfl) ?_
          refine lv_iload_n hx hb dX2_numberAt_157 rfl (lv_at hl 2 rfl) ?_
          obtain ⟨_, o42, hj⟩ := Option.bind_eq_some_iff.mp hj
          obtain ⟨v43, g_v43, hj⟩ := Option.bind_eq_some_iff.mp hj
          refine f_D (k_V (b := a0) (As := [.ref b8, .int a2]) (n := 2) (rest := []) cx hl.1 hP hS (c_X2_farthestAt l X g M a0 (some b8) a2 v43 g_v43) o42 rfl mC_X2_farthestAt mM_X2_123 mI_X2_farthestAt mS_X2_farthestAt mZ_X2 (by decide +kernel) ⟨Nat.le_of_ble_eq_true rfl, Nat.le_of_ble_eq_true rfl⟩ rfl rfl (Nat.le_of_ble_eq_true rfl) dX2_numberAt_158 ⟨Nat.le_of_ble_eq_true rfl, Nat.le_of_ble_eq_true rfl⟩) hS (fun H locs hP hS => ?_)
          have hP : hp X M H := hP
          refine W.eq (g2 := F0 m 161 ls [.double v43]) rfl ?_
          refine W.widen (k := 0) (n := 0) (Nat.le_of_ble_eq_true rfl) (Nat.le_of_ble_eq_true rfl) ?_
          exact t_D cx hr hlocks hP hS (congrArg (Prod.mk M) (Option.some.inj hj)) (Nat.le_of_ble_eq_true rfl) (Nat.le_of_ble_eq_true rfl) dX2_numberAt_161
        have hj := if_f c18 hj
        by_cases c19 : v14 = (22 : Int32)
        · have hj := if_t c19 hj
          refine lv_tableIn (off := 94) (tgt := 162) hx hb dX2_numberAt_68 (by rw [c19]; decide) (by rw [c19]; decide) (by rw [c19]; decide) (by decide) ?_
          refine lv_iload_n hx hb dX2_numberAt_162 rfl (lv_at hl 2 rfl) ?_
          refine lv_aload_n hx hb dX2_numberAt_163 rfl (lv_at hl 0 rfl) ?_
          obtain ⟨v44, g_v44, hj⟩ := Option.bind_eq_some_iff.mp hj
          refine r_getI cx hP g_v44 iX2 rfl (by decide) mF_X2_32 dX2_numberAt_164 ?_
          refine lv_icmp_ge (tgt := 179) hx hb dX2_numberAt_167 (by decide) (fun c45 => ?_) (fun c45 => ?_)
          · have hj := if_t c45 hj
            refine lv_dconst0 hx hb dX2_numberAt_179 ?_
            exact J_180 FP.dconst0 H locs ls hj hP hS (lv_sub hl [] rfl)
          · have hj := if_f c45 hj
            refine lv_aload_n hx hb dX2_numberAt_170 rfl (lv_at hl 0 rfl) ?_
            obtain ⟨v46, g_v46, hj⟩ := Option.bind_eq_some_iff.mp hj
            refine r_getR cx hP g_v46 iX2 rfl (by decide) mF_X2_28 dX2_numberAt_171 ?_
            refine lv_iload_n hx hb dX2_numberAt_174 rfl (lv_at hl 2 rfl) ?_
            obtain ⟨b47, e_b47, hj⟩ := Option.bind_eq_some_iff.mp hj
            subst e_b47
            obtain ⟨v48, g_v48, hj⟩ := Option.bind_eq_some_iff.mp hj
            refine r_aldD cx hP g_v48 dX2_numberAt_175 ?_
            refine lv_goto (tgt := 180) hx hb dX2_numberAt_176 (by decide) ?_
            exact J_180 v48 H locs ls hj hP hS (lv_sub hl [] rfl)
        have hj := if_f c19 hj
        by_cases c20 : v14 = (23 : Int32)
        · have hj := if_t c20 hj
          refine lv_tableIn (off := 113) (tgt := 181) hx hb dX2_numberAt_68 (by rw [c20]; decide) (by rw [c20]; decide) (by rw [c20]; decide) (by decide) ?_
          refine lv_aload_n hx hb dX2_numberAt_181 rfl (lv_at hl 0 rfl) ?_
          refine lv_aload_n hx hb dX2_numberAt_182 rfl (lv_at hl 0 rfl) ?_
          obtain ⟨v49, g_v49, hj⟩ := Option.bind_eq_some_iff.mp hj
          refine r_getR cx hP g_v49 iX2 rfl (by decide) mF_X2_21 dX2_numberAt_183 ?_
          obtain ⟨b50, e_b50, hj⟩ := Option.bind_eq_some_iff.mp hj
          subst e_b50
          obtain ⟨v51, g_v51, hj⟩ := Option.bind_eq_some_iff.mp hj
          refine r_getR cx hP g_v51 iX3 rfl (by decide) mF_X2_87 dX2_numberAt_186 ?_
          refine lv_iload_n hx hb dX2_numberAt_189 rfl (lv_at hl 2 rfl) ?_
          obtain ⟨b52, e_b52, hj⟩ := Option.bind_eq_some_iff.mp hj
          subst e_b52
          obtain ⟨v53, g_v53, hj⟩ := Option.bind_eq_some_iff.mp hj
          refine r_aldD cx hP g_v53 dX2_numberAt_190 ?_
          obtain ⟨_, o54, hj⟩ := Option.bind_eq_some_iff.mp hj
          obtain ⟨v55, g_v55, hj⟩ := Option.bind_eq_some_iff.mp hj
          refine f_I (k_V (b := a0) (As := [.double v53]) (n := 1) (rest := []) cx hl.1 hP hS (c_X2_lesserPlaces l X g M a0 v53 v55 g_v55) o54 rfl mC_X2_lesserPlaces mM_X2_126 mI_X2_lesserPlaces mS_X2_lesserPlaces mZ_X2 (by decide +kernel) ⟨Nat.le_of_ble_eq_true rfl, Nat.le_of_ble_eq_true rfl⟩ rfl rfl (Nat.le_of_ble_eq_true rfl) dX2_numberAt_191 ⟨Nat.le_of_ble_eq_true rfl, Nat.le_of_ble_eq_true rfl⟩) hS (fun H locs hP hS => ?_)
          have hP : hp X M H := hP
          refine W.eq (g2 := F0 m 194 ls [.int v55]) rfl ?_
          refine W.widen (k := 0) (n := 0) (Nat.le_of_ble_eq_true rfl) (Nat.le_of_ble_eq_true rfl) ?_
          refine lv_i2d hx hb dX2_numberAt_194 ?_
          exact t_D cx hr hlocks hP hS (congrArg (Prod.mk M) (Option.some.inj hj)) (Nat.le_of_ble_eq_true rfl) (Nat.le_of_ble_eq_true rfl) dX2_numberAt_195
        have hj := if_f c20 hj
        by_cases c21 : v14 = (24 : Int32)
        · have hj := if_t c21 hj
          refine lv_tableIn (off := 128) (tgt := 196) hx hb dX2_numberAt_68 (by rw [c21]; decide) (by rw [c21]; decide) (by rw [c21]; decide) (by decide) ?_
          refine lv_iload_n hx hb dX2_numberAt_196 rfl (lv_at hl 2 rfl) ?_
          refine lv_if_ne (tgt := 204) hx hb dX2_numberAt_197 (by decide) (fun c56 => ?_) (fun c56 => ?_)
          · have hj := if_f c56 hj
            refine lv_aload_n hx hb dX2_numberAt_204 rfl (lv_at hl 0 rfl) ?_
            refine lv_aload_n hx hb dX2_numberAt_205 rfl (lv_at hl 0 rfl) ?_
            obtain ⟨v57, g_v57, hj⟩ := Option.bind_eq_some_iff.mp hj
            refine r_getR cx hP g_v57 iX2 rfl (by decide) mF_X2_21 dX2_numberAt_206 ?_
            obtain ⟨b58, e_b58, hj⟩ := Option.bind_eq_some_iff.mp hj
            subst e_b58
            obtain ⟨v59, g_v59, hj⟩ := Option.bind_eq_some_iff.mp hj
            refine r_getR cx hP g_v59 iX3 rfl (by decide) mF_X2_87 dX2_numberAt_209 ?_
            refine lv_iload_n hx hb dX2_numberAt_212 rfl (lv_at hl 2 rfl) ?_
            obtain ⟨b60, e_b60, hj⟩ := Option.bind_eq_some_iff.mp hj
            subst e_b60
            obtain ⟨v61, g_v61, hj⟩ := Option.bind_eq_some_iff.mp hj
            refine r_aldD cx hP g_v61 dX2_numberAt_213 ?_
            refine lv_aload_n hx hb dX2_numberAt_214 rfl (lv_at hl 0 rfl) ?_
            obtain ⟨v62, g_v62, hj⟩ := Option.bind_eq_some_iff.mp hj
            refine r_getR cx hP g_v62 iX2 rfl (by decide) mF_X2_21 dX2_numberAt_215 ?_
            obtain ⟨b63, e_b63, hj⟩ := Option.bind_eq_some_iff.mp hj
            subst e_b63
            obtain ⟨v64, g_v64, hj⟩ := Option.bind_eq_some_iff.mp hj
            refine r_getR cx hP g_v64 iX3 rfl (by decide) mF_X2_87 dX2_numberAt_218 ?_
            refine lv_iload_n hx hb dX2_numberAt_221 rfl (lv_at hl 2 rfl) ?_
            refine lv_iconst (v := 1) hx hb dX2_numberAt_222 (by decide) ?_
            refine lv_isub hx hb dX2_numberAt_223 ?_
            obtain ⟨b65, e_b65, hj⟩ := Option.bind_eq_some_iff.mp hj
            subst e_b65
            obtain ⟨v66, g_v66, hj⟩ := Option.bind_eq_some_iff.mp hj
            refine r_aldD cx hP g_v66 dX2_numberAt_224 ?_
            refine lv_dneg hx hb dX2_numberAt_225 ?_
            obtain ⟨_, o67, hj⟩ := Option.bind_eq_some_iff.mp hj
            obtain ⟨v68, g_v68, hj⟩ := Option.bind_eq_some_iff.mp hj
            refine f_D (k_V (b := a0) (As := [.double v61, .double (FP.dneg v66)]) (n := 2) (rest := []) cx hl.1 hP hS (c_X2_sum l X g M a0 v61 (FP.dneg v66) v68 g_v68) o67 rfl mC_X2_sum mM_X2_130 mI_X2_sum mS_X2_sum mZ_X2 (by decide +kernel) ⟨Nat.le_of_ble_eq_true rfl, Nat.le_of_ble_eq_true rfl⟩ rfl rfl (Nat.le_of_ble_eq_true rfl) dX2_numberAt_226 ⟨Nat.le_of_ble_eq_true rfl, Nat.le_of_ble_eq_true rfl⟩) hS (fun H locs hP hS => ?_)
            have hP : hp X M H := hP
            refine W.eq (g2 := F0 m 229 ls [.double v68]) rfl ?_
            refine W.widen (k := 0) (n := 0) (Nat.le_of_ble_eq_true rfl) (Nat.le_of_ble_eq_true rfl) ?_
            exact J_229 v68 H locs ls hj hP hS (lv_sub hl [] rfl)
          · have hj := if_t c56 hj
            refine lv_dconst0 hx hb dX2_numberAt_200 ?_
            refine lv_goto (tgt := 229) hx hb dX2_numberAt_201 (by decide) ?_
            exact J_229 FP.dconst0 H locs ls hj hP hS (lv_sub hl [] rfl)
        have hj := if_f c21 hj
        by_cases c22 : v14 = (25 : Int32)
        · have hj := if_t c22 hj
          refine lv_tableIn (off := 162) (tgt := 230) hx hb dX2_numberAt_68 (by rw [c22]; decide) (by rw [c22]; decide) (by rw [c22]; decide) (by decide) ?_
          refine lv_iload_n hx hb dX2_numberAt_230 rfl (lv_at hl 2 rfl) ?_
          refine lv_if_ne (tgt := 238) hx hb dX2_numberAt_231 (by decide) (fun c69 => ?_) (fun c69 => ?_)
          · have hj := if_f c69 hj
            refine lv_aload_n hx hb dX2_numberAt_238 rfl (lv_at hl 1 rfl) ?_
            obtain ⟨v70, g_v70, hj⟩ := Option.bind_eq_some_iff.mp hj
            refine r_getR cx hP g_v70 iX3 rfl (by decide) mF_X2_87 dX2_numberAt_239 ?_
            refine lv_iload_n hx hb dX2_numberAt_242 rfl (lv_at hl 2 rfl) ?_
            refine lv_iconst (v := 1) hx hb dX2_numberAt_243 (by decide) ?_
            refine lv_isub hx hb dX2_numberAt_244 ?_
            obtain ⟨b71, e_b71, hj⟩ := Option.bind_eq_some_iff.mp hj
            subst e_b71
            obtain ⟨v72, g_v72, hj⟩ := Option.bind_eq_some_iff.mp hj
            refine r_aldD cx hP g_v72 dX2_numberAt_245 ?_
            exact J_246 a0 (some b8) a2 v72 H locs ls hj hP hS (lv_sub hl [0, 1, 2] rfl)
          · have hj := if_t c69 hj
            refine lv_dconst0 hx hb dX2_numberAt_234 ?_
            refine lv_goto (tgt := 246) hx hb dX2_numberAt_235 (by decide) ?_
            exact J_246 a0 (some b8) a2 FP.dconst0 H locs ls hj hP hS (lv_sub hl [0, 1, 2] rfl)
        have hj := if_f c22 hj
        have sw : v14.toInt < 18 ∨ 25 < v14.toInt := by
          rcases Int.lt_or_ge v14.toInt 18 with q | q
          · exact Or.inl q
          have q := sw_step q (sw_ne c15 (by decide))
          have q := sw_step q (sw_ne c16 (by decide))
          have q := sw_step q (sw_ne c17 (by decide))
          have q := sw_step q (sw_ne c18 (by decide))
          have q := sw_step q (sw_ne c19 (by decide))
          have q := sw_step q (sw_ne c20 (by decide))
          have q := sw_step q (sw_ne c21 (by decide))
          have q := sw_step q (sw_ne c22 (by decide))
          exact Or.inr (by omega)
        refine lv_tableOut (tgt := 273) hx hb dX2_numberAt_68 sw (by decide) ?_
        refine lv_aload_n hx hb dX2_numberAt_273 rfl (lv_at hl 0 rfl) ?_
        obtain ⟨v73, g_v73, hj⟩ := Option.bind_eq_some_iff.mp hj
        refine r_getR cx hP g_v73 iX2 rfl (by decide) mF_X2_21 dX2_numberAt_274 ?_
        obtain ⟨b74, e_b74, hj⟩ := Option.bind_eq_some_iff.mp hj
        subst e_b74
        obtain ⟨v75, g_v75, hj⟩ := Option.bind_eq_some_iff.mp hj
        refine r_getR cx hP g_v75 iX3 rfl (by decide) mF_X2_87 dX2_numberAt_277 ?_
        refine lv_iload_n hx hb dX2_numberAt_280 rfl (lv_at hl 2 rfl) ?_
        obtain ⟨b76, e_b76, hj⟩ := Option.bind_eq_some_iff.mp hj
        subst e_b76
        obtain ⟨v77, g_v77, hj⟩ := Option.bind_eq_some_iff.mp hj
        refine r_aldD cx hP g_v77 dX2_numberAt_281 ?_
        exact t_D cx hr hlocks hP hS (congrArg (Prod.mk M) (Option.some.inj hj)) (Nat.le_of_ble_eq_true rfl) (Nat.le_of_ble_eq_true rfl) dX2_numberAt_282
      · have hj := if_f c13 hj
        refine lv_aload_n hx hb dX2_numberAt_37 rfl (lv_at hl 0 rfl) ?_
        refine lv_aload_n hx hb dX2_numberAt_38 rfl (lv_at hl 1 rfl) ?_
        obtain ⟨v78, g_v78, hj⟩ := Option.bind_eq_some_iff.mp hj
        refine r_getI cx hP g_v78 iX3 rfl (by decide) mF_X2_54 dX2_numberAt_39 ?_
        refine lv_aload_n hx hb dX2_numberAt_42 rfl (lv_at hl 0 rfl) ?_
        obtain ⟨v79, g_v79, hj⟩ := Option.bind_eq_some_iff.mp hj
        refine r_getR cx hP g_v79 iX2 rfl (by decide) mF_X2_21 dX2_numberAt_43 ?_
        obtain ⟨b80, e_b80, hj⟩ := Option.bind_eq_some_iff.mp hj
        subst e_b80
        obtain ⟨v81, g_v81, hj⟩ := Option.bind_eq_some_iff.mp hj
        refine r_getR cx hP g_v81 iX3 rfl (by decide) mF_X2_87 dX2_numberAt_46 ?_
        refine lv_iload_n hx hb dX2_numberAt_49 rfl (lv_at hl 2 rfl) ?_
        obtain ⟨b82, e_b82, hj⟩ := Option.bind_eq_some_iff.mp hj
        subst e_b82
        obtain ⟨v83, g_v83, hj⟩ := Option.bind_eq_some_iff.mp hj
        refine r_aldD cx hP g_v83 dX2_numberAt_50 ?_
        refine lv_aload_n hx hb dX2_numberAt_51 rfl (lv_at hl 0 rfl) ?_
        obtain ⟨v84, g_v84, hj⟩ := Option.bind_eq_some_iff.mp hj
        refine r_getR cx hP g_v84 iX2 rfl (by decide) mF_X2_25 dX2_numberAt_52 ?_
        obtain ⟨b85, e_b85, hj⟩ := Option.bind_eq_some_iff.mp hj
        subst e_b85
        obtain ⟨v86, g_v86, hj⟩ := Option.bind_eq_some_iff.mp hj
        refine r_getR cx hP g_v86 iX3 rfl (by decide) mF_X2_87 dX2_numberAt_55 ?_
        refine lv_iload_n hx hb dX2_numberAt_58 rfl (lv_at hl 2 rfl) ?_
        obtain ⟨b87, e_b87, hj⟩ := Option.bind_eq_some_iff.mp hj
        subst e_b87
        obtain ⟨v88, g_v88, hj⟩ := Option.bind_eq_some_iff.mp hj
        refine r_aldD cx hP g_v88 dX2_numberAt_59 ?_
        obtain ⟨_, o89, hj⟩ := Option.bind_eq_some_iff.mp hj
        obtain ⟨v90, g_v90, hj⟩ := Option.bind_eq_some_iff.mp hj
        refine f_D (k_V (b := a0) (As := [.int v78, .double v83, .double v88]) (n := 3) (rest := []) cx hl.1 hP hS (c_X2_ofTwo l X g M a0 v78 v83 v88 v90 g_v90) o89 rfl mC_X2_ofTwo mM_X2_115 mI_X2_ofTwo mS_X2_ofTwo mZ_X2 (by decide +kernel) ⟨Nat.le_of_ble_eq_true rfl, Nat.le_of_ble_eq_true rfl⟩ rfl rfl (Nat.le_of_ble_eq_true rfl) dX2_numberAt_60 ⟨Nat.le_of_ble_eq_true rfl, Nat.le_of_ble_eq_true rfl⟩) hS (fun H locs hP hS => ?_)
        have hP : hp X M H := hP
        refine W.eq (g2 := F0 m 63 ls [.double v90]) rfl ?_
        refine W.widen (k := 0) (n := 0) (Nat.le_of_ble_eq_true rfl) (Nat.le_of_ble_eq_true rfl) ?_
        exact t_D cx hr hlocks hP hS (congrArg (Prod.mk M) (Option.some.inj hj)) (Nat.le_of_ble_eq_true rfl) (Nat.le_of_ble_eq_true rfl) dX2_numberAt_63
    · have hj := if_f c10 hj
      refine lv_aload_n hx hb dX2_numberAt_9 rfl (lv_at hl 0 rfl) ?_
      refine lv_aload_n hx hb dX2_numberAt_10 rfl (lv_at hl 1 rfl) ?_
      obtain ⟨v91, g_v91, hj⟩ := Option.bind_eq_some_iff.mp hj
      refine r_getI cx hP g_v91 iX3 rfl (by decide) mF_X2_54 dX2_numberAt_11 ?_
      refine lv_aload_n hx hb dX2_numberAt_14 rfl (lv_at hl 0 rfl) ?_
      obtain ⟨v92, g_v92, hj⟩ := Option.bind_eq_some_iff.mp hj
      refine r_getR cx hP g_v92 iX2 rfl (by decide) mF_X2_21 dX2_numberAt_15 ?_
      obtain ⟨b93, e_b93, hj⟩ := Option.bind_eq_some_iff.mp hj
      subst e_b93
      obtain ⟨v94, g_v94, hj⟩ := Option.bind_eq_some_iff.mp hj
      refine r_getR cx hP g_v94 iX3 rfl (by decide) mF_X2_87 dX2_numberAt_18 ?_
      refine lv_iload_n hx hb dX2_numberAt_21 rfl (lv_at hl 2 rfl) ?_
      obtain ⟨b95, e_b95, hj⟩ := Option.bind_eq_some_iff.mp hj
      subst e_b95
      obtain ⟨v96, g_v96, hj⟩ := Option.bind_eq_some_iff.mp hj
      refine r_aldD cx hP g_v96 dX2_numberAt_22 ?_
      obtain ⟨_, o97, hj⟩ := Option.bind_eq_some_iff.mp hj
      obtain ⟨v98, g_v98, hj⟩ := Option.bind_eq_some_iff.mp hj
      refine f_D (k_V (b := a0) (As := [.int v91, .double v96]) (n := 2) (rest := []) cx hl.1 hP hS (c_X2_ofOne l X g M a0 v91 v96 v98 g_v98) o97 rfl mC_X2_ofOne mM_X2_111 mI_X2_ofOne mS_X2_ofOne mZ_X2 (by decide +kernel) ⟨Nat.le_of_ble_eq_true rfl, Nat.le_of_ble_eq_true rfl⟩ rfl rfl (Nat.le_of_ble_eq_true rfl) dX2_numberAt_23 ⟨Nat.le_of_ble_eq_true rfl, Nat.le_of_ble_eq_true rfl⟩) hS (fun H locs hP hS => ?_)
      have hP : hp X M H := hP
      refine W.eq (g2 := F0 m 26 ls [.double v98]) rfl ?_
      refine W.widen (k := 0) (n := 0) (Nat.le_of_ble_eq_true rfl) (Nat.le_of_ble_eq_true rfl) ?_
      exact t_D cx hr hlocks hP hS (congrArg (Prod.mk M) (Option.some.inj hj)) (Nat.le_of_ble_eq_true rfl) (Nat.le_of_ble_eq_true rfl) dX2_numberAt_26
  exact hgo _ _ hP hS
set_option maxHeartbeats 4000000 in
set_option maxRecDepth 100000 in
theorem c_X3_clear (l : Launch) (X : hX) (g : Nat) (M : hm) (a0 : Nat) (a1 : Int32) (RR : hm) (hj : j_X3_clear g M a0 a1 = some RR) : Ct l X yX3_clear cX3_clear 2 none { frames := 0, cells := 0, slots := 0, locals := 0 } [.ref a0, .int a1] M (qV X RR) := by
  refine h_enter (own := RX3) (by decide) rfl (Nat.le_of_ble_eq_true rfl) ?_
  intro p e s m below meth c ls cx hr hlocks hnm hP hS hl
  have hx := cx.1
  have hb := cx.2.1
  have hl : lv_has ls 2 [(0, .ref a0), (1, .int a1)] := hl
  unfold j_X3_clear at hj
  have hgo : ∀ (H : Heap) (locs : List Loc), hp X M H → va_S (hA X) s.heap H locs → W p l e ({ frames := 0, cells := 0, slots := 0, locals := 0 } : Room) s m _ below meth c H locs 0 0 (MQ below (qV X RR) _ s 0 0 (hA X)) (F0 m 0 ls []) := by
    intro H locs hP hS
    refine lv_aload_n hx hb dX3_clear_0 rfl (lv_at hl 0 rfl) ?_
    obtain ⟨v1, g_v1, hj⟩ := Option.bind_eq_some_iff.mp hj
    refine r_getR cx hP g_v1 iX3 rfl (by decide) mF_X3_9 dX3_clear_1 ?_
    refine lv_iload_n hx hb dX3_clear_4 rfl (lv_at hl 1 rfl) ?_
    refine lv_dconst0 hx hb dX3_clear_5 ?_
    obtain ⟨b2, e_b2, hj⟩ := Option.bind_eq_some_iff.mp hj
    subst e_b2
    obtain ⟨M3, g_M3, hj⟩ := Option.bind_eq_some_iff.mp hj
    refine r_astD cx hP hS g_M3 dX3_clear_6 (fun H locs hP hS => ?_)
    refine lv_aload_n hx hb dX3_clear_7 rfl (lv_at hl 0 rfl) ?_
    refine lv_dup hx hb dX3_clear_8 rfl ?_
    obtain ⟨v4, g_v4, hj⟩ := Option.bind_eq_some_iff.mp hj
    refine r_getI cx hP g_v4 iX3 rfl (by decide) mF_X3_16 dX3_clear_9 ?_
    refine lv_iconst (v := 1) hx hb dX3_clear_12 (by decide) ?_
    refine lv_iload_n hx hb dX3_clear_13 rfl (lv_at hl 1 rfl) ?_
    refine lv_ishl hx hb dX3_clear_14 ?_
    refine lv_ior hx hb dX3_clear_15 ?_
    obtain ⟨M5, g_M5, hj⟩ := Option.bind_eq_some_iff.mp hj
    refine r_put cx hP hS g_M5 iX3 tyX3 tyX3_ok nmX3 rfl (by decide) mF_X3_16 rfl rfl rfl dX3_clear_16 (fun H locs hP hS => ?_)
    exact t_V cx hr hlocks hP hS (Option.some.inj hj) (Nat.le_of_ble_eq_true rfl) (Nat.le_of_ble_eq_true rfl) dX3_clear_19
  exact hgo _ _ hP hS
set_option maxHeartbeats 4000000 in
set_option maxRecDepth 100000 in
theorem c_X3_put (l : Launch) (X : hX) (g : Nat) (M : hm) (a0 : Nat) (a1 : Int32) (a2 : UInt64) (RR : hm) (hj : j_X3_put g M a0 a1 a2 = some RR) : Ct l X yX3_put cX3_put 4 none { frames := 0, cells := 0, slots := 0, locals := 0 } [.ref a0, .int a1, .double a2] M (qV X RR) := by
  refine h_enter (own := RX3) (by decide) rfl (Nat.le_of_ble_eq_true rfl) ?_
  intro p e s m below meth c ls cx hr hlocks hnm hP hS hl
  have hx := cx.1
  have hb := cx.2.1
  have hl : lv_has ls 4 [(0, .ref a0), (1, .int a1), (2, .double a2)] := hl
  unfold j_X3_put at hj
  have hgo : ∀ (H : Heap) (locs : List Loc), hp X M H → va_S (hA X) s.heap H locs → W p l e ({ frames := 0, cells := 0, slots := 0, locals := 0 } : Room) s m _ below meth c H locs 0 0 (MQ below (qV X RR) _ s 0 0 (hA X)) (F0 m 0 ls []) := by
    have J_19 : ∀ (M : hm) (p0 : Nat) (p1 : Int32) (s0 : UInt64) (s1 : Int32) (s2 : Option Nat) (H : Heap) (locs : List Loc) (ls : Array Slot), j_X3_put_19 g M p0 p1 s0 s1 s2 = some RR → hp X M H → va_S (hA X) s.heap H locs → lv_has ls 4 [(0, .ref p0), (1, .int p1)] → W p l e ({ frames := 0, cells := 0, slots := 0, locals := 0 } : Room) s m _ below meth c H locs 0 0 (MQ below (qV X RR) _ s 0 0 (hA X)) (F0 m 19 ls [.double s0, .int s1, va_rf s2]) := by
      intro M p0 p1 s0 s1 s2 H locs ls hj hP hS hl
      unfold j_X3_put_19 at hj
      obtain ⟨b1, e_b1, hj⟩ := Option.bind_eq_some_iff.mp hj
      subst e_b1
      obtain ⟨M2, g_M2, hj⟩ := Option.bind_eq_some_iff.mp hj
      refine r_astD cx hP hS g_M2 dX3_put_19 (fun H locs hP hS => ?_)
      refine lv_aload_n hx hb dX3_put_20 rfl (lv_at hl 0 rfl) ?_
      refine lv_dup hx hb dX3_put_21 rfl ?_
      obtain ⟨v3, g_v3, hj⟩ := Option.bind_eq_some_iff.mp hj
      refine r_getI cx hP g_v3 iX3 rfl (by decide) mF_X3_16 dX3_put_22 ?_
      refine lv_iconst (v := 1) hx hb dX3_put_25 (by decide) ?_
      refine lv_iload_n hx hb dX3_put_26 rfl (lv_at hl 1 rfl) ?_
      refine lv_ishl hx hb dX3_put_27 ?_
      refine lv_iconst (v := -1) hx hb dX3_put_28 (by decide) ?_
      refine lv_ixor hx hb dX3_put_29 ?_
      refine lv_iand hx hb dX3_put_30 ?_
      obtain ⟨M4, g_M4, hj⟩ := Option.bind_eq_some_iff.mp hj
      refine r_put cx hP hS g_M4 iX3 tyX3 tyX3_ok nmX3 rfl (by decide) mF_X3_16 rfl rfl rfl dX3_put_31 (fun H locs hP hS => ?_)
      exact t_V cx hr hlocks hP hS (Option.some.inj hj) (Nat.le_of_ble_eq_true rfl) (Nat.le_of_ble_eq_true rfl) dX3_put_34
    intro H locs hP hS
    refine lv_aload_n hx hb dX3_put_0 rfl (lv_at hl 0 rfl) ?_
    obtain ⟨v5, g_v5, hj⟩ := Option.bind_eq_some_iff.mp hj
    refine r_getR cx hP g_v5 iX3 rfl (by decide) mF_X3_9 dX3_put_1 ?_
    refine lv_iload_n hx hb dX3_put_4 rfl (lv_at hl 1 rfl) ?_
    refine lv_aload_n hx hb dX3_put_5 rfl (lv_at hl 0 rfl) ?_
    obtain ⟨v6, g_v6, hj⟩ := Option.bind_eq_some_iff.mp hj
    refine r_getI cx hP g_v6 iX3 rfl (by decide) mF_X3_20 dX3_put_6 ?_
    refine lv_if_eq (tgt := 18) hx hb dX3_put_9 (by decide) (fun c7 => ?_) (fun c7 => ?_)
    · have hj := if_t c7 hj
      refine lv_dload_n hx hb dX3_put_18 rfl (lv_at hl 2 rfl) ?_
      exact J_19 M a0 a1 a2 a1 v5 H locs ls hj hP hS (lv_sub hl [0, 1] rfl)
    · have hj := if_f c7 hj
      refine lv_dload_n hx hb dX3_put_12 rfl (lv_at hl 2 rfl) ?_
      obtain ⟨v8, g_v8, hj⟩ := Option.bind_eq_some_iff.mp hj
      obtain ⟨n_v8, e_v8⟩ := n32_eq g_v8
      refine lv_d2f hx hb dX3_put_13 n_v8 ?_
      rw [← e_v8]
      obtain ⟨v9, g_v9, hj⟩ := Option.bind_eq_some_iff.mp hj
      obtain ⟨n_v9, e_v9⟩ := n64_eq g_v9
      refine lv_f2d hx hb dX3_put_14 n_v9 ?_
      rw [← e_v9]
      refine lv_goto (tgt := 19) hx hb dX3_put_15 (by decide) ?_
      exact J_19 M a0 a1 v9 a1 v5 H locs ls hj hP hS (lv_sub hl [0, 1] rfl)
  exact hgo _ _ hP hS
