set_option maxHeartbeats 4000000 in
set_option maxRecDepth 100000 in
theorem c_X6_zero (l : Launch) (X : hX) (g : Nat) (M : hm) (a0 : Int32) (RR : UInt64) (hj : j_X6_zero g a0 = some RR) : Ct l X yX6_zero cX6_zero 1 (some .double) { frames := 0, cells := 0, slots := 0, locals := 0 } [.int a0] M (qD X (M, RR)) := by
  refine h_enter (own := RX6) (by decide) rfl (Nat.le_of_ble_eq_true rfl) ?_
  intro p e s m below meth c ls cx hr hlocks hnm hP hS hl
  have hx := cx.1
  have hb := cx.2.1
  have hl : lv_has ls 1 [(0, .int a0)] := hl
  unfold j_X6_zero at hj
  have hgo : ∀ (H : Heap) (locs : List Loc), hp X M H → va_S (hA X) s.heap H locs → W p l e ({ frames := 0, cells := 0, slots := 0, locals := 0 } : Room) s m _ below meth c H locs 0 0 (MQ below (qD X (M, RR)) _ s 0 0 (hA X)) (F0 m 0 ls []) := by
    have J_11 : ∀ (s0 : UInt64) (H : Heap) (locs : List Loc) (ls : Array Slot), j_X6_zero_11 g s0 = some RR → hp X M H → va_S (hA X) s.heap H locs → lv_has ls 1 [] → W p l e ({ frames := 0, cells := 0, slots := 0, locals := 0 } : Room) s m _ below meth c H locs 0 0 (MQ below (qD X (M, RR)) _ s 0 0 (hA X)) (F0 m 11 ls [.double s0]) := by
      intro s0 H locs ls hj hP hS hl
      unfold j_X6_zero_11 at hj
      exact t_D cx hr hlocks hP hS (congrArg (Prod.mk M) (Option.some.inj hj)) (Nat.le_of_ble_eq_true rfl) (Nat.le_of_ble_eq_true rfl) dX6_zero_11
    intro H locs hP hS
    refine lv_iload_n hx hb dX6_zero_0 rfl (lv_at hl 0 rfl) ?_
    refine lv_if_eq (tgt := 10) hx hb dX6_zero_1 (by decide) (fun c1 => ?_) (fun c1 => ?_)
    · have hj := if_t c1 hj
      refine lv_dconst0 hx hb dX6_zero_10 ?_
      exact J_11 FP.dconst0 H locs ls hj hP hS (lv_sub hl [] rfl)
    · have hj := if_f c1 hj
      refine lv_ldc2d hx hb cx.2.2.2.1 (cx.2.2.2.2.1 _ mK_X6_65) dX6_zero_4 ?_
      refine lv_goto (tgt := 11) hx hb dX6_zero_7 (by decide) ?_
      exact J_11 (9223372036854775808 : UInt64) H locs ls hj hP hS (lv_sub hl [] rfl)
  exact hgo _ _ hP hS
set_option maxHeartbeats 4000000 in
set_option maxRecDepth 100000 in
theorem c_X6_whole (l : Launch) (X : hX) (g : Nat) (M : hm) (a0 : UInt64) (a2 : Int32) (RR : UInt64) (hj : j_X6_whole g a0 a2 = some RR) : Ct l X yX6_whole cX6_whole 8 (some .double) { frames := 2, cells := 0, slots := 0, locals := 42 } [.double a0, .int a2] M (qD X (M, RR)) := by
  refine h_enter (own := RX6) (by decide) rfl (Nat.le_of_ble_eq_true rfl) ?_
  intro p e s m below meth c ls cx hr hlocks hnm hP hS hl
  have hx := cx.1
  have hb := cx.2.1
  have hl : lv_has ls 8 [(0, .double a0), (2, .int a2)] := hl
  unfold j_X6_whole at hj
  have hgo : ∀ (H : Heap) (locs : List Loc), hp X M H → va_S (hA X) s.heap H locs → W p l e ({ frames := 2, cells := 0, slots := 0, locals := 42 } : Room) s m _ below meth c H locs 0 0 (MQ below (qD X (M, RR)) _ s 0 0 (hA X)) (F0 m 0 ls []) := by
    have J_165 : ∀ (s0 : UInt64) (H : Heap) (locs : List Loc) (ls : Array Slot), j_X6_whole_165 g s0 = some RR → hp X M H → va_S (hA X) s.heap H locs → lv_has ls 8 [] → W p l e ({ frames := 2, cells := 0, slots := 0, locals := 42 } : Room) s m _ below meth c H locs 0 0 (MQ below (qD X (M, RR)) _ s 0 0 (hA X)) (F0 m 165 ls [.double s0]) := by
      intro s0 H locs ls hj hP hS hl
      unfold j_X6_whole_165 at hj
      exact t_D cx hr hlocks hP hS (congrArg (Prod.mk M) (Option.some.inj hj)) (Nat.le_of_ble_eq_true rfl) (Nat.le_of_ble_eq_true rfl) dX6_whole_165
    have J_147 : ∀ (p0 : UInt64) (p3 : Int64) (H : Heap) (locs : List Loc) (ls : Array Slot), j_X6_whole_147 g p0 p3 = some RR → hp X M H → va_S (hA X) s.heap H locs → lv_has ls 8 [(0, .double p0), (3, .long p3)] → W p l e ({ frames := 2, cells := 0, slots := 0, locals := 42 } : Room) s m _ below meth c H locs 0 0 (MQ below (qD X (M, RR)) _ s 0 0 (hA X)) (F0 m 147 ls []) := by
      intro p0 p3 H locs ls hj hP hS hl
      unfold j_X6_whole_147 at hj
      refine lv_lload_n hx hb dX6_whole_147 rfl (lv_at hl 1 rfl) ?_
      refine lv_lconst (v := 0) hx hb dX6_whole_148 (by decide) ?_
      refine W.lcmp hx hb dX6_whole_149 ?_
      refine lv_if_ne (tgt := 163) hx hb dX6_whole_150 (by decide) (fun c1 => ?_) (fun c1 => ?_)
      · have hj := if_f c1 hj
        refine lv_lload_n hx hb dX6_whole_163 rfl (lv_at hl 1 rfl) ?_
        refine lv_l2d hx hb dX6_whole_164 ?_
        exact J_165 (FP.l2d p3) H locs ls hj hP hS (lv_sub hl [] rfl)
      · have hj := if_t c1 hj
        refine lv_dload_n hx hb dX6_whole_153 rfl (lv_at hl 0 rfl) ?_
        obtain ⟨v2, g_v2, hj⟩ := Option.bind_eq_some_iff.mp hj
        refine f_I (k_S (As := [.double p0]) (n := 1) (rest := []) cx hl.1 hP hS (c_X6_hasMinus l X g M p0 v2 g_v2) mC_X6_hasMinus mM_X6_67 mT_X6_hasMinus mZ_X6 (by decide +kernel) ⟨Nat.le_of_ble_eq_true rfl, Nat.le_of_ble_eq_true rfl⟩ rfl rfl (Nat.le_of_ble_eq_true rfl) dX6_whole_154 ⟨Nat.le_of_ble_eq_true rfl, Nat.le_of_ble_eq_true rfl⟩) hS (fun H locs hP hS => ?_)
        have hP : hp X M H := hP
        refine W.eq (g2 := F0 m 157 ls [.int v2]) rfl ?_
        refine W.widen (k := 0) (n := 0) (Nat.le_of_ble_eq_true rfl) (Nat.le_of_ble_eq_true rfl) ?_
        obtain ⟨v3, g_v3, hj⟩ := Option.bind_eq_some_iff.mp hj
        refine f_D (k_S (As := [.int v2]) (n := 1) (rest := []) cx hl.1 hP hS (c_X6_zero l X g M v2 v3 g_v3) mC_X6_zero mM_X6_80 mT_X6_zero mZ_X6 (by decide +kernel) ⟨Nat.le_of_ble_eq_true rfl, Nat.le_of_ble_eq_true rfl⟩ rfl rfl (Nat.le_of_ble_eq_true rfl) dX6_whole_157 ⟨Nat.le_of_ble_eq_true rfl, Nat.le_of_ble_eq_true rfl⟩) hS (fun H locs hP hS => ?_)
        have hP : hp X M H := hP
        refine W.eq (g2 := F0 m 160 ls [.double v3]) rfl ?_
        refine W.widen (k := 0) (n := 0) (Nat.le_of_ble_eq_true rfl) (Nat.le_of_ble_eq_true rfl) ?_
        refine lv_goto (tgt := 165) hx hb dX6_whole_160 (by decide) ?_
        exact J_165 v3 H locs ls hj hP hS (lv_sub hl [] rfl)
    have J_145 : ∀ (p0 : UInt64) (s0 : Int64) (s1 : Int64) (H : Heap) (locs : List Loc) (ls : Array Slot), j_X6_whole_145 g p0 s0 s1 = some RR → hp X M H → va_S (hA X) s.heap H locs → lv_has ls 8 [(0, .double p0)] → W p l e ({ frames := 2, cells := 0, slots := 0, locals := 42 } : Room) s m _ below meth c H locs 0 0 (MQ below (qD X (M, RR)) _ s 0 0 (hA X)) (F0 m 145 ls [.long s0, .long s1]) := by
      intro p0 s0 s1 H locs ls hj hP hS hl
      unfold j_X6_whole_145 at hj
      refine lv_ladd hx hb dX6_whole_145 ?_
      refine lv_lstore_n (lv' := [(3, .long (s1 + s0)), (0, .double p0)]) hx hb dX6_whole_146 rfl hl (by decide) rfl (fun ls hl => ?_)
      exact J_147 p0 (s1 + s0) H locs ls hj hP hS (lv_sub hl [1, 0] rfl)
    have J_144 : ∀ (p0 : UInt64) (s0 : Int64) (H : Heap) (locs : List Loc) (ls : Array Slot), j_X6_whole_144 g p0 s0 = some RR → hp X M H → va_S (hA X) s.heap H locs → lv_has ls 8 [(0, .double p0)] → W p l e ({ frames := 2, cells := 0, slots := 0, locals := 42 } : Room) s m _ below meth c H locs 0 0 (MQ below (qD X (M, RR)) _ s 0 0 (hA X)) (F0 m 144 ls [.long s0]) := by
      intro p0 s0 H locs ls hj hP hS hl
      unfold j_X6_whole_144 at hj
      refine lv_lconst (v := 0) hx hb dX6_whole_144 (by decide) ?_
      exact J_145 p0 (0 : Int64) s0 H locs ls hj hP hS (lv_sub hl [0] rfl)
    have J_138 : ∀ (p0 : UInt64) (s0 : Int64) (H : Heap) (locs : List Loc) (ls : Array Slot), j_X6_whole_138 g p0 s0 = some RR → hp X M H → va_S (hA X) s.heap H locs → lv_has ls 8 [(0, .double p0)] → W p l e ({ frames := 2, cells := 0, slots := 0, locals := 42 } : Room) s m _ below meth c H locs 0 0 (MQ below (qD X (M, RR)) _ s 0 0 (hA X)) (F0 m 138 ls [.long s0]) := by
      intro p0 s0 H locs ls hj hP hS hl
      unfold j_X6_whole_138 at hj
      refine lv_ldc2 hx hb cx.2.2.2.1 (cx.2.2.2.2.1 _ mK_X6_78) dX6_whole_138 ?_
      refine lv_goto (tgt := 145) hx hb dX6_whole_141 (by decide) ?_
      exact J_145 p0 (-1 : Int64) s0 H locs ls hj hP hS (lv_sub hl [0] rfl)
    have J_115 : ∀ (p0 : UInt64) (p5 : UInt64) (p7 : Int32) (s0 : Int64) (H : Heap) (locs : List Loc) (ls : Array Slot), j_X6_whole_115 g p0 p5 p7 s0 = some RR → hp X M H → va_S (hA X) s.heap H locs → lv_has ls 8 [(0, .double p0), (5, .double p5), (7, .int p7)] → W p l e ({ frames := 2, cells := 0, slots := 0, locals := 42 } : Room) s m _ below meth c H locs 0 0 (MQ below (qD X (M, RR)) _ s 0 0 (hA X)) (F0 m 115 ls [.long s0]) := by
      intro p0 p5 p7 s0 H locs ls hj hP hS hl
      unfold j_X6_whole_115 at hj
      refine lv_dload hx hb dX6_whole_115 (lv_at hl 1 rfl) ?_
      refine lv_ldc2d hx hb cx.2.2.2.1 (cx.2.2.2.2.1 _ mK_X6_76) dX6_whole_117 ?_
      refine lv_dcmp hx hb dX6_whole_120 ?_
      refine lv_if_lt (tgt := 138) hx hb dX6_whole_121 (by decide) (fun c4 => ?_) (fun c4 => ?_)
      · have hj := if_t c4 hj
        exact J_138 p0 s0 H locs ls hj hP hS (lv_sub hl [0] rfl)
      · have hj := if_f c4 hj
        refine lv_dload hx hb dX6_whole_124 (lv_at hl 1 rfl) ?_
        refine lv_ldc2d hx hb cx.2.2.2.1 (cx.2.2.2.2.1 _ mK_X6_76) dX6_whole_126 ?_
        refine lv_dcmp hx hb dX6_whole_129 ?_
        refine lv_if_ne (tgt := 144) hx hb dX6_whole_130 (by decide) (fun c5 => ?_) (fun c5 => ?_)
        · have hj := if_f c5 hj
          exact J_144 p0 s0 H locs ls hj hP hS (lv_sub hl [0] rfl)
        · have hj := if_t c5 hj
          refine lv_iload hx hb dX6_whole_133 (lv_at hl 2 rfl) ?_
          refine lv_if_eq (tgt := 144) hx hb dX6_whole_135 (by decide) (fun c6 => ?_) (fun c6 => ?_)
          · have hj := if_t c6 hj
            exact J_144 p0 s0 H locs ls hj hP hS (lv_sub hl [0] rfl)
          · have hj := if_f c6 hj
            exact J_138 p0 s0 H locs ls hj hP hS (lv_sub hl [0] rfl)
    have J_111 : ∀ (p0 : UInt64) (s0 : Int64) (H : Heap) (locs : List Loc) (ls : Array Slot), j_X6_whole_111 g p0 s0 = some RR → hp X M H → va_S (hA X) s.heap H locs → lv_has ls 8 [(0, .double p0)] → W p l e ({ frames := 2, cells := 0, slots := 0, locals := 42 } : Room) s m _ below meth c H locs 0 0 (MQ below (qD X (M, RR)) _ s 0 0 (hA X)) (F0 m 111 ls [.long s0]) := by
      intro p0 s0 H locs ls hj hP hS hl
      unfold j_X6_whole_111 at hj
      refine lv_lconst (v := 1) hx hb dX6_whole_111 (by decide) ?_
      refine lv_goto (tgt := 145) hx hb dX6_whole_112 (by decide) ?_
      exact J_145 p0 (1 : Int64) s0 H locs ls hj hP hS (lv_sub hl [0] rfl)
    have J_85 : ∀ (p0 : UInt64) (p3 : Int64) (p5 : UInt64) (s0 : Int32) (H : Heap) (locs : List Loc) (ls : Array Slot), j_X6_whole_85 g p0 p3 p5 s0 = some RR → hp X M H → va_S (hA X) s.heap H locs → lv_has ls 8 [(0, .double p0), (3, .long p3), (5, .double p5)] → W p l e ({ frames := 2, cells := 0, slots := 0, locals := 42 } : Room) s m _ below meth c H locs 0 0 (MQ below (qD X (M, RR)) _ s 0 0 (hA X)) (F0 m 85 ls [.int s0]) := by
      intro p0 p3 p5 s0 H locs ls hj hP hS hl
      unfold j_X6_whole_85 at hj
      refine lv_istore (lv' := [(7, .int s0), (0, .double p0), (3, .long p3), (5, .double p5)]) hx hb dX6_whole_85 hl (by decide) rfl (fun ls hl => ?_)
      refine lv_lload_n hx hb dX6_whole_87 rfl (lv_at hl 2 rfl) ?_
      refine lv_dload hx hb dX6_whole_88 (lv_at hl 3 rfl) ?_
      refine lv_ldc2d hx hb cx.2.2.2.1 (cx.2.2.2.2.1 _ mK_X6_74) dX6_whole_90 ?_
      refine lv_dcmp hx hb dX6_whole_93 ?_
      refine lv_if_gt (tgt := 111) hx hb dX6_whole_94 (by decide) (fun c7 => ?_) (fun c7 => ?_)
      · have hj := if_t c7 hj
        exact J_111 p0 p3 H locs ls hj hP hS (lv_sub hl [1] rfl)
      · have hj := if_f c7 hj
        refine lv_dload hx hb dX6_whole_97 (lv_at hl 3 rfl) ?_
        refine lv_ldc2d hx hb cx.2.2.2.1 (cx.2.2.2.2.1 _ mK_X6_74) dX6_whole_99 ?_
        refine lv_dcmp hx hb dX6_whole_102 ?_
        refine lv_if_ne (tgt := 115) hx hb dX6_whole_103 (by decide) (fun c8 => ?_) (fun c8 => ?_)
        · have hj := if_f c8 hj
          exact J_115 p0 p5 s0 p3 H locs ls hj hP hS (lv_sub hl [1, 3, 0] rfl)
        · have hj := if_t c8 hj
          refine lv_iload hx hb dX6_whole_106 (lv_at hl 0 rfl) ?_
          refine lv_if_eq (tgt := 115) hx hb dX6_whole_108 (by decide) (fun c9 => ?_) (fun c9 => ?_)
          · have hj := if_t c9 hj
            exact J_115 p0 p5 s0 p3 H locs ls hj hP hS (lv_sub hl [1, 3, 0] rfl)
          · have hj := if_f c9 hj
            exact J_111 p0 p3 H locs ls hj hP hS (lv_sub hl [1] rfl)
    have J_67 : ∀ (p0 : UInt64) (s0 : Int64) (s1 : Int64) (H : Heap) (locs : List Loc) (ls : Array Slot), j_X6_whole_67 g p0 s0 s1 = some RR → hp X M H → va_S (hA X) s.heap H locs → lv_has ls 8 [(0, .double p0)] → W p l e ({ frames := 2, cells := 0, slots := 0, locals := 42 } : Room) s m _ below meth c H locs 0 0 (MQ below (qD X (M, RR)) _ s 0 0 (hA X)) (F0 m 67 ls [.long s0, .long s1]) := by
      intro p0 s0 s1 H locs ls hj hP hS hl
      unfold j_X6_whole_67 at hj
      refine lv_ladd hx hb dX6_whole_67 ?_
      refine lv_lstore_n (lv' := [(3, .long (s1 + s0)), (0, .double p0)]) hx hb dX6_whole_68 rfl hl (by decide) rfl (fun ls hl => ?_)
      refine lv_goto (tgt := 147) hx hb dX6_whole_69 (by decide) ?_
      exact J_147 p0 (s1 + s0) H locs ls hj hP hS (lv_sub hl [1, 0] rfl)
    have J_44 : ∀ (p0 : UInt64) (s0 : Int64) (s1 : Int64) (H : Heap) (locs : List Loc) (ls : Array Slot), j_X6_whole_44 g p0 s0 s1 = some RR → hp X M H → va_S (hA X) s.heap H locs → lv_has ls 8 [(0, .double p0)] → W p l e ({ frames := 2, cells := 0, slots := 0, locals := 42 } : Room) s m _ below meth c H locs 0 0 (MQ below (qD X (M, RR)) _ s 0 0 (hA X)) (F0 m 44 ls [.long s0, .long s1]) := by
      intro p0 s0 s1 H locs ls hj hP hS hl
      unfold j_X6_whole_44 at hj
      refine lv_lsub hx hb dX6_whole_44 ?_
      refine lv_lstore_n (lv' := [(3, .long (s1 - s0)), (0, .double p0)]) hx hb dX6_whole_45 rfl hl (by decide) rfl (fun ls hl => ?_)
      refine lv_goto (tgt := 147) hx hb dX6_whole_46 (by decide) ?_
      exact J_147 p0 (s1 - s0) H locs ls hj hP hS (lv_sub hl [1, 0] rfl)
    have J_16 : ∀ (p0 : UInt64) (H : Heap) (locs : List Loc) (ls : Array Slot), j_X6_whole_16 g p0 = some RR → hp X M H → va_S (hA X) s.heap H locs → lv_has ls 8 [(0, .double p0)] → W p l e ({ frames := 2, cells := 0, slots := 0, locals := 42 } : Room) s m _ below meth c H locs 0 0 (MQ below (qD X (M, RR)) _ s 0 0 (hA X)) (F0 m 16 ls []) := by
      intro p0 H locs ls hj hP hS hl
      unfold j_X6_whole_16 at hj
      refine lv_dload_n hx hb dX6_whole_16 rfl (lv_at hl 0 rfl) ?_
      exact t_D cx hr hlocks hP hS (congrArg (Prod.mk M) (Option.some.inj hj)) (Nat.le_of_ble_eq_true rfl) (Nat.le_of_ble_eq_true rfl) dX6_whole_17
    intro H locs hP hS
    refine lv_dload_n hx hb dX6_whole_0 rfl (lv_at hl 0 rfl) ?_
    refine lv_ldc2d hx hb cx.2.2.2.1 (cx.2.2.2.2.1 _ mK_X6_70) dX6_whole_1 ?_
    refine lv_dcmp hx hb dX6_whole_4 ?_
    refine lv_if_ge (tgt := 16) hx hb dX6_whole_5 (by decide) (fun c10 => ?_) (fun c10 => ?_)
    · have hj := if_t c10 hj
      exact J_16 a0 H locs ls hj hP hS (lv_sub hl [0] rfl)
    · have hj := if_f c10 hj
      refine lv_dload_n hx hb dX6_whole_8 rfl (lv_at hl 0 rfl) ?_
      refine lv_ldc2d hx hb cx.2.2.2.1 (cx.2.2.2.2.1 _ mK_X6_72) dX6_whole_9 ?_
      refine lv_dcmp hx hb dX6_whole_12 ?_
      refine lv_if_gt (tgt := 18) hx hb dX6_whole_13 (by decide) (fun c11 => ?_) (fun c11 => ?_)
      · have hj := if_t c11 hj
        refine lv_dload_n hx hb dX6_whole_18 rfl (lv_at hl 0 rfl) ?_
        refine lv_d2l hx hb dX6_whole_19 ?_
        refine lv_lstore_n (lv' := [(3, .long (FP.d2l a0)), (0, .double a0), (2, .int a2)]) hx hb dX6_whole_20 rfl hl (by decide) rfl (fun ls hl => ?_)
        refine lv_dload_n hx hb dX6_whole_21 rfl (lv_at hl 1 rfl) ?_
        refine lv_lload_n hx hb dX6_whole_22 rfl (lv_at hl 0 rfl) ?_
        refine lv_l2d hx hb dX6_whole_23 ?_
        obtain ⟨v12, g_v12, hj⟩ := Option.bind_eq_some_iff.mp hj
        obtain ⟨n_v12, e_v12⟩ := n64_eq g_v12
        refine lv_dsub hx hb dX6_whole_24 n_v12 ?_
        rw [← e_v12]
        refine lv_dstore (lv' := [(5, .double v12), (3, .long (FP.d2l a0)), (0, .double a0), (2, .int a2)]) hx hb dX6_whole_25 hl (by decide) rfl (fun ls hl => ?_)
        refine lv_iload_n hx hb dX6_whole_27 rfl (lv_at hl 3 rfl) ?_
        refine lv_if_ne (tgt := 49) hx hb dX6_whole_28 (by decide) (fun c13 => ?_) (fun c13 => ?_)
        · have hj := if_f c13 hj
          refine lv_iload_n hx hb dX6_whole_49 rfl (lv_at hl 3 rfl) ?_
          refine lv_iconst (v := 1) hx hb dX6_whole_50 (by decide) ?_
          refine lv_icmp_ne (tgt := 72) hx hb dX6_whole_51 (by decide) (fun c14 => ?_) (fun c14 => ?_)
          · have hj := if_f c14 hj
            refine lv_lload_n hx hb dX6_whole_72 rfl (lv_at hl 1 rfl) ?_
            refine lv_lconst (v := 1) hx hb dX6_whole_73 (by decide) ?_
            refine lv_land hx hb dX6_whole_74 ?_
            refine lv_lconst (v := 1) hx hb dX6_whole_75 (by decide) ?_
            refine W.lcmp hx hb dX6_whole_76 ?_
            refine lv_if_ne (tgt := 84) hx hb dX6_whole_77 (by decide) (fun c15 => ?_) (fun c15 => ?_)
            · have hj := if_f c15 hj
              refine lv_iconst (v := 0) hx hb dX6_whole_84 (by decide) ?_
              exact J_85 a0 (FP.d2l a0) v12 (0 : Int32) H locs ls hj hP hS (lv_sub hl [2, 1, 0] rfl)
            · have hj := if_t c15 hj
              refine lv_iconst (v := 1) hx hb dX6_whole_80 (by decide) ?_
              refine lv_goto (tgt := 85) hx hb dX6_whole_81 (by decide) ?_
              exact J_85 a0 (FP.d2l a0) v12 (1 : Int32) H locs ls hj hP hS (lv_sub hl [2, 1, 0] rfl)
          · have hj := if_t c14 hj
            refine lv_lload_n hx hb dX6_whole_54 rfl (lv_at hl 1 rfl) ?_
            refine lv_dload hx hb dX6_whole_55 (lv_at hl 0 rfl) ?_
            refine lv_dconst0 hx hb dX6_whole_57 ?_
            refine lv_dcmp hx hb dX6_whole_58 ?_
            refine lv_if_le (tgt := 66) hx hb dX6_whole_59 (by decide) (fun c16 => ?_) (fun c16 => ?_)
            · have hj := if_t c16 hj
              refine lv_lconst (v := 0) hx hb dX6_whole_66 (by decide) ?_
              exact J_67 a0 (0 : Int64) (FP.d2l a0) H locs ls hj hP hS (lv_sub hl [2] rfl)
            · have hj := if_f c16 hj
              refine lv_lconst (v := 1) hx hb dX6_whole_62 (by decide) ?_
              refine lv_goto (tgt := 67) hx hb dX6_whole_63 (by decide) ?_
              exact J_67 a0 (1 : Int64) (FP.d2l a0) H locs ls hj hP hS (lv_sub hl [2] rfl)
        · have hj := if_t c13 hj
          refine lv_lload_n hx hb dX6_whole_31 rfl (lv_at hl 1 rfl) ?_
          refine lv_dload hx hb dX6_whole_32 (lv_at hl 0 rfl) ?_
          refine lv_dconst0 hx hb dX6_whole_34 ?_
          refine lv_dcmp hx hb dX6_whole_35 ?_
          refine lv_if_ge (tgt := 43) hx hb dX6_whole_36 (by decide) (fun c17 => ?_) (fun c17 => ?_)
          · have hj := if_t c17 hj
            refine lv_lconst (v := 0) hx hb dX6_whole_43 (by decide) ?_
            exact J_44 a0 (0 : Int64) (FP.d2l a0) H locs ls hj hP hS (lv_sub hl [2] rfl)
          · have hj := if_f c17 hj
            refine lv_lconst (v := 1) hx hb dX6_whole_39 (by decide) ?_
            refine lv_goto (tgt := 44) hx hb dX6_whole_40 (by decide) ?_
            exact J_44 a0 (1 : Int64) (FP.d2l a0) H locs ls hj hP hS (lv_sub hl [2] rfl)
      · have hj := if_f c11 hj
        exact J_16 a0 H locs ls hj hP hS (lv_sub hl [0] rfl)
  exact hgo _ _ hP hS
set_option maxHeartbeats 4000000 in
set_option maxRecDepth 100000 in
theorem c_X6_quotient (l : Launch) (X : hX) (g : Nat) (M : hm) (a0 : UInt64) (a2 : UInt64) (a4 : Int32) (RR : UInt64) (hj : j_X6_quotient g a0 a2 a4 = some RR) : Ct l X yX6_quotient cX6_quotient 5 (some .double) { frames := 0, cells := 0, slots := 0, locals := 0 } [.double a0, .double a2, .int a4] M (qD X (M, RR)) := by
  refine h_enter (own := RX6) (by decide) rfl (Nat.le_of_ble_eq_true rfl) ?_
  intro p e s m below meth c ls cx hr hlocks hnm hP hS hl
  have hx := cx.1
  have hb := cx.2.1
  have hl : lv_has ls 5 [(0, .double a0), (2, .double a2), (4, .int a4)] := hl
  unfold j_X6_quotient at hj
  have hgo : ∀ (H : Heap) (locs : List Loc), hp X M H → va_S (hA X) s.heap H locs → W p l e ({ frames := 0, cells := 0, slots := 0, locals := 0 } : Room) s m _ below meth c H locs 0 0 (MQ below (qD X (M, RR)) _ s 0 0 (hA X)) (F0 m 0 ls []) := by
    have J_17 : ∀ (s0 : UInt64) (H : Heap) (locs : List Loc) (ls : Array Slot), j_X6_quotient_17 g s0 = some RR → hp X M H → va_S (hA X) s.heap H locs → lv_has ls 5 [] → W p l e ({ frames := 0, cells := 0, slots := 0, locals := 0 } : Room) s m _ below meth c H locs 0 0 (MQ below (qD X (M, RR)) _ s 0 0 (hA X)) (F0 m 17 ls [.double s0]) := by
      intro s0 H locs ls hj hP hS hl
      unfold j_X6_quotient_17 at hj
      exact t_D cx hr hlocks hP hS (congrArg (Prod.mk M) (Option.some.inj hj)) (Nat.le_of_ble_eq_true rfl) (Nat.le_of_ble_eq_true rfl) dX6_quotient_17
    intro H locs hP hS
    refine lv_iload hx hb dX6_quotient_0 (lv_at hl 2 rfl) ?_
    refine lv_if_eq (tgt := 14) hx hb dX6_quotient_2 (by decide) (fun c1 => ?_) (fun c1 => ?_)
    · have hj := if_t c1 hj
      refine lv_dload_n hx hb dX6_quotient_14 rfl (lv_at hl 0 rfl) ?_
      refine lv_dload_n hx hb dX6_quotient_15 rfl (lv_at hl 1 rfl) ?_
      obtain ⟨v2, g_v2, hj⟩ := Option.bind_eq_some_iff.mp hj
      obtain ⟨n_v2, e_v2⟩ := n64_eq g_v2
      refine lv_ddiv hx hb dX6_quotient_16 n_v2 ?_
      rw [← e_v2]
      exact J_17 v2 H locs ls hj hP hS (lv_sub hl [] rfl)
    · have hj := if_f c1 hj
      refine lv_dload_n hx hb dX6_quotient_5 rfl (lv_at hl 0 rfl) ?_
      obtain ⟨v3, g_v3, hj⟩ := Option.bind_eq_some_iff.mp hj
      obtain ⟨n_v3, e_v3⟩ := n32_eq g_v3
      refine lv_d2f hx hb dX6_quotient_6 n_v3 ?_
      rw [← e_v3]
      refine lv_dload_n hx hb dX6_quotient_7 rfl (lv_at hl 1 rfl) ?_
      obtain ⟨v4, g_v4, hj⟩ := Option.bind_eq_some_iff.mp hj
      obtain ⟨n_v4, e_v4⟩ := n32_eq g_v4
      refine lv_d2f hx hb dX6_quotient_8 n_v4 ?_
      rw [← e_v4]
      obtain ⟨v5, g_v5, hj⟩ := Option.bind_eq_some_iff.mp hj
      obtain ⟨n_v5, e_v5⟩ := n32_eq g_v5
      refine lv_fdiv hx hb dX6_quotient_9 n_v5 ?_
      rw [← e_v5]
      obtain ⟨v6, g_v6, hj⟩ := Option.bind_eq_some_iff.mp hj
      obtain ⟨n_v6, e_v6⟩ := n64_eq g_v6
      refine lv_f2d hx hb dX6_quotient_10 n_v6 ?_
      rw [← e_v6]
      refine lv_goto (tgt := 17) hx hb dX6_quotient_11 (by decide) ?_
      exact J_17 v6 H locs ls hj hP hS (lv_sub hl [] rfl)
  exact hgo _ _ hP hS
set_option maxHeartbeats 4000000 in
set_option maxRecDepth 100000 in
theorem c_X6_product (l : Launch) (X : hX) (g : Nat) (M : hm) (a0 : UInt64) (a2 : UInt64) (a4 : Int32) (RR : UInt64) (hj : j_X6_product g a0 a2 a4 = some RR) : Ct l X yX6_product cX6_product 5 (some .double) { frames := 0, cells := 0, slots := 0, locals := 0 } [.double a0, .double a2, .int a4] M (qD X (M, RR)) := by
  refine h_enter (own := RX6) (by decide) rfl (Nat.le_of_ble_eq_true rfl) ?_
  intro p e s m below meth c ls cx hr hlocks hnm hP hS hl
  have hx := cx.1
  have hb := cx.2.1
  have hl : lv_has ls 5 [(0, .double a0), (2, .double a2), (4, .int a4)] := hl
  unfold j_X6_product at hj
  have hgo : ∀ (H : Heap) (locs : List Loc), hp X M H → va_S (hA X) s.heap H locs → W p l e ({ frames := 0, cells := 0, slots := 0, locals := 0 } : Room) s m _ below meth c H locs 0 0 (MQ below (qD X (M, RR)) _ s 0 0 (hA X)) (F0 m 0 ls []) := by
    have J_17 : ∀ (s0 : UInt64) (H : Heap) (locs : List Loc) (ls : Array Slot), j_X6_product_17 g s0 = some RR → hp X M H → va_S (hA X) s.heap H locs → lv_has ls 5 [] → W p l e ({ frames := 0, cells := 0, slots := 0, locals := 0 } : Room) s m _ below meth c H locs 0 0 (MQ below (qD X (M, RR)) _ s 0 0 (hA X)) (F0 m 17 ls [.double s0]) := by
      intro s0 H locs ls hj hP hS hl
      unfold j_X6_product_17 at hj
      exact t_D cx hr hlocks hP hS (congrArg (Prod.mk M) (Option.some.inj hj)) (Nat.le_of_ble_eq_true rfl) (Nat.le_of_ble_eq_true rfl) dX6_product_17
    intro H locs hP hS
    refine lv_iload hx hb dX6_product_0 (lv_at hl 2 rfl) ?_
    refine lv_if_eq (tgt := 14) hx hb dX6_product_2 (by decide) (fun c1 => ?_) (fun c1 => ?_)
    · have hj := if_t c1 hj
      refine lv_dload_n hx hb dX6_product_14 rfl (lv_at hl 0 rfl) ?_
      refine lv_dload_n hx hb dX6_product_15 rfl (lv_at hl 1 rfl) ?_
      obtain ⟨v2, g_v2, hj⟩ := Option.bind_eq_some_iff.mp hj
      obtain ⟨n_v2, e_v2⟩ := n64_eq g_v2
      refine lv_dmul hx hb dX6_product_16 n_v2 ?_
      rw [← e_v2]
      exact J_17 v2 H locs ls hj hP hS (lv_sub hl [] rfl)
    · have hj := if_f c1 hj
      refine lv_dload_n hx hb dX6_product_5 rfl (lv_at hl 0 rfl) ?_
      obtain ⟨v3, g_v3, hj⟩ := Option.bind_eq_some_iff.mp hj
      obtain ⟨n_v3, e_v3⟩ := n32_eq g_v3
      refine lv_d2f hx hb dX6_product_6 n_v3 ?_
      rw [← e_v3]
      refine lv_dload_n hx hb dX6_product_7 rfl (lv_at hl 1 rfl) ?_
      obtain ⟨v4, g_v4, hj⟩ := Option.bind_eq_some_iff.mp hj
      obtain ⟨n_v4, e_v4⟩ := n32_eq g_v4
      refine lv_d2f hx hb dX6_product_8 n_v4 ?_
      rw [← e_v4]
      obtain ⟨v5, g_v5, hj⟩ := Option.bind_eq_some_iff.mp hj
      obtain ⟨n_v5, e_v5⟩ := n32_eq g_v5
      refine lv_fmul hx hb dX6_product_9 n_v5 ?_
      rw [← e_v5]
      obtain ⟨v6, g_v6, hj⟩ := Option.bind_eq_some_iff.mp hj
      obtain ⟨n_v6, e_v6⟩ := n64_eq g_v6
      refine lv_f2d hx hb dX6_product_10 n_v6 ?_
      rw [← e_v6]
      refine lv_goto (tgt := 17) hx hb dX6_product_11 (by decide) ?_
      exact J_17 v6 H locs ls hj hP hS (lv_sub hl [] rfl)
  exact hgo _ _ hP hS
set_option maxHeartbeats 4000000 in
set_option maxRecDepth 100000 in
theorem c_X6_single (l : Launch) (X : hX) (g : Nat) (M : hm) (a0 : Nat) (a1 : Int32) (a2 : UInt64) (a4 : Int32) (RR : hm) (hj : j_X6_single g M a0 a1 a2 a4 = some RR) : Ct l X yX6_single cX6_single 5 none { frames := 3, cells := 0, slots := 0, locals := 69 } [.ref a0, .int a1, .double a2, .int a4] M (qV X RR) := by
  refine h_enter (own := RX6) (by decide) rfl (Nat.le_of_ble_eq_true rfl) ?_
  intro p e s m below meth c ls cx hr hlocks hnm hP hS hl
  have hx := cx.1
  have hb := cx.2.1
  have hl : lv_has ls 5 [(0, .ref a0), (1, .int a1), (2, .double a2), (4, .int a4)] := hl
  unfold j_X6_single at hj
  have hgo : ∀ (H : Heap) (locs : List Loc), hp X M H → va_S (hA X) s.heap H locs → W p l e ({ frames := 3, cells := 0, slots := 0, locals := 69 } : Room) s m _ below meth c H locs 0 0 (MQ below (qV X RR) _ s 0 0 (hA X)) (F0 m 0 ls []) := by
    have J_180 : ∀ (M : hm) (H : Heap) (locs : List Loc) (ls : Array Slot), j_X6_single_180 g M = some RR → hp X M H → va_S (hA X) s.heap H locs → lv_has ls 5 [] → W p l e ({ frames := 3, cells := 0, slots := 0, locals := 69 } : Room) s m _ below meth c H locs 0 0 (MQ below (qV X RR) _ s 0 0 (hA X)) (F0 m 180 ls []) := by
      intro M H locs ls hj hP hS hl
      unfold j_X6_single_180 at hj
      exact t_V cx hr hlocks hP hS (Option.some.inj hj) (Nat.le_of_ble_eq_true rfl) (Nat.le_of_ble_eq_true rfl) dX6_single_180
    have J_136 : ∀ (M : hm) (s0 : UInt64) (s1 : Nat) (H : Heap) (locs : List Loc) (ls : Array Slot), j_X6_single_136 g M s0 s1 = some RR → hp X M H → va_S (hA X) s.heap H locs → lv_has ls 5 [] → W p l e ({ frames := 3, cells := 0, slots := 0, locals := 69 } : Room) s m _ below meth c H locs 0 0 (MQ below (qV X RR) _ s 0 0 (hA X)) (F0 m 136 ls [.double s0, .ref s1]) := by
      intro M s0 s1 H locs ls hj hP hS hl
      unfold j_X6_single_136 at hj
      obtain ⟨_, o1, hj⟩ := Option.bind_eq_some_iff.mp hj
      obtain ⟨M2, g_M2, hj⟩ := Option.bind_eq_some_iff.mp hj
      refine f_V (k_V (b := s1) (As := [.double s0]) (n := 1) (rest := []) cx hl.1 hP hS (c_X6_gives l X g M s1 s0 M2 g_M2) o1 rfl mC_X6_gives mM_X6_94 mI_X6_gives mS_X6_gives mZ_X6 (by decide +kernel) ⟨Nat.le_of_ble_eq_true rfl, Nat.le_of_ble_eq_true rfl⟩ rfl rfl (Nat.le_of_ble_eq_true rfl) dX6_single_136 ⟨Nat.le_of_ble_eq_true rfl, Nat.le_of_ble_eq_true rfl⟩) hS (fun H locs hP hS => ?_)
      have hP : hp X M2 H := hP
      refine W.eq (g2 := F0 m 139 ls []) rfl ?_
      refine W.widen (k := 0) (n := 0) (Nat.le_of_ble_eq_true rfl) (Nat.le_of_ble_eq_true rfl) ?_
      refine lv_goto (tgt := 180) hx hb dX6_single_139 (by decide) ?_
      exact J_180 M2 H locs ls hj hP hS (lv_sub hl [] rfl)
    have J_70 : ∀ (M : hm) (s0 : UInt64) (s1 : Nat) (H : Heap) (locs : List Loc) (ls : Array Slot), j_X6_single_70 g M s0 s1 = some RR → hp X M H → va_S (hA X) s.heap H locs → lv_has ls 5 [] → W p l e ({ frames := 3, cells := 0, slots := 0, locals := 69 } : Room) s m _ below meth c H locs 0 0 (MQ below (qV X RR) _ s 0 0 (hA X)) (F0 m 70 ls [.double s0, .ref s1]) := by
      intro M s0 s1 H locs ls hj hP hS hl
      unfold j_X6_single_70 at hj
      obtain ⟨_, o3, hj⟩ := Option.bind_eq_some_iff.mp hj
      obtain ⟨M4, g_M4, hj⟩ := Option.bind_eq_some_iff.mp hj
      refine f_V (k_V (b := s1) (As := [.double s0]) (n := 1) (rest := []) cx hl.1 hP hS (c_X6_gives l X g M s1 s0 M4 g_M4) o3 rfl mC_X6_gives mM_X6_94 mI_X6_gives mS_X6_gives mZ_X6 (by decide +kernel) ⟨Nat.le_of_ble_eq_true rfl, Nat.le_of_ble_eq_true rfl⟩ rfl rfl (Nat.le_of_ble_eq_true rfl) dX6_single_70 ⟨Nat.le_of_ble_eq_true rfl, Nat.le_of_ble_eq_true rfl⟩) hS (fun H locs hP hS => ?_)
      have hP : hp X M4 H := hP
      refine W.eq (g2 := F0 m 73 ls []) rfl ?_
      refine W.widen (k := 0) (n := 0) (Nat.le_of_ble_eq_true rfl) (Nat.le_of_ble_eq_true rfl) ?_
      refine lv_goto (tgt := 180) hx hb dX6_single_73 (by decide) ?_
      exact J_180 M4 H locs ls hj hP hS (lv_sub hl [] rfl)
    intro H locs hP hS
    refine lv_iload_n hx hb dX6_single_0 rfl (lv_at hl 1 rfl) ?_
    by_cases c5 : a1 = (0 : Int32)
    · have hj := if_t c5 hj
      refine lv_tableIn (off := 47) (tgt := 48) hx hb dX6_single_1 (by rw [c5]; decide) (by rw [c5]; decide) (by rw [c5]; decide) (by decide) ?_
      refine lv_aload_n hx hb dX6_single_48 rfl (lv_at hl 0 rfl) ?_
      refine lv_dload_n hx hb dX6_single_49 rfl (lv_at hl 2 rfl) ?_
      obtain ⟨_, o13, hj⟩ := Option.bind_eq_some_iff.mp hj
      obtain ⟨M14, g_M14, hj⟩ := Option.bind_eq_some_iff.mp hj
      refine f_V (k_V (b := a0) (As := [.double a2]) (n := 1) (rest := []) cx hl.1 hP hS (c_X6_gives l X g M a0 a2 M14 g_M14) o13 rfl mC_X6_gives mM_X6_94 mI_X6_gives mS_X6_gives mZ_X6 (by decide +kernel) ⟨Nat.le_of_ble_eq_true rfl, Nat.le_of_ble_eq_true rfl⟩ rfl rfl (Nat.le_of_ble_eq_true rfl) dX6_single_50 ⟨Nat.le_of_ble_eq_true rfl, Nat.le_of_ble_eq_true rfl⟩) hS (fun H locs hP hS => ?_)
      have hP : hp X M14 H := hP
      refine W.eq (g2 := F0 m 53 ls []) rfl ?_
      refine W.widen (k := 0) (n := 0) (Nat.le_of_ble_eq_true rfl) (Nat.le_of_ble_eq_true rfl) ?_
      refine lv_goto (tgt := 180) hx hb dX6_single_53 (by decide) ?_
      exact J_180 M14 H locs ls hj hP hS (lv_sub hl [] rfl)
    have hj := if_f c5 hj
    by_cases c6 : a1 = (1 : Int32)
    · have hj := if_t c6 hj
      refine lv_tableIn (off := 55) (tgt := 56) hx hb dX6_single_1 (by rw [c6]; decide) (by rw [c6]; decide) (by rw [c6]; decide) (by decide) ?_
      refine lv_aload_n hx hb dX6_single_56 rfl (lv_at hl 0 rfl) ?_
      refine lv_dload_n hx hb dX6_single_57 rfl (lv_at hl 2 rfl) ?_
      obtain ⟨v15, g_v15, hj⟩ := Option.bind_eq_some_iff.mp hj
      refine f_I (k_S (As := [.double a2]) (n := 1) (rest := [.ref a0]) cx hl.1 hP hS (c_X6_hasMinus l X g M a2 v15 g_v15) mC_X6_hasMinus mM_X6_67 mT_X6_hasMinus mZ_X6 (by decide +kernel) ⟨Nat.le_of_ble_eq_true rfl, Nat.le_of_ble_eq_true rfl⟩ rfl rfl (Nat.le_of_ble_eq_true rfl) dX6_single_58 ⟨Nat.le_of_ble_eq_true rfl, Nat.le_of_ble_eq_true rfl⟩) hS (fun H locs hP hS => ?_)
      have hP : hp X M H := hP
      refine W.eq (g2 := F0 m 61 ls [.int v15, .ref a0]) rfl ?_
      refine W.widen (k := 0) (n := 0) (Nat.le_of_ble_eq_true rfl) (Nat.le_of_ble_eq_true rfl) ?_
      refine lv_if_eq (tgt := 69) hx hb dX6_single_61 (by decide) (fun c16 => ?_) (fun c16 => ?_)
      · have hj := if_t c16 hj
        refine lv_dload_n hx hb dX6_single_69 rfl (lv_at hl 2 rfl) ?_
        exact J_70 M a2 a0 H locs ls hj hP hS (lv_sub hl [] rfl)
      · have hj := if_f c16 hj
        refine lv_dload_n hx hb dX6_single_64 rfl (lv_at hl 2 rfl) ?_
        refine lv_dneg hx hb dX6_single_65 ?_
        refine lv_goto (tgt := 70) hx hb dX6_single_66 (by decide) ?_
        exact J_70 M (FP.dneg a2) a0 H locs ls hj hP hS (lv_sub hl [] rfl)
    have hj := if_f c6 hj
    by_cases c7 : a1 = (2 : Int32)
    · have hj := if_t c7 hj
      refine lv_tableIn (off := 75) (tgt := 76) hx hb dX6_single_1 (by rw [c7]; decide) (by rw [c7]; decide) (by rw [c7]; decide) (by decide) ?_
      refine lv_aload_n hx hb dX6_single_76 rfl (lv_at hl 0 rfl) ?_
      refine lv_dload_n hx hb dX6_single_77 rfl (lv_at hl 2 rfl) ?_
      refine lv_iconst (v := 0) hx hb dX6_single_78 (by decide) ?_
      obtain ⟨v17, g_v17, hj⟩ := Option.bind_eq_some_iff.mp hj
      refine f_D (k_S (As := [.double a2, .int (0 : Int32)]) (n := 2) (rest := [.ref a0]) cx hl.1 hP hS (c_X6_whole l X g M a2 (0 : Int32) v17 g_v17) mC_X6_whole mM_X6_98 mT_X6_whole mZ_X6 (by decide +kernel) ⟨Nat.le_of_ble_eq_true rfl, Nat.le_of_ble_eq_true rfl⟩ rfl rfl (Nat.le_of_ble_eq_true rfl) dX6_single_79 ⟨Nat.le_of_ble_eq_true rfl, Nat.le_of_ble_eq_true rfl⟩) hS (fun H locs hP hS => ?_)
      have hP : hp X M H := hP
      refine W.eq (g2 := F0 m 82 ls [.double v17, .ref a0]) rfl ?_
      refine W.widen (k := 0) (n := 0) (Nat.le_of_ble_eq_true rfl) (Nat.le_of_ble_eq_true rfl) ?_
      obtain ⟨_, o18, hj⟩ := Option.bind_eq_some_iff.mp hj
      obtain ⟨M19, g_M19, hj⟩ := Option.bind_eq_some_iff.mp hj
      refine f_V (k_V (b := a0) (As := [.double v17]) (n := 1) (rest := []) cx hl.1 hP hS (c_X6_gives l X g M a0 v17 M19 g_M19) o18 rfl mC_X6_gives mM_X6_94 mI_X6_gives mS_X6_gives mZ_X6 (by decide +kernel) ⟨Nat.le_of_ble_eq_true rfl, Nat.le_of_ble_eq_true rfl⟩ rfl rfl (Nat.le_of_ble_eq_true rfl) dX6_single_82 ⟨Nat.le_of_ble_eq_true rfl, Nat.le_of_ble_eq_true rfl⟩) hS (fun H locs hP hS => ?_)
      have hP : hp X M19 H := hP
      refine W.eq (g2 := F0 m 85 ls []) rfl ?_
      refine W.widen (k := 0) (n := 0) (Nat.le_of_ble_eq_true rfl) (Nat.le_of_ble_eq_true rfl) ?_
      refine lv_goto (tgt := 180) hx hb dX6_single_85 (by decide) ?_
      exact J_180 M19 H locs ls hj hP hS (lv_sub hl [] rfl)
    have hj := if_f c7 hj
    by_cases c8 : a1 = (3 : Int32)
    · have hj := if_t c8 hj
      refine lv_tableIn (off := 87) (tgt := 88) hx hb dX6_single_1 (by rw [c8]; decide) (by rw [c8]; decide) (by rw [c8]; decide) (by decide) ?_
      refine lv_aload_n hx hb dX6_single_88 rfl (lv_at hl 0 rfl) ?_
      refine lv_dload_n hx hb dX6_single_89 rfl (lv_at hl 2 rfl) ?_
      refine lv_iconst (v := 1) hx hb dX6_single_90 (by decide) ?_
      obtain ⟨v20, g_v20, hj⟩ := Option.bind_eq_some_iff.mp hj
      refine f_D (k_S (As := [.double a2, .int (1 : Int32)]) (n := 2) (rest := [.ref a0]) cx hl.1 hP hS (c_X6_whole l X g M a2 (1 : Int32) v20 g_v20) mC_X6_whole mM_X6_98 mT_X6_whole mZ_X6 (by decide +kernel) ⟨Nat.le_of_ble_eq_true rfl, Nat.le_of_ble_eq_true rfl⟩ rfl rfl (Nat.le_of_ble_eq_true rfl) dX6_single_91 ⟨Nat.le_of_ble_eq_true rfl, Nat.le_of_ble_eq_true rfl⟩) hS (fun H locs hP hS => ?_)
      have hP : hp X M H := hP
      refine W.eq (g2 := F0 m 94 ls [.double v20, .ref a0]) rfl ?_
      refine W.widen (k := 0) (n := 0) (Nat.le_of_ble_eq_true rfl) (Nat.le_of_ble_eq_true rfl) ?_
      obtain ⟨_, o21, hj⟩ := Option.bind_eq_some_iff.mp hj
      obtain ⟨M22, g_M22, hj⟩ := Option.bind_eq_some_iff.mp hj
      refine f_V (k_V (b := a0) (As := [.double v20]) (n := 1) (rest := []) cx hl.1 hP hS (c_X6_gives l X g M a0 v20 M22 g_M22) o21 rfl mC_X6_gives mM_X6_94 mI_X6_gives mS_X6_gives mZ_X6 (by decide +kernel) ⟨Nat.le_of_ble_eq_true rfl, Nat.le_of_ble_eq_true rfl⟩ rfl rfl (Nat.le_of_ble_eq_true rfl) dX6_single_94 ⟨Nat.le_of_ble_eq_true rfl, Nat.le_of_ble_eq_true rfl⟩) hS (fun H locs hP hS => ?_)
      have hP : hp X M22 H := hP
      refine W.eq (g2 := F0 m 97 ls []) rfl ?_
      refine W.widen (k := 0) (n := 0) (Nat.le_of_ble_eq_true rfl) (Nat.le_of_ble_eq_true rfl) ?_
      refine lv_goto (tgt := 180) hx hb dX6_single_97 (by decide) ?_
      exact J_180 M22 H locs ls hj hP hS (lv_sub hl [] rfl)
    have hj := if_f c8 hj
    by_cases c9 : a1 = (4 : Int32)
    · have hj := if_t c9 hj
      refine lv_tableIn (off := 99) (tgt := 100) hx hb dX6_single_1 (by rw [c9]; decide) (by rw [c9]; decide) (by rw [c9]; decide) (by decide) ?_
      refine lv_aload_n hx hb dX6_single_100 rfl (lv_at hl 0 rfl) ?_
      refine lv_dload_n hx hb dX6_single_101 rfl (lv_at hl 2 rfl) ?_
      refine lv_iconst (v := 2) hx hb dX6_single_102 (by decide) ?_
      obtain ⟨v23, g_v23, hj⟩ := Option.bind_eq_some_iff.mp hj
      refine f_D (k_S (As := [.double a2, .int (2 : Int32)]) (n := 2) (rest := [.ref a0]) cx hl.1 hP hS (c_X6_whole l X g M a2 (2 : Int32) v23 g_v23) mC_X6_whole mM_X6_98 mT_X6_whole mZ_X6 (by decide +kernel) ⟨Nat.le_of_ble_eq_true rfl, Nat.le_of_ble_eq_true rfl⟩ rfl rfl (Nat.le_of_ble_eq_true rfl) dX6_single_103 ⟨Nat.le_of_ble_eq_true rfl, Nat.le_of_ble_eq_true rfl⟩) hS (fun H locs hP hS => ?_)
      have hP : hp X M H := hP
      refine W.eq (g2 := F0 m 106 ls [.double v23, .ref a0]) rfl ?_
      refine W.widen (k := 0) (n := 0) (Nat.le_of_ble_eq_true rfl) (Nat.le_of_ble_eq_true rfl) ?_
      obtain ⟨_, o24, hj⟩ := Option.bind_eq_some_iff.mp hj
      obtain ⟨M25, g_M25, hj⟩ := Option.bind_eq_some_iff.mp hj
      refine f_V (k_V (b := a0) (As := [.double v23]) (n := 1) (rest := []) cx hl.1 hP hS (c_X6_gives l X g M a0 v23 M25 g_M25) o24 rfl mC_X6_gives mM_X6_94 mI_X6_gives mS_X6_gives mZ_X6 (by decide +kernel) ⟨Nat.le_of_ble_eq_true rfl, Nat.le_of_ble_eq_true rfl⟩ rfl rfl (Nat.le_of_ble_eq_true rfl) dX6_single_106 ⟨Nat.le_of_ble_eq_true rfl, Nat.le_of_ble_eq_true rfl⟩) hS (fun H locs hP hS => ?_)
      have hP : hp X M25 H := hP
      refine W.eq (g2 := F0 m 109 ls []) rfl ?_
      refine W.widen (k := 0) (n := 0) (Nat.le_of_ble_eq_true rfl) (Nat.le_of_ble_eq_true rfl) ?_
      refine lv_goto (tgt := 180) hx hb dX6_single_109 (by decide) ?_
      exact J_180 M25 H locs ls hj hP hS (lv_sub hl [] rfl)
    have hj := if_f c9 hj
    by_cases c10 : a1 = (5 : Int32)
    · have hj := if_t c10 hj
      refine lv_tableIn (off := 111) (tgt := 112) hx hb dX6_single_1 (by rw [c10]; decide) (by rw [c10]; decide) (by rw [c10]; decide) (by decide) ?_
      refine lv_aload_n hx hb dX6_single_112 rfl (lv_at hl 0 rfl) ?_
      refine lv_dload_n hx hb dX6_single_113 rfl (lv_at hl 2 rfl) ?_
      refine lv_dconst0 hx hb dX6_single_114 ?_
      refine lv_dcmp hx hb dX6_single_115 ?_
      refine lv_if_le (tgt := 123) hx hb dX6_single_116 (by decide) (fun c26 => ?_) (fun c26 => ?_)
      · have hj := if_t c26 hj
        refine lv_dload_n hx hb dX6_single_123 rfl (lv_at hl 2 rfl) ?_
        refine lv_dconst0 hx hb dX6_single_124 ?_
        refine lv_dcmp hx hb dX6_single_125 ?_
        refine lv_if_ge (tgt := 135) hx hb dX6_single_126 (by decide) (fun c27 => ?_) (fun c27 => ?_)
        · have hj := if_t c27 hj
          refine lv_dload_n hx hb dX6_single_135 rfl (lv_at hl 2 rfl) ?_
          exact J_136 M a2 a0 H locs ls hj hP hS (lv_sub hl [] rfl)
        · have hj := if_f c27 hj
          refine lv_ldc2d hx hb cx.2.2.2.1 (cx.2.2.2.2.1 _ mK_X6_102) dX6_single_129 ?_
          refine lv_goto (tgt := 136) hx hb dX6_single_132 (by decide) ?_
          exact J_136 M (13830554455654793216 : UInt64) a0 H locs ls hj hP hS (lv_sub hl [] rfl)
      · have hj := if_f c26 hj
        refine lv_dconst1 hx hb dX6_single_119 ?_
        refine lv_goto (tgt := 136) hx hb dX6_single_120 (by decide) ?_
        exact J_136 M FP.dconst1 a0 H locs ls hj hP hS (lv_sub hl [] rfl)
    have hj := if_f c10 hj
    by_cases c11 : a1 = (6 : Int32)
    · have hj := if_t c11 hj
      refine lv_tableIn (off := 141) (tgt := 142) hx hb dX6_single_1 (by rw [c11]; decide) (by rw [c11]; decide) (by rw [c11]; decide) (by decide) ?_
      refine lv_aload_n hx hb dX6_single_142 rfl (lv_at hl 0 rfl) ?_
      refine lv_dload_n hx hb dX6_single_143 rfl (lv_at hl 2 rfl) ?_
      refine lv_ldc2d hx hb cx.2.2.2.1 (cx.2.2.2.2.1 _ mK_X6_84) dX6_single_144 ?_
      refine lv_iload hx hb dX6_single_147 (lv_at hl 3 rfl) ?_
      obtain ⟨v28, g_v28, hj⟩ := Option.bind_eq_some_iff.mp hj
      refine f_D (k_S (As := [.double a2, .double (4611686018427387904 : UInt64), .int a4]) (n := 3) (rest := [.ref a0]) cx hl.1 hP hS (c_X6_quotient l X g M a2 (4611686018427387904 : UInt64) a4 v28 g_v28) mC_X6_quotient mM_X6_104 mT_X6_quotient mZ_X6 (by decide +kernel) ⟨Nat.le_of_ble_eq_true rfl, Nat.le_of_ble_eq_true rfl⟩ rfl rfl (Nat.le_of_ble_eq_true rfl) dX6_single_149 ⟨Nat.le_of_ble_eq_true rfl, Nat.le_of_ble_eq_true rfl⟩) hS (fun H locs hP hS => ?_)
      have hP : hp X M H := hP
      refine W.eq (g2 := F0 m 152 ls [.double v28, .ref a0]) rfl ?_
      refine W.widen (k := 0) (n := 0) (Nat.le_of_ble_eq_true rfl) (Nat.le_of_ble_eq_true rfl) ?_
      obtain ⟨_, o29, hj⟩ := Option.bind_eq_some_iff.mp hj
      obtain ⟨M30, g_M30, hj⟩ := Option.bind_eq_some_iff.mp hj
      refine f_V (k_V (b := a0) (As := [.double v28]) (n := 1) (rest := []) cx hl.1 hP hS (c_X6_gives l X g M a0 v28 M30 g_M30) o29 rfl mC_X6_gives mM_X6_94 mI_X6_gives mS_X6_gives mZ_X6 (by decide +kernel) ⟨Nat.le_of_ble_eq_true rfl, Nat.le_of_ble_eq_true rfl⟩ rfl rfl (Nat.le_of_ble_eq_true rfl) dX6_single_152 ⟨Nat.le_of_ble_eq_true rfl, Nat.le_of_ble_eq_true rfl⟩) hS (fun H locs hP hS => ?_)
      have hP : hp X M30 H := hP
      refine W.eq (g2 := F0 m 155 ls []) rfl ?_
      refine W.widen (k := 0) (n := 0) (Nat.le_of_ble_eq_true rfl) (Nat.le_of_ble_eq_true rfl) ?_
      refine lv_goto (tgt := 180) hx hb dX6_single_155 (by decide) ?_
      exact J_180 M30 H locs ls hj hP hS (lv_sub hl [] rfl)
    have hj := if_f c11 hj
    by_cases c12 : a1 = (7 : Int32)
    · have hj := if_t c12 hj
      refine lv_tableIn (off := 157) (tgt := 158) hx hb dX6_single_1 (by rw [c12]; decide) (by rw [c12]; decide) (by rw [c12]; decide) (by decide) ?_
      refine lv_aload_n hx hb dX6_single_158 rfl (lv_at hl 0 rfl) ?_
      refine lv_ldc2d hx hb cx.2.2.2.1 (cx.2.2.2.2.1 _ mK_X6_84) dX6_single_159 ?_
      refine lv_dload_n hx hb dX6_single_162 rfl (lv_at hl 2 rfl) ?_
      refine lv_iload hx hb dX6_single_163 (lv_at hl 3 rfl) ?_
      obtain ⟨v31, g_v31, hj⟩ := Option.bind_eq_some_iff.mp hj
      refine f_D (k_S (As := [.double (4611686018427387904 : UInt64), .double a2, .int a4]) (n := 3) (rest := [.ref a0]) cx hl.1 hP hS (c_X6_product l X g M (4611686018427387904 : UInt64) a2 a4 v31 g_v31) mC_X6_product mM_X6_108 mT_X6_product mZ_X6 (by decide +kernel) ⟨Nat.le_of_ble_eq_true rfl, Nat.le_of_ble_eq_true rfl⟩ rfl rfl (Nat.le_of_ble_eq_true rfl) dX6_single_165 ⟨Nat.le_of_ble_eq_true rfl, Nat.le_of_ble_eq_true rfl⟩) hS (fun H locs hP hS => ?_)
      have hP : hp X M H := hP
      refine W.eq (g2 := F0 m 168 ls [.double v31, .ref a0]) rfl ?_
      refine W.widen (k := 0) (n := 0) (Nat.le_of_ble_eq_true rfl) (Nat.le_of_ble_eq_true rfl) ?_
      obtain ⟨_, o32, hj⟩ := Option.bind_eq_some_iff.mp hj
      obtain ⟨M33, g_M33, hj⟩ := Option.bind_eq_some_iff.mp hj
      refine f_V (k_V (b := a0) (As := [.double v31]) (n := 1) (rest := []) cx hl.1 hP hS (c_X6_gives l X g M a0 v31 M33 g_M33) o32 rfl mC_X6_gives mM_X6_94 mI_X6_gives mS_X6_gives mZ_X6 (by decide +kernel) ⟨Nat.le_of_ble_eq_true rfl, Nat.le_of_ble_eq_true rfl⟩ rfl rfl (Nat.le_of_ble_eq_true rfl) dX6_single_168 ⟨Nat.le_of_ble_eq_true rfl, Nat.le_of_ble_eq_true rfl⟩) hS (fun H locs hP hS => ?_)
      have hP : hp X M33 H := hP
      refine W.eq (g2 := F0 m 171 ls []) rfl ?_
      refine W.widen (k := 0) (n := 0) (Nat.le_of_ble_eq_true rfl) (Nat.le_of_ble_eq_true rfl) ?_
      refine lv_goto (tgt := 180) hx hb dX6_single_171 (by decide) ?_
      exact J_180 M33 H locs ls hj hP hS (lv_sub hl [] rfl)
    have hj := if_f c12 hj
    have sw : a1.toInt < 0 ∨ 7 < a1.toInt := by
      rcases Int.lt_or_ge a1.toInt 0 with q | q
      · exact Or.inl q
      have q := sw_step q (sw_ne c5 (by decide))
      have q := sw_step q (sw_ne c6 (by decide))
      have q := sw_step q (sw_ne c7 (by decide))
      have q := sw_step q (sw_ne c8 (by decide))
      have q := sw_step q (sw_ne c9 (by decide))
      have q := sw_step q (sw_ne c10 (by decide))
      have q := sw_step q (sw_ne c11 (by decide))
      have q := sw_step q (sw_ne c12 (by decide))
      exact Or.inr (by omega)
    refine lv_tableOut (tgt := 174) hx hb dX6_single_1 sw (by decide) ?_
    refine lv_aload_n hx hb dX6_single_174 rfl (lv_at hl 0 rfl) ?_
    refine lv_dload_n hx hb dX6_single_175 rfl (lv_at hl 2 rfl) ?_
    refine lv_dneg hx hb dX6_single_176 ?_
    obtain ⟨_, o34, hj⟩ := Option.bind_eq_some_iff.mp hj
    obtain ⟨M35, g_M35, hj⟩ := Option.bind_eq_some_iff.mp hj
    refine f_V (k_V (b := a0) (As := [.double (FP.dneg a2)]) (n := 1) (rest := []) cx hl.1 hP hS (c_X6_gives l X g M a0 (FP.dneg a2) M35 g_M35) o34 rfl mC_X6_gives mM_X6_94 mI_X6_gives mS_X6_gives mZ_X6 (by decide +kernel) ⟨Nat.le_of_ble_eq_true rfl, Nat.le_of_ble_eq_true rfl⟩ rfl rfl (Nat.le_of_ble_eq_true rfl) dX6_single_177 ⟨Nat.le_of_ble_eq_true rfl, Nat.le_of_ble_eq_true rfl⟩) hS (fun H locs hP hS => ?_)
    have hP : hp X M35 H := hP
    refine W.eq (g2 := F0 m 180 ls []) rfl ?_
    refine W.widen (k := 0) (n := 0) (Nat.le_of_ble_eq_true rfl) (Nat.le_of_ble_eq_true rfl) ?_
    exact J_180 M35 H locs ls hj hP hS (lv_sub hl [] rfl)
  exact hgo _ _ hP hS
set_option maxHeartbeats 4000000 in
set_option maxRecDepth 100000 in
theorem c_X6_y (l : Launch) (X : hX) (g : Nat) (M : hm) (a0 : Nat) (a1 : Int32) (a2 : Int32) (RR : UInt64) (hj : j_X6_y g M a0 a1 a2 = some RR) : Ct l X yX6_y cX6_y 3 (some .double) { frames := 1, cells := 0, slots := 0, locals := 22 } [.ref a0, .int a1, .int a2] M (qD X (M, RR)) := by
  refine h_enter (own := RX6) (by decide) rfl (Nat.le_of_ble_eq_true rfl) ?_
  intro p e s m below meth c ls cx hr hlocks hnm hP hS hl
  have hx := cx.1
  have hb := cx.2.1
  have hl : lv_has ls 3 [(0, .ref a0), (1, .int a1), (2, .int a2)] := hl
  unfold j_X6_y at hj
  have hgo : ∀ (H : Heap) (locs : List Loc), hp X M H → va_S (hA X) s.heap H locs → W p l e ({ frames := 1, cells := 0, slots := 0, locals := 22 } : Room) s m _ below meth c H locs 0 0 (MQ below (qD X (M, RR)) _ s 0 0 (hA X)) (F0 m 0 ls []) := by
    intro H locs hP hS
    refine lv_aload_n hx hb dX6_y_0 rfl (lv_at hl 0 rfl) ?_
    obtain ⟨v1, g_v1, hj⟩ := Option.bind_eq_some_iff.mp hj
    refine r_getR cx hP g_v1 iX6 rfl (by decide) mF_X6_26 dX6_y_1 ?_
    refine lv_aload_n hx hb dX6_y_4 rfl (lv_at hl 0 rfl) ?_
    obtain ⟨v2, g_v2, hj⟩ := Option.bind_eq_some_iff.mp hj
    refine r_getR cx hP g_v2 iX6 rfl (by decide) mF_X6_22 dX6_y_5 ?_
    refine lv_iconst (v := 4) hx hb dX6_y_8 (by decide) ?_
    refine lv_iload_n hx hb dX6_y_9 rfl (lv_at hl 1 rfl) ?_
    refine lv_imul hx hb dX6_y_10 ?_
    refine lv_iconst (v := 2) hx hb dX6_y_11 (by decide) ?_
    refine lv_iadd hx hb dX6_y_12 ?_
    obtain ⟨b3, e_b3, hj⟩ := Option.bind_eq_some_iff.mp hj
    subst e_b3
    obtain ⟨v4, g_v4, hj⟩ := Option.bind_eq_some_iff.mp hj
    refine r_aldI cx hP g_v4 dX6_y_13 ?_
    refine lv_iload_n hx hb dX6_y_14 rfl (lv_at hl 2 rfl) ?_
    obtain ⟨v5, g_v5, hj⟩ := Option.bind_eq_some_iff.mp hj
    refine f_I (k_S (As := [.int v4, .int a2]) (n := 2) (rest := [va_rf v1]) cx hl.1 hP hS (c_X6_at l X g M v4 a2 v5 g_v5) mC_X6_at mM_X6_128 mT_X6_at mZ_X6 (by decide +kernel) ⟨Nat.le_of_ble_eq_true rfl, Nat.le_of_ble_eq_true rfl⟩ rfl rfl (by simp [cat_rf, Value.category]) dX6_y_15 ⟨Nat.le_of_ble_eq_true rfl, Nat.le_of_ble_eq_true rfl⟩) hS (fun H locs hP hS => ?_)
    have hP : hp X M H := hP
    refine W.eq (g2 := F0 m 18 ls [.int v5, va_rf v1]) rfl ?_
    refine W.widen (k := 0) (n := 0) (Nat.le_of_ble_eq_true rfl) (Nat.le_of_ble_eq_true rfl) ?_
    obtain ⟨b6, e_b6, hj⟩ := Option.bind_eq_some_iff.mp hj
    subst e_b6
    obtain ⟨v7, g_v7, hj⟩ := Option.bind_eq_some_iff.mp hj
    refine r_aldD cx hP g_v7 dX6_y_18 ?_
    refine lv_aload_n hx hb dX6_y_19 rfl (lv_at hl 0 rfl) ?_
    obtain ⟨v8, g_v8, hj⟩ := Option.bind_eq_some_iff.mp hj
    refine r_getR cx hP g_v8 iX6 rfl (by decide) mF_X6_19 dX6_y_20 ?_
    refine lv_iload_n hx hb dX6_y_23 rfl (lv_at hl 1 rfl) ?_
    obtain ⟨b9, e_b9, hj⟩ := Option.bind_eq_some_iff.mp hj
    subst e_b9
    obtain ⟨v10, g_v10, hj⟩ := Option.bind_eq_some_iff.mp hj
    refine r_aldZ cx hP g_v10 dX6_y_24 ?_
    obtain ⟨v11, g_v11, hj⟩ := Option.bind_eq_some_iff.mp hj
    refine f_D (k_S (As := [.double v7, .int v10]) (n := 2) (rest := []) cx hl.1 hP hS (c_X6_brought l X g M v7 v10 v11 g_v11) mC_X6_brought mM_X6_132 mT_X6_brought mZ_X6 (by decide +kernel) ⟨Nat.le_of_ble_eq_true rfl, Nat.le_of_ble_eq_true rfl⟩ rfl rfl (Nat.le_of_ble_eq_true rfl) dX6_y_25 ⟨Nat.le_of_ble_eq_true rfl, Nat.le_of_ble_eq_true rfl⟩) hS (fun H locs hP hS => ?_)
    have hP : hp X M H := hP
    refine W.eq (g2 := F0 m 28 ls [.double v11]) rfl ?_
    refine W.widen (k := 0) (n := 0) (Nat.le_of_ble_eq_true rfl) (Nat.le_of_ble_eq_true rfl) ?_
    exact t_D cx hr hlocks hP hS (congrArg (Prod.mk M) (Option.some.inj hj)) (Nat.le_of_ble_eq_true rfl) (Nat.le_of_ble_eq_true rfl) dX6_y_28
  exact hgo _ _ hP hS
set_option maxHeartbeats 4000000 in
set_option maxRecDepth 100000 in
theorem c_X6_isInfinite (l : Launch) (X : hX) (g : Nat) (M : hm) (a0 : UInt64) (RR : Int32) (hj : j_X6_isInfinite g a0 = some RR) : Ct l X yX6_isInfinite cX6_isInfinite 2 (some .boolean) { frames := 0, cells := 0, slots := 0, locals := 0 } [.double a0] M (qI X (M, RR)) := by
  refine h_enter (own := RX6) (by decide) rfl (Nat.le_of_ble_eq_true rfl) ?_
  intro p e s m below meth c ls cx hr hlocks hnm hP hS hl
  have hx := cx.1
  have hb := cx.2.1
  have hl : lv_has ls 2 [(0, .double a0)] := hl
  unfold j_X6_isInfinite at hj
  have hgo : ∀ (H : Heap) (locs : List Loc), hp X M H → va_S (hA X) s.heap H locs → W p l e ({ frames := 0, cells := 0, slots := 0, locals := 0 } : Room) s m _ below meth c H locs 0 0 (MQ below (qI X (M, RR)) _ s 0 0 (hA X)) (F0 m 0 ls []) := by
    have J_21 : ∀ (s0 : Int32) (H : Heap) (locs : List Loc) (ls : Array Slot), j_X6_isInfinite_21 g s0 = some RR → hp X M H → va_S (hA X) s.heap H locs → lv_has ls 2 [] → W p l e ({ frames := 0, cells := 0, slots := 0, locals := 0 } : Room) s m _ below meth c H locs 0 0 (MQ below (qI X (M, RR)) _ s 0 0 (hA X)) (F0 m 21 ls [.int s0]) := by
      intro s0 H locs ls hj hP hS hl
      unfold j_X6_isInfinite_21 at hj
      obtain ⟨z1, g_z1, hj⟩ := Option.bind_eq_some_iff.mp hj
      exact t_Z cx hr hlocks hP hS (zb_eq g_z1).1 (congrArg (Prod.mk M) (Option.some.inj hj)) (Nat.le_of_ble_eq_true rfl) (Nat.le_of_ble_eq_true rfl) dX6_isInfinite_21
    have J_16 : ∀ (H : Heap) (locs : List Loc) (ls : Array Slot), j_X6_isInfinite_16 g  = some RR → hp X M H → va_S (hA X) s.heap H locs → lv_has ls 2 [] → W p l e ({ frames := 0, cells := 0, slots := 0, locals := 0 } : Room) s m _ below meth c H locs 0 0 (MQ below (qI X (M, RR)) _ s 0 0 (hA X)) (F0 m 16 ls []) := by
      intro  H locs ls hj hP hS hl
      unfold j_X6_isInfinite_16 at hj
      refine lv_iconst (v := 1) hx hb dX6_isInfinite_16 (by decide) ?_
      refine lv_goto (tgt := 21) hx hb dX6_isInfinite_17 (by decide) ?_
      exact J_21 (1 : Int32) H locs ls hj hP hS (lv_sub hl [] rfl)
    intro H locs hP hS
    refine lv_dload_n hx hb dX6_isInfinite_0 rfl (lv_at hl 0 rfl) ?_
    refine lv_ldc2d hx hb cx.2.2.2.1 (cx.2.2.2.2.1 _ mK_X6_57) dX6_isInfinite_1 ?_
    refine lv_dcmp hx hb dX6_isInfinite_4 ?_
    refine lv_if_eq (tgt := 16) hx hb dX6_isInfinite_5 (by decide) (fun c2 => ?_) (fun c2 => ?_)
    · have hj := if_t c2 hj
      exact J_16  H locs ls hj hP hS (lv_sub hl [] rfl)
    · have hj := if_f c2 hj
      refine lv_dload_n hx hb dX6_isInfinite_8 rfl (lv_at hl 0 rfl) ?_
      refine lv_ldc2d hx hb cx.2.2.2.1 (cx.2.2.2.2.1 _ mK_X6_59) dX6_isInfinite_9 ?_
      refine lv_dcmp hx hb dX6_isInfinite_12 ?_
      refine lv_if_ne (tgt := 20) hx hb dX6_isInfinite_13 (by decide) (fun c3 => ?_) (fun c3 => ?_)
      · have hj := if_f c3 hj
        refine lv_iconst (v := 0) hx hb dX6_isInfinite_20 (by decide) ?_
        exact J_21 (0 : Int32) H locs ls hj hP hS (lv_sub hl [] rfl)
      · have hj := if_t c3 hj
        exact J_16  H locs ls hj hP hS (lv_sub hl [] rfl)
  exact hgo _ _ hP hS
set_option maxHeartbeats 4000000 in
set_option maxRecDepth 100000 in
theorem c_X6_sum (l : Launch) (X : hX) (g : Nat) (M : hm) (a0 : UInt64) (a2 : UInt64) (a4 : Int32) (RR : UInt64) (hj : j_X6_sum g a0 a2 a4 = some RR) : Ct l X yX6_sum cX6_sum 5 (some .double) { frames := 0, cells := 0, slots := 0, locals := 0 } [.double a0, .double a2, .int a4] M (qD X (M, RR)) := by
  refine h_enter (own := RX6) (by decide) rfl (Nat.le_of_ble_eq_true rfl) ?_
  intro p e s m below meth c ls cx hr hlocks hnm hP hS hl
  have hx := cx.1
  have hb := cx.2.1
  have hl : lv_has ls 5 [(0, .double a0), (2, .double a2), (4, .int a4)] := hl
  unfold j_X6_sum at hj
  have hgo : ∀ (H : Heap) (locs : List Loc), hp X M H → va_S (hA X) s.heap H locs → W p l e ({ frames := 0, cells := 0, slots := 0, locals := 0 } : Room) s m _ below meth c H locs 0 0 (MQ below (qD X (M, RR)) _ s 0 0 (hA X)) (F0 m 0 ls []) := by
    have J_17 : ∀ (s0 : UInt64) (H : Heap) (locs : List Loc) (ls : Array Slot), j_X6_sum_17 g s0 = some RR → hp X M H → va_S (hA X) s.heap H locs → lv_has ls 5 [] → W p l e ({ frames := 0, cells := 0, slots := 0, locals := 0 } : Room) s m _ below meth c H locs 0 0 (MQ below (qD X (M, RR)) _ s 0 0 (hA X)) (F0 m 17 ls [.double s0]) := by
      intro s0 H locs ls hj hP hS hl
      unfold j_X6_sum_17 at hj
      exact t_D cx hr hlocks hP hS (congrArg (Prod.mk M) (Option.some.inj hj)) (Nat.le_of_ble_eq_true rfl) (Nat.le_of_ble_eq_true rfl) dX6_sum_17
    intro H locs hP hS
    refine lv_iload hx hb dX6_sum_0 (lv_at hl 2 rfl) ?_
    refine lv_if_eq (tgt := 14) hx hb dX6_sum_2 (by decide) (fun c1 => ?_) (fun c1 => ?_)
    · have hj := if_t c1 hj
      refine lv_dload_n hx hb dX6_sum_14 rfl (lv_at hl 0 rfl) ?_
      refine lv_dload_n hx hb dX6_sum_15 rfl (lv_at hl 1 rfl) ?_
      obtain ⟨v2, g_v2, hj⟩ := Option.bind_eq_some_iff.mp hj
      obtain ⟨n_v2, e_v2⟩ := n64_eq g_v2
      refine lv_dadd hx hb dX6_sum_16 n_v2 ?_
      rw [← e_v2]
      exact J_17 v2 H locs ls hj hP hS (lv_sub hl [] rfl)
    · have hj := if_f c1 hj
      refine lv_dload_n hx hb dX6_sum_5 rfl (lv_at hl 0 rfl) ?_
      obtain ⟨v3, g_v3, hj⟩ := Option.bind_eq_some_iff.mp hj
      obtain ⟨n_v3, e_v3⟩ := n32_eq g_v3
      refine lv_d2f hx hb dX6_sum_6 n_v3 ?_
      rw [← e_v3]
      refine lv_dload_n hx hb dX6_sum_7 rfl (lv_at hl 1 rfl) ?_
      obtain ⟨v4, g_v4, hj⟩ := Option.bind_eq_some_iff.mp hj
      obtain ⟨n_v4, e_v4⟩ := n32_eq g_v4
      refine lv_d2f hx hb dX6_sum_8 n_v4 ?_
      rw [← e_v4]
      obtain ⟨v5, g_v5, hj⟩ := Option.bind_eq_some_iff.mp hj
      obtain ⟨n_v5, e_v5⟩ := n32_eq g_v5
      refine lv_fadd hx hb dX6_sum_9 n_v5 ?_
      rw [← e_v5]
      obtain ⟨v6, g_v6, hj⟩ := Option.bind_eq_some_iff.mp hj
      obtain ⟨n_v6, e_v6⟩ := n64_eq g_v6
      refine lv_f2d hx hb dX6_sum_10 n_v6 ?_
      rw [← e_v6]
      refine lv_goto (tgt := 17) hx hb dX6_sum_11 (by decide) ?_
      exact J_17 v6 H locs ls hj hP hS (lv_sub hl [] rfl)
  exact hgo _ _ hP hS
set_option maxHeartbeats 4000000 in
set_option maxRecDepth 100000 in
theorem c_X6_difference (l : Launch) (X : hX) (g : Nat) (M : hm) (a0 : Nat) (a1 : UInt64) (a3 : UInt64) (a5 : Int32) (RR : hm) (hj : j_X6_difference g M a0 a1 a3 a5 = some RR) : Ct l X yX6_difference cX6_difference 6 none { frames := 1, cells := 0, slots := 0, locals := 24 } [.ref a0, .double a1, .double a3, .int a5] M (qV X RR) := by
  refine h_enter (own := RX6) (by decide) rfl (Nat.le_of_ble_eq_true rfl) ?_
  intro p e s m below meth c ls cx hr hlocks hnm hP hS hl
  have hx := cx.1
  have hb := cx.2.1
  have hl : lv_has ls 6 [(0, .ref a0), (1, .double a1), (3, .double a3), (5, .int a5)] := hl
  unfold j_X6_difference at hj
  have hgo : ∀ (H : Heap) (locs : List Loc), hp X M H → va_S (hA X) s.heap H locs → W p l e ({ frames := 1, cells := 0, slots := 0, locals := 24 } : Room) s m _ below meth c H locs 0 0 (MQ below (qV X RR) _ s 0 0 (hA X)) (F0 m 0 ls []) := by
    have J_32 : ∀ (M : hm) (H : Heap) (locs : List Loc) (ls : Array Slot), j_X6_difference_32 g M = some RR → hp X M H → va_S (hA X) s.heap H locs → lv_has ls 6 [] → W p l e ({ frames := 1, cells := 0, slots := 0, locals := 24 } : Room) s m _ below meth c H locs 0 0 (MQ below (qV X RR) _ s 0 0 (hA X)) (F0 m 32 ls []) := by
      intro M H locs ls hj hP hS hl
      unfold j_X6_difference_32 at hj
      exact t_V cx hr hlocks hP hS (Option.some.inj hj) (Nat.le_of_ble_eq_true rfl) (Nat.le_of_ble_eq_true rfl) dX6_difference_32
    have J_20 : ∀ (M : hm) (p0 : Nat) (p1 : UInt64) (p3 : UInt64) (p5 : Int32) (H : Heap) (locs : List Loc) (ls : Array Slot), j_X6_difference_20 g M p0 p1 p3 p5 = some RR → hp X M H → va_S (hA X) s.heap H locs → lv_has ls 6 [(0, .ref p0), (1, .double p1), (3, .double p3), (5, .int p5)] → W p l e ({ frames := 1, cells := 0, slots := 0, locals := 24 } : Room) s m _ below meth c H locs 0 0 (MQ below (qV X RR) _ s 0 0 (hA X)) (F0 m 20 ls []) := by
      intro M p0 p1 p3 p5 H locs ls hj hP hS hl
      unfold j_X6_difference_20 at hj
      refine lv_aload_n hx hb dX6_difference_20 rfl (lv_at hl 0 rfl) ?_
      refine lv_dload_n hx hb dX6_difference_21 rfl (lv_at hl 1 rfl) ?_
      refine lv_dload_n hx hb dX6_difference_22 rfl (lv_at hl 2 rfl) ?_
      refine lv_dneg hx hb dX6_difference_23 ?_
      refine lv_iload hx hb dX6_difference_24 (lv_at hl 3 rfl) ?_
      obtain ⟨v1, g_v1, hj⟩ := Option.bind_eq_some_iff.mp hj
      refine f_D (k_S (As := [.double p1, .double (FP.dneg p3), .int p5]) (n := 3) (rest := [.ref p0]) cx hl.1 hP hS (c_X6_sum l X g M p1 (FP.dneg p3) p5 v1 g_v1) mC_X6_sum mM_X6_117 mT_X6_sum mZ_X6 (by decide +kernel) ⟨Nat.le_of_ble_eq_true rfl, Nat.le_of_ble_eq_true rfl⟩ rfl rfl (Nat.le_of_ble_eq_true rfl) dX6_difference_26 ⟨Nat.le_of_ble_eq_true rfl, Nat.le_of_ble_eq_true rfl⟩) hS (fun H locs hP hS => ?_)
      have hP : hp X M H := hP
      refine W.eq (g2 := F0 m 29 ls [.double v1, .ref p0]) rfl ?_
      refine W.widen (k := 0) (n := 0) (Nat.le_of_ble_eq_true rfl) (Nat.le_of_ble_eq_true rfl) ?_
      obtain ⟨_, o2, hj⟩ := Option.bind_eq_some_iff.mp hj
      obtain ⟨M3, g_M3, hj⟩ := Option.bind_eq_some_iff.mp hj
      refine f_V (k_V (b := p0) (As := [.double v1]) (n := 1) (rest := []) cx hl.1 hP hS (c_X6_gives l X g M p0 v1 M3 g_M3) o2 rfl mC_X6_gives mM_X6_94 mI_X6_gives mS_X6_gives mZ_X6 (by decide +kernel) ⟨Nat.le_of_ble_eq_true rfl, Nat.le_of_ble_eq_true rfl⟩ rfl rfl (Nat.le_of_ble_eq_true rfl) dX6_difference_29 ⟨Nat.le_of_ble_eq_true rfl, Nat.le_of_ble_eq_true rfl⟩) hS (fun H locs hP hS => ?_)
      have hP : hp X M3 H := hP
      refine W.eq (g2 := F0 m 32 ls []) rfl ?_
      refine W.widen (k := 0) (n := 0) (Nat.le_of_ble_eq_true rfl) (Nat.le_of_ble_eq_true rfl) ?_
      exact J_32 M3 H locs ls hj hP hS (lv_sub hl [] rfl)
    intro H locs hP hS
    refine lv_dload_n hx hb dX6_difference_0 rfl (lv_at hl 1 rfl) ?_
    obtain ⟨v4, g_v4, hj⟩ := Option.bind_eq_some_iff.mp hj
    refine f_I (k_S (As := [.double a1]) (n := 1) (rest := []) cx hl.1 hP hS (c_X6_isInfinite l X g M a1 v4 g_v4) mC_X6_isInfinite mM_X6_111 mT_X6_isInfinite mZ_X6 (by decide +kernel) ⟨Nat.le_of_ble_eq_true rfl, Nat.le_of_ble_eq_true rfl⟩ rfl rfl (Nat.le_of_ble_eq_true rfl) dX6_difference_1 ⟨Nat.le_of_ble_eq_true rfl, Nat.le_of_ble_eq_true rfl⟩) hS (fun H locs hP hS => ?_)
    have hP : hp X M H := hP
    refine W.eq (g2 := F0 m 4 ls [.int v4]) rfl ?_
    refine W.widen (k := 0) (n := 0) (Nat.le_of_ble_eq_true rfl) (Nat.le_of_ble_eq_true rfl) ?_
    refine lv_if_eq (tgt := 20) hx hb dX6_difference_4 (by decide) (fun c5 => ?_) (fun c5 => ?_)
    · have hj := if_t c5 hj
      exact J_20 M a0 a1 a3 a5 H locs ls hj hP hS (lv_sub hl [0, 1, 2, 3] rfl)
    · have hj := if_f c5 hj
      refine lv_dload_n hx hb dX6_difference_7 rfl (lv_at hl 1 rfl) ?_
      refine lv_dload_n hx hb dX6_difference_8 rfl (lv_at hl 2 rfl) ?_
      refine lv_dcmp hx hb dX6_difference_9 ?_
      refine lv_if_ne (tgt := 20) hx hb dX6_difference_10 (by decide) (fun c6 => ?_) (fun c6 => ?_)
      · have hj := if_f c6 hj
        exact J_20 M a0 a1 a3 a5 H locs ls hj hP hS (lv_sub hl [0, 1, 2, 3] rfl)
      · have hj := if_t c6 hj
        refine lv_aload_n hx hb dX6_difference_13 rfl (lv_at hl 0 rfl) ?_
        obtain ⟨_, o7, hj⟩ := Option.bind_eq_some_iff.mp hj
        obtain ⟨M8, g_M8, hj⟩ := Option.bind_eq_some_iff.mp hj
        refine f_V (k_V (b := a0) (As := []) (n := 0) (rest := []) cx hl.1 hP hS (c_X6_givesNothing l X g M a0 M8 g_M8) o7 rfl mC_X6_givesNothing mM_X6_114 mI_X6_givesNothing mS_X6_givesNothing mZ_X6 (by decide +kernel) ⟨Nat.le_of_ble_eq_true rfl, Nat.le_of_ble_eq_true rfl⟩ rfl rfl (Nat.le_of_ble_eq_true rfl) dX6_difference_14 ⟨Nat.le_of_ble_eq_true rfl, Nat.le_of_ble_eq_true rfl⟩) hS (fun H locs hP hS => ?_)
        have hP : hp X M8 H := hP
        refine W.eq (g2 := F0 m 17 ls []) rfl ?_
        refine W.widen (k := 0) (n := 0) (Nat.le_of_ble_eq_true rfl) (Nat.le_of_ble_eq_true rfl) ?_
        refine lv_goto (tgt := 32) hx hb dX6_difference_17 (by decide) ?_
        exact J_32 M8 H locs ls hj hP hS (lv_sub hl [] rfl)
  exact hgo _ _ hP hS
set_option maxHeartbeats 4000000 in
set_option maxRecDepth 100000 in
theorem c_X6_isLower (l : Launch) (X : hX) (g : Nat) (M : hm) (a0 : UInt64) (a2 : UInt64) (RR : Int32) (hj : j_X6_isLower g a0 a2 = some RR) : Ct l X yX6_isLower cX6_isLower 4 (some .boolean) { frames := 2, cells := 0, slots := 0, locals := 42 } [.double a0, .double a2] M (qI X (M, RR)) := by
  refine h_enter (own := RX6) (by decide) rfl (Nat.le_of_ble_eq_true rfl) ?_
  intro p e s m below meth c ls cx hr hlocks hnm hP hS hl
  have hx := cx.1
  have hb := cx.2.1
  have hl : lv_has ls 4 [(0, .double a0), (2, .double a2)] := hl
  unfold j_X6_isLower at hj
  have hgo : ∀ (H : Heap) (locs : List Loc), hp X M H → va_S (hA X) s.heap H locs → W p l e ({ frames := 2, cells := 0, slots := 0, locals := 42 } : Room) s m _ below meth c H locs 0 0 (MQ below (qI X (M, RR)) _ s 0 0 (hA X)) (F0 m 0 ls []) := by
    have J_39 : ∀ (s0 : Int32) (H : Heap) (locs : List Loc) (ls : Array Slot), j_X6_isLower_39 g s0 = some RR → hp X M H → va_S (hA X) s.heap H locs → lv_has ls 4 [] → W p l e ({ frames := 2, cells := 0, slots := 0, locals := 42 } : Room) s m _ below meth c H locs 0 0 (MQ below (qI X (M, RR)) _ s 0 0 (hA X)) (F0 m 39 ls [.int s0]) := by
      intro s0 H locs ls hj hP hS hl
      unfold j_X6_isLower_39 at hj
      obtain ⟨z1, g_z1, hj⟩ := Option.bind_eq_some_iff.mp hj
      exact t_Z cx hr hlocks hP hS (zb_eq g_z1).1 (congrArg (Prod.mk M) (Option.some.inj hj)) (Nat.le_of_ble_eq_true rfl) (Nat.le_of_ble_eq_true rfl) dX6_isLower_39
    have J_38 : ∀ (H : Heap) (locs : List Loc) (ls : Array Slot), j_X6_isLower_38 g  = some RR → hp X M H → va_S (hA X) s.heap H locs → lv_has ls 4 [] → W p l e ({ frames := 2, cells := 0, slots := 0, locals := 42 } : Room) s m _ below meth c H locs 0 0 (MQ below (qI X (M, RR)) _ s 0 0 (hA X)) (F0 m 38 ls []) := by
      intro  H locs ls hj hP hS hl
      unfold j_X6_isLower_38 at hj
      refine lv_iconst (v := 0) hx hb dX6_isLower_38 (by decide) ?_
      exact J_39 (0 : Int32) H locs ls hj hP hS (lv_sub hl [] rfl)
    have J_34 : ∀ (H : Heap) (locs : List Loc) (ls : Array Slot), j_X6_isLower_34 g  = some RR → hp X M H → va_S (hA X) s.heap H locs → lv_has ls 4 [] → W p l e ({ frames := 2, cells := 0, slots := 0, locals := 42 } : Room) s m _ below meth c H locs 0 0 (MQ below (qI X (M, RR)) _ s 0 0 (hA X)) (F0 m 34 ls []) := by
      intro  H locs ls hj hP hS hl
      unfold j_X6_isLower_34 at hj
      refine lv_iconst (v := 1) hx hb dX6_isLower_34 (by decide) ?_
      refine lv_goto (tgt := 39) hx hb dX6_isLower_35 (by decide) ?_
      exact J_39 (1 : Int32) H locs ls hj hP hS (lv_sub hl [] rfl)
    intro H locs hP hS
    refine lv_dload_n hx hb dX6_isLower_0 rfl (lv_at hl 0 rfl) ?_
    refine lv_dload_n hx hb dX6_isLower_1 rfl (lv_at hl 1 rfl) ?_
    refine lv_dcmp hx hb dX6_isLower_2 ?_
    refine lv_if_lt (tgt := 34) hx hb dX6_isLower_3 (by decide) (fun c2 => ?_) (fun c2 => ?_)
    · have hj := if_t c2 hj
      exact J_34  H locs ls hj hP hS (lv_sub hl [] rfl)
    · have hj := if_f c2 hj
      refine lv_dload_n hx hb dX6_isLower_6 rfl (lv_at hl 0 rfl) ?_
      obtain ⟨v3, g_v3, hj⟩ := Option.bind_eq_some_iff.mp hj
      refine f_I (k_S (As := [.double a0]) (n := 1) (rest := []) cx hl.1 hP hS (c_X6_isZero l X g M a0 v3 g_v3) mC_X6_isZero mM_X6_61 mT_X6_isZero mZ_X6 (by decide +kernel) ⟨Nat.le_of_ble_eq_true rfl, Nat.le_of_ble_eq_true rfl⟩ rfl rfl (Nat.le_of_ble_eq_true rfl) dX6_isLower_7 ⟨Nat.le_of_ble_eq_true rfl, Nat.le_of_ble_eq_true rfl⟩) hS (fun H locs hP hS => ?_)
      have hP : hp X M H := hP
      refine W.eq (g2 := F0 m 10 ls [.int v3]) rfl ?_
      refine W.widen (k := 0) (n := 0) (Nat.le_of_ble_eq_true rfl) (Nat.le_of_ble_eq_true rfl) ?_
      refine lv_if_eq (tgt := 38) hx hb dX6_isLower_10 (by decide) (fun c4 => ?_) (fun c4 => ?_)
      · have hj := if_t c4 hj
        exact J_38  H locs ls hj hP hS (lv_sub hl [] rfl)
      · have hj := if_f c4 hj
        refine lv_dload_n hx hb dX6_isLower_13 rfl (lv_at hl 1 rfl) ?_
        obtain ⟨v5, g_v5, hj⟩ := Option.bind_eq_some_iff.mp hj
        refine f_I (k_S (As := [.double a2]) (n := 1) (rest := []) cx hl.1 hP hS (c_X6_isZero l X g M a2 v5 g_v5) mC_X6_isZero mM_X6_61 mT_X6_isZero mZ_X6 (by decide +kernel) ⟨Nat.le_of_ble_eq_true rfl, Nat.le_of_ble_eq_true rfl⟩ rfl rfl (Nat.le_of_ble_eq_true rfl) dX6_isLower_14 ⟨Nat.le_of_ble_eq_true rfl, Nat.le_of_ble_eq_true rfl⟩) hS (fun H locs hP hS => ?_)
        have hP : hp X M H := hP
        refine W.eq (g2 := F0 m 17 ls [.int v5]) rfl ?_
        refine W.widen (k := 0) (n := 0) (Nat.le_of_ble_eq_true rfl) (Nat.le_of_ble_eq_true rfl) ?_
        refine lv_if_eq (tgt := 38) hx hb dX6_isLower_17 (by decide) (fun c6 => ?_) (fun c6 => ?_)
        · have hj := if_t c6 hj
          exact J_38  H locs ls hj hP hS (lv_sub hl [] rfl)
        · have hj := if_f c6 hj
          refine lv_dload_n hx hb dX6_isLower_20 rfl (lv_at hl 0 rfl) ?_
          obtain ⟨v7, g_v7, hj⟩ := Option.bind_eq_some_iff.mp hj
          refine f_I (k_S (As := [.double a0]) (n := 1) (rest := []) cx hl.1 hP hS (c_X6_hasMinus l X g M a0 v7 g_v7) mC_X6_hasMinus mM_X6_67 mT_X6_hasMinus mZ_X6 (by decide +kernel) ⟨Nat.le_of_ble_eq_true rfl, Nat.le_of_ble_eq_true rfl⟩ rfl rfl (Nat.le_of_ble_eq_true rfl) dX6_isLower_21 ⟨Nat.le_of_ble_eq_true rfl, Nat.le_of_ble_eq_true rfl⟩) hS (fun H locs hP hS => ?_)
          have hP : hp X M H := hP
          refine W.eq (g2 := F0 m 24 ls [.int v7]) rfl ?_
          refine W.widen (k := 0) (n := 0) (Nat.le_of_ble_eq_true rfl) (Nat.le_of_ble_eq_true rfl) ?_
          refine lv_if_eq (tgt := 38) hx hb dX6_isLower_24 (by decide) (fun c8 => ?_) (fun c8 => ?_)
          · have hj := if_t c8 hj
            exact J_38  H locs ls hj hP hS (lv_sub hl [] rfl)
          · have hj := if_f c8 hj
            refine lv_dload_n hx hb dX6_isLower_27 rfl (lv_at hl 1 rfl) ?_
            obtain ⟨v9, g_v9, hj⟩ := Option.bind_eq_some_iff.mp hj
            refine f_I (k_S (As := [.double a2]) (n := 1) (rest := []) cx hl.1 hP hS (c_X6_hasMinus l X g M a2 v9 g_v9) mC_X6_hasMinus mM_X6_67 mT_X6_hasMinus mZ_X6 (by decide +kernel) ⟨Nat.le_of_ble_eq_true rfl, Nat.le_of_ble_eq_true rfl⟩ rfl rfl (Nat.le_of_ble_eq_true rfl) dX6_isLower_28 ⟨Nat.le_of_ble_eq_true rfl, Nat.le_of_ble_eq_true rfl⟩) hS (fun H locs hP hS => ?_)
            have hP : hp X M H := hP
            refine W.eq (g2 := F0 m 31 ls [.int v9]) rfl ?_
            refine W.widen (k := 0) (n := 0) (Nat.le_of_ble_eq_true rfl) (Nat.le_of_ble_eq_true rfl) ?_
            refine lv_if_ne (tgt := 38) hx hb dX6_isLower_31 (by decide) (fun c10 => ?_) (fun c10 => ?_)
            · have hj := if_f c10 hj
              exact J_38  H locs ls hj hP hS (lv_sub hl [] rfl)
            · have hj := if_t c10 hj
              exact J_34  H locs ls hj hP hS (lv_sub hl [] rfl)
  exact hgo _ _ hP hS
