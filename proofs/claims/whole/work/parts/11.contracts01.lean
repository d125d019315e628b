set_option maxHeartbeats 4000000 in
set_option maxRecDepth 100000 in
theorem c_X2_isUndefined (l : Launch) (X : hX) (g : Nat) (M : hm) (a0 : Int32) (a1 : UInt64) (a3 : UInt64) (RR : Int32) (hj : j_X2_isUndefined g a0 a1 a3 = some RR) : Ct l X yX2_isUndefined cX2_isUndefined 6 (some .boolean) { frames := 1, cells := 0, slots := 0, locals := 21 } [.int a0, .double a1, .double a3] M (qI X (M, RR)) := by
  refine h_enter (own := RX2) (by decide) rfl (Nat.le_of_ble_eq_true rfl) ?_
  intro p e s m below meth c ls cx hr hlocks hnm hP hS hl
  have hx := cx.1
  have hb := cx.2.1
  have hl : lv_has ls 6 [(0, .int a0), (1, .double a1), (3, .double a3)] := hl
  unfold j_X2_isUndefined at hj
  have hgo : ∀ (H : Heap) (locs : List Loc), hp X M H → va_S (hA X) s.heap H locs → W p l e ({ frames := 1, cells := 0, slots := 0, locals := 21 } : Room) s m _ below meth c H locs 0 0 (MQ below (qI X (M, RR)) _ s 0 0 (hA X)) (F0 m 0 ls []) := by
    have J_234 : ∀ (s0 : Int32) (H : Heap) (locs : List Loc) (ls : Array Slot), j_X2_isUndefined_234 g s0 = some RR → hp X M H → va_S (hA X) s.heap H locs → lv_has ls 6 [] → W p l e ({ frames := 1, cells := 0, slots := 0, locals := 21 } : Room) s m _ below meth c H locs 0 0 (MQ below (qI X (M, RR)) _ s 0 0 (hA X)) (F0 m 234 ls [.int s0]) := by
      intro s0 H locs ls hj hP hS hl
      unfold j_X2_isUndefined_234 at hj
      obtain ⟨z1, g_z1, hj⟩ := Option.bind_eq_some_iff.mp hj
      exact t_Z cx hr hlocks hP hS (zb_eq g_z1).1 (congrArg (Prod.mk M) (Option.some.inj hj)) (Nat.le_of_ble_eq_true rfl) (Nat.le_of_ble_eq_true rfl) dX2_isUndefined_234
    have J_229 : ∀ (H : Heap) (locs : List Loc) (ls : Array Slot), j_X2_isUndefined_229 g  = some RR → hp X M H → va_S (hA X) s.heap H locs → lv_has ls 6 [] → W p l e ({ frames := 1, cells := 0, slots := 0, locals := 21 } : Room) s m _ below meth c H locs 0 0 (MQ below (qI X (M, RR)) _ s 0 0 (hA X)) (F0 m 229 ls []) := by
      intro  H locs ls hj hP hS hl
      unfold j_X2_isUndefined_229 at hj
      refine lv_iconst (v := 1) hx hb dX2_isUndefined_229 (by decide) ?_
      refine lv_goto (tgt := 234) hx hb dX2_isUndefined_230 (by decide) ?_
      exact J_234 (1 : Int32) H locs ls hj hP hS (lv_sub hl [] rfl)
    have J_215 : ∀ (s0 : Int32) (H : Heap) (locs : List Loc) (ls : Array Slot), j_X2_isUndefined_215 g s0 = some RR → hp X M H → va_S (hA X) s.heap H locs → lv_has ls 6 [] → W p l e ({ frames := 1, cells := 0, slots := 0, locals := 21 } : Room) s m _ below meth c H locs 0 0 (MQ below (qI X (M, RR)) _ s 0 0 (hA X)) (F0 m 215 ls [.int s0]) := by
      intro s0 H locs ls hj hP hS hl
      unfold j_X2_isUndefined_215 at hj
      obtain ⟨z2, g_z2, hj⟩ := Option.bind_eq_some_iff.mp hj
      exact t_Z cx hr hlocks hP hS (zb_eq g_z2).1 (congrArg (Prod.mk M) (Option.some.inj hj)) (Nat.le_of_ble_eq_true rfl) (Nat.le_of_ble_eq_true rfl) dX2_isUndefined_215
    have J_210 : ∀ (H : Heap) (locs : List Loc) (ls : Array Slot), j_X2_isUndefined_210 g  = some RR → hp X M H → va_S (hA X) s.heap H locs → lv_has ls 6 [] → W p l e ({ frames := 1, cells := 0, slots := 0, locals := 21 } : Room) s m _ below meth c H locs 0 0 (MQ below (qI X (M, RR)) _ s 0 0 (hA X)) (F0 m 210 ls []) := by
      intro  H locs ls hj hP hS hl
      unfold j_X2_isUndefined_210 at hj
      refine lv_iconst (v := 1) hx hb dX2_isUndefined_210 (by decide) ?_
      refine lv_goto (tgt := 215) hx hb dX2_isUndefined_211 (by decide) ?_
      exact J_215 (1 : Int32) H locs ls hj hP hS (lv_sub hl [] rfl)
    have J_196 : ∀ (s0 : Int32) (H : Heap) (locs : List Loc) (ls : Array Slot), j_X2_isUndefined_196 g s0 = some RR → hp X M H → va_S (hA X) s.heap H locs → lv_has ls 6 [] → W p l e ({ frames := 1, cells := 0, slots := 0, locals := 21 } : Room) s m _ below meth c H locs 0 0 (MQ below (qI X (M, RR)) _ s 0 0 (hA X)) (F0 m 196 ls [.int s0]) := by
      intro s0 H locs ls hj hP hS hl
      unfold j_X2_isUndefined_196 at hj
      obtain ⟨z3, g_z3, hj⟩ := Option.bind_eq_some_iff.mp hj
      exact t_Z cx hr hlocks hP hS (zb_eq g_z3).1 (congrArg (Prod.mk M) (Option.some.inj hj)) (Nat.le_of_ble_eq_true rfl) (Nat.le_of_ble_eq_true rfl) dX2_isUndefined_196
    have J_195 : ∀ (H : Heap) (locs : List Loc) (ls : Array Slot), j_X2_isUndefined_195 g  = some RR → hp X M H → va_S (hA X) s.heap H locs → lv_has ls 6 [] → W p l e ({ frames := 1, cells := 0, slots := 0, locals := 21 } : Room) s m _ below meth c H locs 0 0 (MQ below (qI X (M, RR)) _ s 0 0 (hA X)) (F0 m 195 ls []) := by
      intro  H locs ls hj hP hS hl
      unfold j_X2_isUndefined_195 at hj
      refine lv_iconst (v := 0) hx hb dX2_isUndefined_195 (by decide) ?_
      exact J_196 (0 : Int32) H locs ls hj hP hS (lv_sub hl [] rfl)
    have J_191 : ∀ (H : Heap) (locs : List Loc) (ls : Array Slot), j_X2_isUndefined_191 g  = some RR → hp X M H → va_S (hA X) s.heap H locs → lv_has ls 6 [] → W p l e ({ frames := 1, cells := 0, slots := 0, locals := 21 } : Room) s m _ below meth c H locs 0 0 (MQ below (qI X (M, RR)) _ s 0 0 (hA X)) (F0 m 191 ls []) := by
      intro  H locs ls hj hP hS hl
      unfold j_X2_isUndefined_191 at hj
      refine lv_iconst (v := 1) hx hb dX2_isUndefined_191 (by decide) ?_
      refine lv_goto (tgt := 196) hx hb dX2_isUndefined_192 (by decide) ?_
      exact J_196 (1 : Int32) H locs ls hj hP hS (lv_sub hl [] rfl)
    have J_173 : ∀ (s0 : Int32) (H : Heap) (locs : List Loc) (ls : Array Slot), j_X2_isUndefined_173 g s0 = some RR → hp X M H → va_S (hA X) s.heap H locs → lv_has ls 6 [] → W p l e ({ frames := 1, cells := 0, slots := 0, locals := 21 } : Room) s m _ below meth c H locs 0 0 (MQ below (qI X (M, RR)) _ s 0 0 (hA X)) (F0 m 173 ls [.int s0]) := by
      intro s0 H locs ls hj hP hS hl
      unfold j_X2_isUndefined_173 at hj
      obtain ⟨z4, g_z4, hj⟩ := Option.bind_eq_some_iff.mp hj
      exact t_Z cx hr hlocks hP hS (zb_eq g_z4).1 (congrArg (Prod.mk M) (Option.some.inj hj)) (Nat.le_of_ble_eq_true rfl) (Nat.le_of_ble_eq_true rfl) dX2_isUndefined_173
    have J_172 : ∀ (H : Heap) (locs : List Loc) (ls : Array Slot), j_X2_isUndefined_172 g  = some RR → hp X M H → va_S (hA X) s.heap H locs → lv_has ls 6 [] → W p l e ({ frames := 1, cells := 0, slots := 0, locals := 21 } : Room) s m _ below meth c H locs 0 0 (MQ below (qI X (M, RR)) _ s 0 0 (hA X)) (F0 m 172 ls []) := by
      intro  H locs ls hj hP hS hl
      unfold j_X2_isUndefined_172 at hj
      refine lv_iconst (v := 0) hx hb dX2_isUndefined_172 (by decide) ?_
      exact J_173 (0 : Int32) H locs ls hj hP hS (lv_sub hl [] rfl)
    have J_168 : ∀ (H : Heap) (locs : List Loc) (ls : Array Slot), j_X2_isUndefined_168 g  = some RR → hp X M H → va_S (hA X) s.heap H locs → lv_has ls 6 [] → W p l e ({ frames := 1, cells := 0, slots := 0, locals := 21 } : Room) s m _ below meth c H locs 0 0 (MQ below (qI X (M, RR)) _ s 0 0 (hA X)) (F0 m 168 ls []) := by
      intro  H locs ls hj hP hS hl
      unfold j_X2_isUndefined_168 at hj
      refine lv_iconst (v := 1) hx hb dX2_isUndefined_168 (by decide) ?_
      refine lv_goto (tgt := 173) hx hb dX2_isUndefined_169 (by decide) ?_
      exact J_173 (1 : Int32) H locs ls hj hP hS (lv_sub hl [] rfl)
    have J_155 : ∀ (p1 : UInt64) (p3 : UInt64) (H : Heap) (locs : List Loc) (ls : Array Slot), j_X2_isUndefined_155 g p1 p3 = some RR → hp X M H → va_S (hA X) s.heap H locs → lv_has ls 6 [(1, .double p1), (3, .double p3)] → W p l e ({ frames := 1, cells := 0, slots := 0, locals := 21 } : Room) s m _ below meth c H locs 0 0 (MQ below (qI X (M, RR)) _ s 0 0 (hA X)) (F0 m 155 ls []) := by
      intro p1 p3 H locs ls hj hP hS hl
      unfold j_X2_isUndefined_155 at hj
      refine lv_dload_n hx hb dX2_isUndefined_155 rfl (lv_at hl 0 rfl) ?_
      obtain ⟨v5, g_v5, hj⟩ := Option.bind_eq_some_iff.mp hj
      refine f_I (k_N (As := [.double p1]) (n := 1) (rest := []) cx hl.1 hP hS (c_X5_isInfinite l X g M p1 v5 g_v5) mC_X5_isInfinite cx.2.2.2.2.2.1.2.1.2.1 mT_X5_isInfinite mZ_X5 (by decide +kernel) ⟨Nat.le_of_ble_eq_true rfl, Nat.le_of_ble_eq_true rfl⟩ rfl rfl (Nat.le_of_ble_eq_true rfl) dX2_isUndefined_156 ⟨Nat.le_of_ble_eq_true rfl, Nat.le_of_ble_eq_true rfl⟩) hS (fun H locs hP hS => ?_)
      have hP : hp X M H := hP
      refine W.eq (g2 := F0 m 159 ls [.int v5]) rfl ?_
      refine W.widen (k := 0) (n := 0) (Nat.le_of_ble_eq_true rfl) (Nat.le_of_ble_eq_true rfl) ?_
      refine lv_if_eq (tgt := 172) hx hb dX2_isUndefined_159 (by decide) (fun c6 => ?_) (fun c6 => ?_)
      · have hj := if_t c6 hj
        exact J_172  H locs ls hj hP hS (lv_sub hl [] rfl)
      · have hj := if_f c6 hj
        refine lv_dload_n hx hb dX2_isUndefined_162 rfl (lv_at hl 1 rfl) ?_
        refine lv_dconst0 hx hb dX2_isUndefined_163 ?_
        refine lv_dcmp hx hb dX2_isUndefined_164 ?_
        refine lv_if_ne (tgt := 172) hx hb dX2_isUndefined_165 (by decide) (fun c7 => ?_) (fun c7 => ?_)
        · have hj := if_f c7 hj
          exact J_172  H locs ls hj hP hS (lv_sub hl [] rfl)
        · have hj := if_t c7 hj
          exact J_168  H locs ls hj hP hS (lv_sub hl [] rfl)
    have J_141 : ∀ (s0 : Int32) (H : Heap) (locs : List Loc) (ls : Array Slot), j_X2_isUndefined_141 g s0 = some RR → hp X M H → va_S (hA X) s.heap H locs → lv_has ls 6 [] → W p l e ({ frames := 1, cells := 0, slots := 0, locals := 21 } : Room) s m _ below meth c H locs 0 0 (MQ below (qI X (M, RR)) _ s 0 0 (hA X)) (F0 m 141 ls [.int s0]) := by
      intro s0 H locs ls hj hP hS hl
      unfold j_X2_isUndefined_141 at hj
      obtain ⟨z8, g_z8, hj⟩ := Option.bind_eq_some_iff.mp hj
      exact t_Z cx hr hlocks hP hS (zb_eq g_z8).1 (congrArg (Prod.mk M) (Option.some.inj hj)) (Nat.le_of_ble_eq_true rfl) (Nat.le_of_ble_eq_true rfl) dX2_isUndefined_141
    have J_140 : ∀ (H : Heap) (locs : List Loc) (ls : Array Slot), j_X2_isUndefined_140 g  = some RR → hp X M H → va_S (hA X) s.heap H locs → lv_has ls 6 [] → W p l e ({ frames := 1, cells := 0, slots := 0, locals := 21 } : Room) s m _ below meth c H locs 0 0 (MQ below (qI X (M, RR)) _ s 0 0 (hA X)) (F0 m 140 ls []) := by
      intro  H locs ls hj hP hS hl
      unfold j_X2_isUndefined_140 at hj
      refine lv_iconst (v := 0) hx hb dX2_isUndefined_140 (by decide) ?_
      exact J_141 (0 : Int32) H locs ls hj hP hS (lv_sub hl [] rfl)
    have J_124 : ∀ (s0 : Int32) (H : Heap) (locs : List Loc) (ls : Array Slot), j_X2_isUndefined_124 g s0 = some RR → hp X M H → va_S (hA X) s.heap H locs → lv_has ls 6 [] → W p l e ({ frames := 1, cells := 0, slots := 0, locals := 21 } : Room) s m _ below meth c H locs 0 0 (MQ below (qI X (M, RR)) _ s 0 0 (hA X)) (F0 m 124 ls [.int s0]) := by
      intro s0 H locs ls hj hP hS hl
      unfold j_X2_isUndefined_124 at hj
      obtain ⟨z9, g_z9, hj⟩ := Option.bind_eq_some_iff.mp hj
      exact t_Z cx hr hlocks hP hS (zb_eq g_z9).1 (congrArg (Prod.mk M) (Option.some.inj hj)) (Nat.le_of_ble_eq_true rfl) (Nat.le_of_ble_eq_true rfl) dX2_isUndefined_124
    have J_123 : ∀ (H : Heap) (locs : List Loc) (ls : Array Slot), j_X2_isUndefined_123 g  = some RR → hp X M H → va_S (hA X) s.heap H locs → lv_has ls 6 [] → W p l e ({ frames := 1, cells := 0, slots := 0, locals := 21 } : Room) s m _ below meth c H locs 0 0 (MQ below (qI X (M, RR)) _ s 0 0 (hA X)) (F0 m 123 ls []) := by
      intro  H locs ls hj hP hS hl
      unfold j_X2_isUndefined_123 at hj
      refine lv_iconst (v := 0) hx hb dX2_isUndefined_123 (by decide) ?_
      exact J_124 (0 : Int32) H locs ls hj hP hS (lv_sub hl [] rfl)
    have J_19 : ∀ (p0 : Int32) (p1 : UInt64) (p3 : UInt64) (s0 : Int32) (H : Heap) (locs : List Loc) (ls : Array Slot), j_X2_isUndefined_19 g p0 p1 p3 s0 = some RR → hp X M H → va_S (hA X) s.heap H locs → lv_has ls 6 [(0, .int p0), (1, .double p1), (3, .double p3)] → W p l e ({ frames := 1, cells := 0, slots := 0, locals := 21 } : Room) s m _ below meth c H locs 0 0 (MQ below (qI X (M, RR)) _ s 0 0 (hA X)) (F0 m 19 ls [.int s0]) := by
      intro p0 p1 p3 s0 H locs ls hj hP hS hl
      unfold j_X2_isUndefined_19 at hj
      refine lv_istore (lv' := [(5, .int s0), (0, .int p0), (1, .double p1), (3, .double p3)]) hx hb dX2_isUndefined_19 hl (by decide) rfl (fun ls hl => ?_)
      refine lv_iload_n hx hb dX2_isUndefined_21 rfl (lv_at hl 1 rfl) ?_
      by_cases c10 : p0 = (9 : Int32)
      · have hj := if_t c10 hj
        refine lv_tableIn (off := 86) (tgt := 108) hx hb dX2_isUndefined_22 (by rw [c10]; decide) (by rw [c10]; decide) (by rw [c10]; decide) (by decide) ?_
        refine lv_iload hx hb dX2_isUndefined_108 (lv_at hl 0 rfl) ?_
        refine lv_if_eq (tgt := 123) hx hb dX2_isUndefined_110 (by decide) (fun c28 => ?_) (fun c28 => ?_)
        · have hj := if_t c28 hj
          exact J_123  H locs ls hj hP hS (lv_sub hl [] rfl)
        · have hj := if_f c28 hj
          refine lv_dload_n hx hb dX2_isUndefined_113 rfl (lv_at hl 2 rfl) ?_
          refine lv_dload_n hx hb dX2_isUndefined_114 rfl (lv_at hl 3 rfl) ?_
          refine lv_dcmp hx hb dX2_isUndefined_115 ?_
          refine lv_if_eq (tgt := 123) hx hb dX2_isUndefined_116 (by decide) (fun c29 => ?_) (fun c29 => ?_)
          · have hj := if_t c29 hj
            exact J_123  H locs ls hj hP hS (lv_sub hl [] rfl)
          · have hj := if_f c29 hj
            refine lv_iconst (v := 1) hx hb dX2_isUndefined_119 (by decide) ?_
            refine lv_goto (tgt := 124) hx hb dX2_isUndefined_120 (by decide) ?_
            exact J_124 (1 : Int32) H locs ls hj hP hS (lv_sub hl [] rfl)
      have hj := if_f c10 hj
      by_cases c11 : p0 = (10 : Int32)
      · have hj := if_t c11 hj
        refine lv_tableIn (off := 103) (tgt := 125) hx hb dX2_isUndefined_22 (by rw [c11]; decide) (by rw [c11]; decide) (by rw [c11]; decide) (by decide) ?_
        refine lv_iload hx hb dX2_isUndefined_125 (lv_at hl 0 rfl) ?_
        refine lv_if_eq (tgt := 140) hx hb dX2_isUndefined_127 (by decide) (fun c30 => ?_) (fun c30 => ?_)
        · have hj := if_t c30 hj
          exact J_140  H locs ls hj hP hS (lv_sub hl [] rfl)
        · have hj := if_f c30 hj
          refine lv_dload_n hx hb dX2_isUndefined_130 rfl (lv_at hl 2 rfl) ?_
          refine lv_dload_n hx hb dX2_isUndefined_131 rfl (lv_at hl 3 rfl) ?_
          refine lv_dcmp hx hb dX2_isUndefined_132 ?_
          refine lv_if_ne (tgt := 140) hx hb dX2_isUndefined_133 (by decide) (fun c31 => ?_) (fun c31 => ?_)
          · have hj := if_f c31 hj
            exact J_140  H locs ls hj hP hS (lv_sub hl [] rfl)
          · have hj := if_t c31 hj
            refine lv_iconst (v := 1) hx hb dX2_isUndefined_136 (by decide) ?_
            refine lv_goto (tgt := 141) hx hb dX2_isUndefined_137 (by decide) ?_
            exact J_141 (1 : Int32) H locs ls hj hP hS (lv_sub hl [] rfl)
      have hj := if_f c11 hj
      by_cases c12 : p0 = (11 : Int32)
      · have hj := if_t c12 hj
        refine lv_tableIn (off := 120) (tgt := 142) hx hb dX2_isUndefined_22 (by rw [c12]; decide) (by rw [c12]; decide) (by rw [c12]; decide) (by decide) ?_
        refine lv_dload_n hx hb dX2_isUndefined_142 rfl (lv_at hl 2 rfl) ?_
        refine lv_dconst0 hx hb dX2_isUndefined_143 ?_
        refine lv_dcmp hx hb dX2_isUndefined_144 ?_
        refine lv_if_ne (tgt := 155) hx hb dX2_isUndefined_145 (by decide) (fun c32 => ?_) (fun c32 => ?_)
        · have hj := if_f c32 hj
          exact J_155 p1 p3 H locs ls hj hP hS (lv_sub hl [2, 3] rfl)
        · have hj := if_t c32 hj
          refine lv_dload_n hx hb dX2_isUndefined_148 rfl (lv_at hl 3 rfl) ?_
          obtain ⟨v33, g_v33, hj⟩ := Option.bind_eq_some_iff.mp hj
          refine f_I (k_N (As := [.double p3]) (n := 1) (rest := []) cx hl.1 hP hS (c_X5_isInfinite l X g M p3 v33 g_v33) mC_X5_isInfinite cx.2.2.2.2.2.1.2.1.2.1 mT_X5_isInfinite mZ_X5 (by decide +kernel) ⟨Nat.le_of_ble_eq_true rfl, Nat.le_of_ble_eq_true rfl⟩ rfl rfl (Nat.le_of_ble_eq_true rfl) dX2_isUndefined_149 ⟨Nat.le_of_ble_eq_true rfl, Nat.le_of_ble_eq_true rfl⟩) hS (fun H locs hP hS => ?_)
          have hP : hp X M H := hP
          refine W.eq (g2 := F0 m 152 ls [.int v33]) rfl ?_
          refine W.widen (k := 0) (n := 0) (Nat.le_of_ble_eq_true rfl) (Nat.le_of_ble_eq_true rfl) ?_
          refine lv_if_ne (tgt := 168) hx hb dX2_isUndefined_152 (by decide) (fun c34 => ?_) (fun c34 => ?_)
          · have hj := if_f c34 hj
            exact J_168  H locs ls hj hP hS (lv_sub hl [] rfl)
          · have hj := if_t c34 hj
            exact J_155 p1 p3 H locs ls hj hP hS (lv_sub hl [2, 3] rfl)
      have hj := if_f c12 hj
      by_cases c13 : p0 = (12 : Int32)
      · have hj := if_t c13 hj
        refine lv_tableIn (off := 152) (tgt := 174) hx hb dX2_isUndefined_22 (by rw [c13]; decide) (by rw [c13]; decide) (by rw [c13]; decide) (by decide) ?_
        refine lv_iload hx hb dX2_isUndefined_174 (lv_at hl 0 rfl) ?_
        refine lv_if_ne (tgt := 191) hx hb dX2_isUndefined_176 (by decide) (fun c35 => ?_) (fun c35 => ?_)
        · have hj := if_f c35 hj
          exact J_191  H locs ls hj hP hS (lv_sub hl [] rfl)
        · have hj := if_t c35 hj
          refine lv_dload_n hx hb dX2_isUndefined_179 rfl (lv_at hl 2 rfl) ?_
          refine lv_dconst0 hx hb dX2_isUndefined_180 ?_
          refine lv_dcmp hx hb dX2_isUndefined_181 ?_
          refine lv_if_ne (tgt := 195) hx hb dX2_isUndefined_182 (by decide) (fun c36 => ?_) (fun c36 => ?_)
          · have hj := if_f c36 hj
            exact J_195  H locs ls hj hP hS (lv_sub hl [] rfl)
          · have hj := if_t c36 hj
            refine lv_dload_n hx hb dX2_isUndefined_185 rfl (lv_at hl 3 rfl) ?_
            refine lv_dconst0 hx hb dX2_isUndefined_186 ?_
            refine lv_dcmp hx hb dX2_isUndefined_187 ?_
            refine lv_if_ne (tgt := 195) hx hb dX2_isUndefined_188 (by decide) (fun c37 => ?_) (fun c37 => ?_)
            · have hj := if_f c37 hj
              exact J_195  H locs ls hj hP hS (lv_sub hl [] rfl)
            · have hj := if_t c37 hj
              exact J_191  H locs ls hj hP hS (lv_sub hl [] rfl)
      have hj := if_f c13 hj
      by_cases c14 : p0 = (13 : Int32)
      · have hj := if_t c14 hj
        refine lv_tableIn (off := 175) (tgt := 197) hx hb dX2_isUndefined_22 (by rw [c14]; decide) (by rw [c14]; decide) (by rw [c14]; decide) (by decide) ?_
        refine lv_dload_n hx hb dX2_isUndefined_197 rfl (lv_at hl 3 rfl) ?_
        refine lv_dconst0 hx hb dX2_isUndefined_198 ?_
        refine lv_dcmp hx hb dX2_isUndefined_199 ?_
        refine lv_if_eq (tgt := 210) hx hb dX2_isUndefined_200 (by decide) (fun c38 => ?_) (fun c38 => ?_)
        · have hj := if_t c38 hj
          exact J_210  H locs ls hj hP hS (lv_sub hl [] rfl)
        · have hj := if_f c38 hj
          refine lv_dload_n hx hb dX2_isUndefined_203 rfl (lv_at hl 2 rfl) ?_
          obtain ⟨v39, g_v39, hj⟩ := Option.bind_eq_some_iff.mp hj
          refine f_I (k_N (As := [.double p1]) (n := 1) (rest := []) cx hl.1 hP hS (c_X5_isInfinite l X g M p1 v39 g_v39) mC_X5_isInfinite cx.2.2.2.2.2.1.2.1.2.1 mT_X5_isInfinite mZ_X5 (by decide +kernel) ⟨Nat.le_of_ble_eq_true rfl, Nat.le_of_ble_eq_true rfl⟩ rfl rfl (Nat.le_of_ble_eq_true rfl) dX2_isUndefined_204 ⟨Nat.le_of_ble_eq_true rfl, Nat.le_of_ble_eq_true rfl⟩) hS (fun H locs hP hS => ?_)
          have hP : hp X M H := hP
          refine W.eq (g2 := F0 m 207 ls [.int v39]) rfl ?_
          refine W.widen (k := 0) (n := 0) (Nat.le_of_ble_eq_true rfl) (Nat.le_of_ble_eq_true rfl) ?_
          refine lv_if_eq (tgt := 214) hx hb dX2_isUndefined_207 (by decide) (fun c40 => ?_) (fun c40 => ?_)
          · have hj := if_t c40 hj
            refine lv_iconst (v := 0) hx hb dX2_isUndefined_214 (by decide) ?_
            exact J_215 (0 : Int32) H locs ls hj hP hS (lv_sub hl [] rfl)
          · have hj := if_f c40 hj
            exact J_210  H locs ls hj hP hS (lv_sub hl [] rfl)
      have hj := if_f c14 hj
      by_cases c15 : p0 = (14 : Int32)
      · have hj := if_t c15 hj
        refine lv_tableIn (off := 213) (tgt := 235) hx hb dX2_isUndefined_22 (by rw [c15]; decide) (by rw [c15]; decide) (by rw [c15]; decide) (by decide) ?_
        refine lv_iconst (v := 0) hx hb dX2_isUndefined_235 (by decide) ?_
        exact t_Z cx hr hlocks hP hS (by decide) (congrArg (Prod.mk M) (Option.some.inj hj)) (Nat.le_of_ble_eq_true rfl) (Nat.le_of_ble_eq_true rfl) dX2_isUndefined_236
      have hj := if_f c15 hj
      by_cases c16 : p0 = (15 : Int32)
      · have hj := if_t c16 hj
        refine lv_tableIn (off := 213) (tgt := 235) hx hb dX2_isUndefined_22 (by rw [c16]; decide) (by rw [c16]; decide) (by rw [c16]; decide) (by decide) ?_
        refine lv_iconst (v := 0) hx hb dX2_isUndefined_235 (by decide) ?_
        exact t_Z cx hr hlocks hP hS (by decide) (congrArg (Prod.mk M) (Option.some.inj hj)) (Nat.le_of_ble_eq_true rfl) (Nat.le_of_ble_eq_true rfl) dX2_isUndefined_236
      have hj := if_f c16 hj
      by_cases c17 : p0 = (16 : Int32)
      · have hj := if_t c17 hj
        refine lv_tableIn (off := 213) (tgt := 235) hx hb dX2_isUndefined_22 (by rw [c17]; decide) (by rw [c17]; decide) (by rw [c17]; decide) (by decide) ?_
        refine lv_iconst (v := 0) hx hb dX2_isUndefined_235 (by decide) ?_
        exact t_Z cx hr hlocks hP hS (by decide) (congrArg (Prod.mk M) (Option.some.inj hj)) (Nat.le_of_ble_eq_true rfl) (Nat.le_of_ble_eq_true rfl) dX2_isUndefined_236
      have hj := if_f c17 hj
      by_cases c18 : p0 = (17 : Int32)
      · have hj := if_t c18 hj
        refine lv_tableIn (off := 213) (tgt := 235) hx hb dX2_isUndefined_22 (by rw [c18]; decide) (by rw [c18]; decide) (by rw [c18]; decide) (by decide) ?_
        refine lv_iconst (v := 0) hx hb dX2_isUndefined_235 (by decide) ?_
        exact t_Z cx hr hlocks hP hS (by decide) (congrArg (Prod.mk M) (Option.some.inj hj)) (Nat.le_of_ble_eq_true rfl) (Nat.le_of_ble_eq_true rfl) dX2_isUndefined_236
      have hj := if_f c18 hj
      by_cases c19 : p0 = (18 : Int32)
      · have hj := if_t c19 hj
        refine lv_tableIn (off := 213) (tgt := 235) hx hb dX2_isUndefined_22 (by rw [c19]; decide) (by rw [c19]; decide) (by rw [c19]; decide) (by decide) ?_
        refine lv_iconst (v := 0) hx hb dX2_isUndefined_235 (by decide) ?_
        exact t_Z cx hr hlocks hP hS (by decide) (congrArg (Prod.mk M) (Option.some.inj hj)) (Nat.le_of_ble_eq_true rfl) (Nat.le_of_ble_eq_true rfl) dX2_isUndefined_236
      have hj := if_f c19 hj
      by_cases c20 : p0 = (19 : Int32)
      · have hj := if_t c20 hj
        refine lv_tableIn (off := 213) (tgt := 235) hx hb dX2_isUndefined_22 (by rw [c20]; decide) (by rw [c20]; decide) (by rw [c20]; decide) (by decide) ?_
        refine lv_iconst (v := 0) hx hb dX2_isUndefined_235 (by decide) ?_
        exact t_Z cx hr hlocks hP hS (by decide) (congrArg (Prod.mk M) (Option.some.inj hj)) (Nat.le_of_ble_eq_true rfl) (Nat.le_of_ble_eq_true rfl) dX2_isUndefined_236
      have hj := if_f c20 hj
      by_cases c21 : p0 = (20 : Int32)
      · have hj := if_t c21 hj
        refine lv_tableIn (off := 213) (tgt := 235) hx hb dX2_isUndefined_22 (by rw [c21]; decide) (by rw [c21]; decide) (by rw [c21]; decide) (by decide) ?_
        refine lv_iconst (v := 0) hx hb dX2_isUndefined_235 (by decide) ?_
        exact t_Z cx hr hlocks hP hS (by decide) (congrArg (Prod.mk M) (Option.some.inj hj)) (Nat.le_of_ble_eq_true rfl) (Nat.le_of_ble_eq_true rfl) dX2_isUndefined_236
      have hj := if_f c21 hj
      by_cases c22 : p0 = (21 : Int32)
      · have hj := if_t c22 hj
        refine lv_tableIn (off := 213) (tgt := 235) hx hb dX2_isUndefined_22 (by rw [c22]; decide) (by rw [c22]; decide) (by rw [c22]; decide) (by decide) ?_
        refine lv_iconst (v := 0) hx hb dX2_isUndefined_235 (by decide) ?_
        exact t_Z cx hr hlocks hP hS (by decide) (congrArg (Prod.mk M) (Option.some.inj hj)) (Nat.le_of_ble_eq_true rfl) (Nat.le_of_ble_eq_true rfl) dX2_isUndefined_236
      have hj := if_f c22 hj
      by_cases c23 : p0 = (22 : Int32)
      · have hj := if_t c23 hj
        refine lv_tableIn (off := 213) (tgt := 235) hx hb dX2_isUndefined_22 (by rw [c23]; decide) (by rw [c23]; decide) (by rw [c23]; decide) (by decide) ?_
        refine lv_iconst (v := 0) hx hb dX2_isUndefined_235 (by decide) ?_
        exact t_Z cx hr hlocks hP hS (by decide) (congrArg (Prod.mk M) (Option.some.inj hj)) (Nat.le_of_ble_eq_true rfl) (Nat.le_of_ble_eq_true rfl) dX2_isUndefined_236
      have hj := if_f c23 hj
      by_cases c24 : p0 = (23 : Int32)
      · have hj := if_t c24 hj
        refine lv_tableIn (off := 213) (tgt := 235) hx hb dX2_isUndefined_22 (by rw [c24]; decide) (by rw [c24]; decide) (by rw [c24]; decide) (by decide) ?_
        refine lv_iconst (v := 0) hx hb dX2_isUndefined_235 (by decide) ?_
        exact t_Z cx hr hlocks hP hS (by decide) (congrArg (Prod.mk M) (Option.some.inj hj)) (Nat.le_of_ble_eq_true rfl) (Nat.le_of_ble_eq_true rfl) dX2_isUndefined_236
      have hj := if_f c24 hj
      by_cases c25 : p0 = (24 : Int32)
      · have hj := if_t c25 hj
        refine lv_tableIn (off := 213) (tgt := 235) hx hb dX2_isUndefined_22 (by rw [c25]; decide) (by rw [c25]; decide) (by rw [c25]; decide) (by decide) ?_
        refine lv_iconst (v := 0) hx hb dX2_isUndefined_235 (by decide) ?_
        exact t_Z cx hr hlocks hP hS (by decide) (congrArg (Prod.mk M) (Option.some.inj hj)) (Nat.le_of_ble_eq_true rfl) (Nat.le_of_ble_eq_true rfl) dX2_isUndefined_236
      have hj := if_f c25 hj
      by_cases c26 : p0 = (25 : Int32)
      · have hj := if_t c26 hj
        refine lv_tableIn (off := 213) (tgt := 235) hx hb dX2_isUndefined_22 (by rw [c26]; decide) (by rw [c26]; decide) (by rw [c26]; decide) (by decide) ?_
        refine lv_iconst (v := 0) hx hb dX2_isUndefined_235 (by decide) ?_
        exact t_Z cx hr hlocks hP hS (by decide) (congrArg (Prod.mk M) (Option.some.inj hj)) (Nat.le_of_ble_eq_true rfl) (Nat.le_of_ble_eq_true rfl) dX2_isUndefined_236
      have hj := if_f c26 hj
      by_cases c27 : p0 = (26 : Int32)
      · have hj := if_t c27 hj
        refine lv_tableIn (off := 194) (tgt := 216) hx hb dX2_isUndefined_22 (by rw [c27]; decide) (by rw [c27]; decide) (by rw [c27]; decide) (by decide) ?_
        refine lv_dload_n hx hb dX2_isUndefined_216 rfl (lv_at hl 3 rfl) ?_
        refine lv_dconst0 hx hb dX2_isUndefined_217 ?_
        refine lv_dcmp hx hb dX2_isUndefined_218 ?_
        refine lv_if_eq (tgt := 229) hx hb dX2_isUndefined_219 (by decide) (fun c41 => ?_) (fun c41 => ?_)
        · have hj := if_t c41 hj
          exact J_229  H locs ls hj hP hS (lv_sub hl [] rfl)
        · have hj := if_f c41 hj
          refine lv_dload_n hx hb dX2_isUndefined_222 rfl (lv_at hl 3 rfl) ?_
          obtain ⟨v42, g_v42, hj⟩ := Option.bind_eq_some_iff.mp hj
          refine f_I (k_N (As := [.double p3]) (n := 1) (rest := []) cx hl.1 hP hS (c_X5_isInfinite l X g M p3 v42 g_v42) mC_X5_isInfinite cx.2.2.2.2.2.1.2.1.2.1 mT_X5_isInfinite mZ_X5 (by decide +kernel) ⟨Nat.le_of_ble_eq_true rfl, Nat.le_of_ble_eq_true rfl⟩ rfl rfl (Nat.le_of_ble_eq_true rfl) dX2_isUndefined_223 ⟨Nat.le_of_ble_eq_true rfl, Nat.le_of_ble_eq_true rfl⟩) hS (fun H locs hP hS => ?_)
          have hP : hp X M H := hP
          refine W.eq (g2 := F0 m 226 ls [.int v42]) rfl ?_
          refine W.widen (k := 0) (n := 0) (Nat.le_of_ble_eq_true rfl) (Nat.le_of_ble_eq_true rfl) ?_
          refine lv_if_eq (tgt := 233) hx hb dX2_isUndefined_226 (by decide) (fun c43 => ?_) (fun c43 => ?_)
          · have hj := if_t c43 hj
            refine lv_iconst (v := 0) hx hb dX2_isUndefined_233 (by decide) ?_
            exact J_234 (0 : Int32) H locs ls hj hP hS (lv_sub hl [] rfl)
          · have hj := if_f c43 hj
            exact J_229  H locs ls hj hP hS (lv_sub hl [] rfl)
      have hj := if_f c27 hj
      have sw : p0.toInt < 9 ∨ 26 < p0.toInt := by
        rcases Int.lt_or_ge p0.toInt 9 with q | q
        · exact Or.inl q
        have q := sw_step q (sw_ne c10 (by decide))
        have q := sw_step q (sw_ne c11 (by decide))
        have q := sw_step q (sw_ne c12 (by decide))
        have q := sw_step q (sw_ne c13 (by decide))
        have q := sw_step q (sw_ne c14 (by decide))
        have q := sw_step q (sw_ne c15 (by decide))
        have q := sw_step q (sw_ne c16 (by decide))
        have q := sw_step q (sw_ne c17 (by decide))
        have q := sw_step q (sw_ne c18 (by decide))
        have q := sw_step q (sw_ne c19 (by decide))
        have q := sw_step q (sw_ne c20 (by decide))
        have q := sw_step q (sw_ne c21 (by decide))
        have q := sw_step q (sw_ne c22 (by decide))
        have q := sw_step q (sw_ne c23 (by decide))
        have q := sw_step q (sw_ne c24 (by decide))
        have q := sw_step q (sw_ne c25 (by decide))
        have q := sw_step q (sw_ne c26 (by decide))
        have q := sw_step q (sw_ne c27 (by decide))
        exact Or.inr (by omega)
      refine lv_tableOut (tgt := 235) hx hb dX2_isUndefined_22 sw (by decide) ?_
      refine lv_iconst (v := 0) hx hb dX2_isUndefined_235 (by decide) ?_
      exact t_Z cx hr hlocks hP hS (by decide) (congrArg (Prod.mk M) (Option.some.inj hj)) (Nat.le_of_ble_eq_true rfl) (Nat.le_of_ble_eq_true rfl) dX2_isUndefined_236
    have J_18 : ∀ (p0 : Int32) (p1 : UInt64) (p3 : UInt64) (H : Heap) (locs : List Loc) (ls : Array Slot), j_X2_isUndefined_18 g p0 p1 p3 = some RR → hp X M H → va_S (hA X) s.heap H locs → lv_has ls 6 [(0, .int p0), (1, .double p1), (3, .double p3)] → W p l e ({ frames := 1, cells := 0, slots := 0, locals := 21 } : Room) s m _ below meth c H locs 0 0 (MQ below (qI X (M, RR)) _ s 0 0 (hA X)) (F0 m 18 ls []) := by
      intro p0 p1 p3 H locs ls hj hP hS hl
      unfold j_X2_isUndefined_18 at hj
      refine lv_iconst (v := 0) hx hb dX2_isUndefined_18 (by decide) ?_
      exact J_19 p0 p1 p3 (0 : Int32) H locs ls hj hP hS (lv_sub hl [0, 1, 2] rfl)
    intro H locs hP hS
    refine lv_dload_n hx hb dX2_isUndefined_0 rfl (lv_at hl 1 rfl) ?_
    obtain ⟨v44, g_v44, hj⟩ := Option.bind_eq_some_iff.mp hj
    refine f_I (k_N (As := [.double a1]) (n := 1) (rest := []) cx hl.1 hP hS (c_X5_isInfinite l X g M a1 v44 g_v44) mC_X5_isInfinite cx.2.2.2.2.2.1.2.1.2.1 mT_X5_isInfinite mZ_X5 (by decide +kernel) ⟨Nat.le_of_ble_eq_true rfl, Nat.le_of_ble_eq_true rfl⟩ rfl rfl (Nat.le_of_ble_eq_true rfl) dX2_isUndefined_1 ⟨Nat.le_of_ble_eq_true rfl, Nat.le_of_ble_eq_true rfl⟩) hS (fun H locs hP hS => ?_)
    have hP : hp X M H := hP
    refine W.eq (g2 := F0 m 4 ls [.int v44]) rfl ?_
    refine W.widen (k := 0) (n := 0) (Nat.le_of_ble_eq_true rfl) (Nat.le_of_ble_eq_true rfl) ?_
    refine lv_if_eq (tgt := 18) hx hb dX2_isUndefined_4 (by decide) (fun c45 => ?_) (fun c45 => ?_)
    · have hj := if_t c45 hj
      exact J_18 a0 a1 a3 H locs ls hj hP hS (lv_sub hl [0, 1, 2] rfl)
    · have hj := if_f c45 hj
      refine lv_dload_n hx hb dX2_isUndefined_7 rfl (lv_at hl 2 rfl) ?_
      obtain ⟨v46, g_v46, hj⟩ := Option.bind_eq_some_iff.mp hj
      refine f_I (k_N (As := [.double a3]) (n := 1) (rest := []) cx hl.1 hP hS (c_X5_isInfinite l X g M a3 v46 g_v46) mC_X5_isInfinite cx.2.2.2.2.2.1.2.1.2.1 mT_X5_isInfinite mZ_X5 (by decide +kernel) ⟨Nat.le_of_ble_eq_true rfl, Nat.le_of_ble_eq_true rfl⟩ rfl rfl (Nat.le_of_ble_eq_true rfl) dX2_isUndefined_8 ⟨Nat.le_of_ble_eq_true rfl, Nat.le_of_ble_eq_true rfl⟩) hS (fun H locs hP hS => ?_)
      have hP : hp X M H := hP
      refine W.eq (g2 := F0 m 11 ls [.int v46]) rfl ?_
      refine W.widen (k := 0) (n := 0) (Nat.le_of_ble_eq_true rfl) (Nat.le_of_ble_eq_true rfl) ?_
      refine lv_if_eq (tgt := 18) hx hb dX2_isUndefined_11 (by decide) (fun c47 => ?_) (fun c47 => ?_)
      · have hj := if_t c47 hj
        exact J_18 a0 a1 a3 H locs ls hj hP hS (lv_sub hl [0, 1, 2] rfl)
      · have hj := if_f c47 hj
        refine lv_iconst (v := 1) hx hb dX2_isUndefined_14 (by decide) ?_
        refine lv_goto (tgt := 19) hx hb dX2_isUndefined_15 (by decide) ?_
        exact J_19 a0 a1 a3 (1 : Int32) H locs ls hj hP hS (lv_sub hl [0, 1, 2] rfl)
  exact hgo _ _ hP hS
set_option maxHeartbeats 4000000 in
set_option maxRecDepth 100000 in
theorem c_X2_hasDifference (l : Launch) (X : hX) (g : Nat) (M : hm) (a0 : Nat) (a1 : Int32) (RR : Int32) (hj : j_X2_hasDifference g M a0 a1 = some RR) : Ct l X yX2_hasDifference cX2_hasDifference 2 (some .boolean) { frames := 2, cells := 0, slots := 0, locals := 46 } [.ref a0, .int a1] M (qI X (M, RR)) := by
  refine h_enter (own := RX2) (by decide) rfl (Nat.le_of_ble_eq_true rfl) ?_
  intro p e s m below meth c ls cx hr hlocks hnm hP hS hl
  have hx := cx.1
  have hb := cx.2.1
  have hl : lv_has ls 2 [(0, .ref a0), (1, .int a1)] := hl
  unfold j_X2_hasDifference at hj
  have hgo : ∀ (H : Heap) (locs : List Loc), hp X M H → va_S (hA X) s.heap H locs → W p l e ({ frames := 2, cells := 0, slots := 0, locals := 46 } : Room) s m _ below meth c H locs 0 0 (MQ below (qI X (M, RR)) _ s 0 0 (hA X)) (F0 m 0 ls []) := by
    have J_61 : ∀ (s0 : Int32) (H : Heap) (locs : List Loc) (ls : Array Slot), j_X2_hasDifference_61 g M s0 = some RR → hp X M H → va_S (hA X) s.heap H locs → lv_has ls 2 [] → W p l e ({ frames := 2, cells := 0, slots := 0, locals := 46 } : Room) s m _ below meth c H locs 0 0 (MQ below (qI X (M, RR)) _ s 0 0 (hA X)) (F0 m 61 ls [.int s0]) := by
      intro s0 H locs ls hj hP hS hl
      unfold j_X2_hasDifference_61 at hj
      obtain ⟨z1, g_z1, hj⟩ := Option.bind_eq_some_iff.mp hj
      exact t_Z cx hr hlocks hP hS (zb_eq g_z1).1 (congrArg (Prod.mk M) (Option.some.inj hj)) (Nat.le_of_ble_eq_true rfl) (Nat.le_of_ble_eq_true rfl) dX2_hasDifference_61
    have J_60 : ∀ (H : Heap) (locs : List Loc) (ls : Array Slot), j_X2_hasDifference_60 g M  = some RR → hp X M H → va_S (hA X) s.heap H locs → lv_has ls 2 [] → W p l e ({ frames := 2, cells := 0, slots := 0, locals := 46 } : Room) s m _ below meth c H locs 0 0 (MQ below (qI X (M, RR)) _ s 0 0 (hA X)) (F0 m 60 ls []) := by
      intro  H locs ls hj hP hS hl
      unfold j_X2_hasDifference_60 at hj
      refine lv_iconst (v := 0) hx hb dX2_hasDifference_60 (by decide) ?_
      exact J_61 (0 : Int32) H locs ls hj hP hS (lv_sub hl [] rfl)
    intro H locs hP hS
    refine lv_iload_n hx hb dX2_hasDifference_0 rfl (lv_at hl 1 rfl) ?_
    refine lv_if_le (tgt := 60) hx hb dX2_hasDifference_1 (by decide) (fun c2 => ?_) (fun c2 => ?_)
    · have hj := if_t c2 hj
      exact J_60  H locs ls hj hP hS (lv_sub hl [] rfl)
    · have hj := if_f c2 hj
      refine lv_aload_n hx hb dX2_hasDifference_4 rfl (lv_at hl 0 rfl) ?_
      obtain ⟨v3, g_v3, hj⟩ := Option.bind_eq_some_iff.mp hj
      refine r_getR cx hP g_v3 iX2 rfl (by decide) mF_X2_21 dX2_hasDifference_5 ?_
      refine lv_iload_n hx hb dX2_hasDifference_8 rfl (lv_at hl 1 rfl) ?_
      refine lv_iconst (v := 1) hx hb dX2_hasDifference_9 (by decide) ?_
      refine lv_isub hx hb dX2_hasDifference_10 ?_
      obtain ⟨b4, e_b4, hj⟩ := Option.bind_eq_some_iff.mp hj
      subst e_b4
      obtain ⟨_, o5, hj⟩ := Option.bind_eq_some_iff.mp hj
      obtain ⟨v6, g_v6, hj⟩ := Option.bind_eq_some_iff.mp hj
      refine f_I (k_V (b := b4) (As := [.int (a1 - (1 : Int32))]) (n := 1) (rest := []) cx hl.1 hP hS (c_X3_blankAt l X g M b4 (a1 - (1 : Int32)) v6 g_v6) o5 rfl mC_X3_blankAt mM_X2_84 mI_X3_blankAt mS_X3_blankAt mZ_X3 (by decide +kernel) ⟨Nat.le_of_ble_eq_true rfl, Nat.le_of_ble_eq_true rfl⟩ rfl rfl (Nat.le_of_ble_eq_true rfl) dX2_hasDifference_11 ⟨Nat.le_of_ble_eq_true rfl, Nat.le_of_ble_eq_true rfl⟩) hS (fun H locs hP hS => ?_)
      have hP : hp X M H := hP
      refine W.eq (g2 := F0 m 14 ls [.int v6]) rfl ?_
      refine W.widen (k := 0) (n := 0) (Nat.le_of_ble_eq_true rfl) (Nat.le_of_ble_eq_true rfl) ?_
      refine lv_if_ne (tgt := 60) hx hb dX2_hasDifference_14 (by decide) (fun c7 => ?_) (fun c7 => ?_)
      · have hj := if_f c7 hj
        exact J_60  H locs ls hj hP hS (lv_sub hl [] rfl)
      · have hj := if_t c7 hj
        refine lv_aload_n hx hb dX2_hasDifference_17 rfl (lv_at hl 0 rfl) ?_
        obtain ⟨v8, g_v8, hj⟩ := Option.bind_eq_some_iff.mp hj
        refine r_getR cx hP g_v8 iX2 rfl (by decide) mF_X2_21 dX2_hasDifference_18 ?_
        refine lv_iload_n hx hb dX2_hasDifference_21 rfl (lv_at hl 1 rfl) ?_
        obtain ⟨b9, e_b9, hj⟩ := Option.bind_eq_some_iff.mp hj
        subst e_b9
        obtain ⟨_, o10, hj⟩ := Option.bind_eq_some_iff.mp hj
        obtain ⟨v11, g_v11, hj⟩ := Option.bind_eq_some_iff.mp hj
        refine f_I (k_V (b := b9) (As := [.int a1]) (n := 1) (rest := []) cx hl.1 hP hS (c_X3_blankAt l X g M b9 a1 v11 g_v11) o10 rfl mC_X3_blankAt mM_X2_84 mI_X3_blankAt mS_X3_blankAt mZ_X3 (by decide +kernel) ⟨Nat.le_of_ble_eq_true rfl, Nat.le_of_ble_eq_true rfl⟩ rfl rfl (Nat.le_of_ble_eq_true rfl) dX2_hasDifference_22 ⟨Nat.le_of_ble_eq_true rfl, Nat.le_of_ble_eq_true rfl⟩) hS (fun H locs hP hS => ?_)
        have hP : hp X M H := hP
        refine W.eq (g2 := F0 m 25 ls [.int v11]) rfl ?_
        refine W.widen (k := 0) (n := 0) (Nat.le_of_ble_eq_true rfl) (Nat.le_of_ble_eq_true rfl) ?_
        refine lv_if_ne (tgt := 60) hx hb dX2_hasDifference_25 (by decide) (fun c12 => ?_) (fun c12 => ?_)
        · have hj := if_f c12 hj
          exact J_60  H locs ls hj hP hS (lv_sub hl [] rfl)
        · have hj := if_t c12 hj
          refine lv_bipush (v := 10) hx hb dX2_hasDifference_28 (by decide) ?_
          refine lv_aload_n hx hb dX2_hasDifference_30 rfl (lv_at hl 0 rfl) ?_
          obtain ⟨v13, g_v13, hj⟩ := Option.bind_eq_some_iff.mp hj
          refine r_getR cx hP g_v13 iX2 rfl (by decide) mF_X2_21 dX2_hasDifference_31 ?_
          obtain ⟨b14, e_b14, hj⟩ := Option.bind_eq_some_iff.mp hj
          subst e_b14
          obtain ⟨v15, g_v15, hj⟩ := Option.bind_eq_some_iff.mp hj
          refine r_getR cx hP g_v15 iX3 rfl (by decide) mF_X2_87 dX2_hasDifference_34 ?_
          refine lv_iload_n hx hb dX2_hasDifference_37 rfl (lv_at hl 1 rfl) ?_
          obtain ⟨b16, e_b16, hj⟩ := Option.bind_eq_some_iff.mp hj
          subst e_b16
          obtain ⟨v17, g_v17, hj⟩ := Option.bind_eq_some_iff.mp hj
          refine r_aldD cx hP g_v17 dX2_hasDifference_38 ?_
          refine lv_aload_n hx hb dX2_hasDifference_39 rfl (lv_at hl 0 rfl) ?_
          obtain ⟨v18, g_v18, hj⟩ := Option.bind_eq_some_iff.mp hj
          refine r_getR cx hP g_v18 iX2 rfl (by decide) mF_X2_21 dX2_hasDifference_40 ?_
          obtain ⟨b19, e_b19, hj⟩ := Option.bind_eq_some_iff.mp hj
          subst e_b19
          obtain ⟨v20, g_v20, hj⟩ := Option.bind_eq_some_iff.mp hj
          refine r_getR cx hP g_v20 iX3 rfl (by decide) mF_X2_87 dX2_hasDifference_43 ?_
          refine lv_iload_n hx hb dX2_hasDifference_46 rfl (lv_at hl 1 rfl) ?_
          refine lv_iconst (v := 1) hx hb dX2_hasDifference_47 (by decide) ?_
          refine lv_isub hx hb dX2_hasDifference_48 ?_
          obtain ⟨b21, e_b21, hj⟩ := Option.bind_eq_some_iff.mp hj
          subst e_b21
          obtain ⟨v22, g_v22, hj⟩ := Option.bind_eq_some_iff.mp hj
          refine r_aldD cx hP g_v22 dX2_hasDifference_49 ?_
          obtain ⟨v23, g_v23, hj⟩ := Option.bind_eq_some_iff.mp hj
          refine f_I (k_S (As := [.int (10 : Int32), .double v17, .double v22]) (n := 3) (rest := []) cx hl.1 hP hS (c_X2_isUndefined l X g M (10 : Int32) v17 v22 v23 g_v23) mC_X2_isUndefined mM_X2_90 mT_X2_isUndefined mZ_X2 (by decide +kernel) ⟨Nat.le_of_ble_eq_true rfl, Nat.le_of_ble_eq_true rfl⟩ rfl rfl (Nat.le_of_ble_eq_true rfl) dX2_hasDifference_50 ⟨Nat.le_of_ble_eq_true rfl, Nat.le_of_ble_eq_true rfl⟩) hS (fun H locs hP hS => ?_)
          have hP : hp X M H := hP
          refine W.eq (g2 := F0 m 53 ls [.int v23]) rfl ?_
          refine W.widen (k := 0) (n := 0) (Nat.le_of_ble_eq_true rfl) (Nat.le_of_ble_eq_true rfl) ?_
          refine lv_if_ne (tgt := 60) hx hb dX2_hasDifference_53 (by decide) (fun c24 => ?_) (fun c24 => ?_)
          · have hj := if_f c24 hj
            exact J_60  H locs ls hj hP hS (lv_sub hl [] rfl)
          · have hj := if_t c24 hj
            refine lv_iconst (v := 1) hx hb dX2_hasDifference_56 (by decide) ?_
            refine lv_goto (tgt := 61) hx hb dX2_hasDifference_57 (by decide) ?_
            exact J_61 (1 : Int32) H locs ls hj hP hS (lv_sub hl [] rfl)
  exact hgo _ _ hP hS
set_option maxHeartbeats 4000000 in
set_option maxRecDepth 100000 in
theorem c_X4_init (l : Launch) (X : hX) (g : Nat) (M : hm) (a0 : Nat) (RR : hm) (hj : j_X4_init g M a0 = some RR) : Ct l X yX4_init cX4_init 2 none { frames := 1, cells := 2, slots := 20, locals := 12 } [.ref a0] M (qV X RR) := by
  refine h_enter (own := RX4) (by decide) rfl (Nat.le_of_ble_eq_true rfl) ?_
  intro p e s m below meth c ls cx hr hlocks hnm hP hS hl
  have hx := cx.1
  have hb := cx.2.1
  have hl : lv_has ls 2 [(0, .ref a0)] := hl
  unfold j_X4_init at hj
  have hgo : ∀ (H : Heap) (locs : List Loc), hp X M H → va_S (hA X) s.heap H locs → W p l e ({ frames := 1, cells := 2, slots := 20, locals := 12 } : Room) s m _ below meth c H locs 0 0 (MQ below (qV X RR) _ s 2 20 (hA X)) (F0 m 0 ls []) := by
    have J_98 : ∀ (M : hm) (H : Heap) (locs : List Loc) (ls : Array Slot), j_X4_init_98 g M = some RR → hp X M H → va_S (hA X) s.heap H locs → lv_has ls 2 [] → W p l e ({ frames := 1, cells := 2, slots := 20, locals := 12 } : Room) s m _ below meth c H locs 2 20 (MQ below (qV X RR) _ s 2 20 (hA X)) (F0 m 98 ls []) := by
      intro M H locs ls hj hP hS hl
      unfold j_X4_init_98 at hj
      exact t_V cx hr hlocks hP hS (Option.some.inj hj) (Nat.le_of_ble_eq_true rfl) (Nat.le_of_ble_eq_true rfl) dX4_init_98
    have L_40 : ∀ (n40 : Nat) (M : hm) (p0 : Nat) (p1 : Int32) (H : Heap) (locs : List Loc) (ls : Array Slot), j_X4_init_40 g n40 M p0 p1 = some RR → hp X M H → va_S (hA X) s.heap H locs → lv_has ls 2 [(0, .ref p0), (1, .int p1)] → W p l e ({ frames := 1, cells := 2, slots := 20, locals := 12 } : Room) s m _ below meth c H locs 2 20 (MQ below (qV X RR) _ s 2 20 (hA X)) (F0 m 40 ls []) := by
      intro n40
      induction n40 with
      | zero =>
        intro M p0 p1 H locs ls hj
        exact no_zero hj
      | succ n40 ih_40 =>
        intro M p0 p1 H locs ls hj hP hS hl
        rw [j_X4_init_40_s] at hj
        refine lv_iload_n hx hb dX4_init_40 rfl (lv_at hl 1 rfl) ?_
        refine lv_bipush (v := 10) hx hb dX4_init_41 (by decide) ?_
        refine lv_icmp_ge (tgt := 98) hx hb dX4_init_43 (by decide) (fun c1 => ?_) (fun c1 => ?_)
        · have hj := if_t c1 hj
          exact J_98 M H locs ls hj hP hS (lv_sub hl [] rfl)
        · have hj := if_f c1 hj
          refine lv_aload_n hx hb dX4_init_46 rfl (lv_at hl 0 rfl) ?_
          obtain ⟨v2, g_v2, hj⟩ := Option.bind_eq_some_iff.mp hj
          refine r_getR cx hP g_v2 iX4 rfl (by decide) mF_X4_9 dX4_init_47 ?_
          refine lv_iload_n hx hb dX4_init_50 rfl (lv_at hl 1 rfl) ?_
          refine lv_aload_n hx hb dX4_init_51 rfl (lv_at hl 0 rfl) ?_
          obtain ⟨v3, g_v3, hj⟩ := Option.bind_eq_some_iff.mp hj
          refine r_getR cx hP g_v3 iX4 rfl (by decide) mF_X4_9 dX4_init_52 ?_
          refine lv_iload_n hx hb dX4_init_55 rfl (lv_at hl 1 rfl) ?_
          refine lv_iconst (v := 1) hx hb dX4_init_56 (by decide) ?_
          refine lv_isub hx hb dX4_init_57 ?_
          obtain ⟨b4, e_b4, hj⟩ := Option.bind_eq_some_iff.mp hj
          subst e_b4
          obtain ⟨v5, g_v5, hj⟩ := Option.bind_eq_some_iff.mp hj
          refine r_aldD cx hP g_v5 dX4_init_58 ?_
          refine lv_aload_n hx hb dX4_init_59 rfl (lv_at hl 0 rfl) ?_
          obtain ⟨v6, g_v6, hj⟩ := Option.bind_eq_some_iff.mp hj
          refine r_getR cx hP g_v6 iX4 rfl (by decide) mF_X4_9 dX4_init_60 ?_
          refine lv_iload_n hx hb dX4_init_63 rfl (lv_at hl 1 rfl) ?_
          refine lv_iconst (v := 1) hx hb dX4_init_64 (by decide) ?_
          refine lv_isub hx hb dX4_init_65 ?_
          obtain ⟨b7, e_b7, hj⟩ := Option.bind_eq_some_iff.mp hj
          subst e_b7
          obtain ⟨v8, g_v8, hj⟩ := Option.bind_eq_some_iff.mp hj
          refine r_aldD cx hP g_v8 dX4_init_66 ?_
          obtain ⟨v9, g_v9, hj⟩ := Option.bind_eq_some_iff.mp hj
          obtain ⟨n_v9, e_v9⟩ := n64_eq g_v9
          refine lv_dmul hx hb dX4_init_67 n_v9 ?_
          rw [← e_v9]
          obtain ⟨b10, e_b10, hj⟩ := Option.bind_eq_some_iff.mp hj
          subst e_b10
          obtain ⟨M11, g_M11, hj⟩ := Option.bind_eq_some_iff.mp hj
          refine r_astD cx hP hS g_M11 dX4_init_68 (fun H locs hP hS => ?_)
          refine lv_aload_n hx hb dX4_init_69 rfl (lv_at hl 0 rfl) ?_
          obtain ⟨v12, g_v12, hj⟩ := Option.bind_eq_some_iff.mp hj
          refine r_getR cx hP g_v12 iX4 rfl (by decide) mF_X4_13 dX4_init_70 ?_
          refine lv_iload_n hx hb dX4_init_73 rfl (lv_at hl 1 rfl) ?_
          refine lv_aload_n hx hb dX4_init_74 rfl (lv_at hl 0 rfl) ?_
          obtain ⟨v13, g_v13, hj⟩ := Option.bind_eq_some_iff.mp hj
          refine r_getR cx hP g_v13 iX4 rfl (by decide) mF_X4_13 dX4_init_75 ?_
          refine lv_iload_n hx hb dX4_init_78 rfl (lv_at hl 1 rfl) ?_
          refine lv_iconst (v := 1) hx hb dX4_init_79 (by decide) ?_
          refine lv_isub hx hb dX4_init_80 ?_
          obtain ⟨b14, e_b14, hj⟩ := Option.bind_eq_some_iff.mp hj
          subst e_b14
          obtain ⟨v15, g_v15, hj⟩ := Option.bind_eq_some_iff.mp hj
          refine r_aldD cx hP g_v15 dX4_init_81 ?_
          refine lv_aload_n hx hb dX4_init_82 rfl (lv_at hl 0 rfl) ?_
          obtain ⟨v16, g_v16, hj⟩ := Option.bind_eq_some_iff.mp hj
          refine r_getR cx hP g_v16 iX4 rfl (by decide) mF_X4_13 dX4_init_83 ?_
          refine lv_iload_n hx hb dX4_init_86 rfl (lv_at hl 1 rfl) ?_
          refine lv_iconst (v := 1) hx hb dX4_init_87 (by decide) ?_
          refine lv_isub hx hb dX4_init_88 ?_
          obtain ⟨b17, e_b17, hj⟩ := Option.bind_eq_some_iff.mp hj
          subst e_b17
          obtain ⟨v18, g_v18, hj⟩ := Option.bind_eq_some_iff.mp hj
          refine r_aldD cx hP g_v18 dX4_init_89 ?_
          obtain ⟨v19, g_v19, hj⟩ := Option.bind_eq_some_iff.mp hj
          obtain ⟨n_v19, e_v19⟩ := n64_eq g_v19
          refine lv_dmul hx hb dX4_init_90 n_v19 ?_
          rw [← e_v19]
          obtain ⟨b20, e_b20, hj⟩ := Option.bind_eq_some_iff.mp hj
          subst e_b20
          obtain ⟨M21, g_M21, hj⟩ := Option.bind_eq_some_iff.mp hj
          refine r_astD cx hP hS g_M21 dX4_init_91 (fun H locs hP hS => ?_)
          refine lv_iinc (v := (p1 + (1 : Int32))) (lv' := [(1, .int (p1 + (1 : Int32))), (0, .ref p0)]) hx hb dX4_init_92 hl (k := 1) rfl rfl (by decide) rfl (fun ls hl => ?_)
          refine lv_goto (tgt := 40) hx hb dX4_init_95 (by decide) ?_
          exact ih_40 M21 p0 (p1 + (1 : Int32)) H locs ls hj hP hS (lv_sub hl [1, 0] rfl)
    intro H locs hP hS
    refine lv_aload_n hx hb dX4_init_0 rfl (lv_at hl 0 rfl) ?_
    refine W.objInit hx hb cx.2.2.2.1 (cx.2.2.2.2.1 _ mM_X4_1) (cx.2.2.2.2.1 _ mI_obj) (cx.2.2.2.2.1 _ mC_obj) rfl (by rw [cx.2.2.1]; exact hl.1) rfl dX4_init_1 (Nat.le_of_ble_eq_true rfl) (Nat.le_of_ble_eq_true rfl) ?_
    refine W.eq (g2 := F0 m 4 ls []) rfl ?_
    refine lv_aload_n hx hb dX4_init_4 rfl (lv_at hl 0 rfl) ?_
    refine lv_bipush (v := 10) hx hb dX4_init_5 (by decide) ?_
    obtain ⟨⟨Mq22, aq22⟩, g_q22, hj⟩ := Option.bind_eq_some_iff.mp hj
    refine r_newA (N := 10) (a0 := (10, .inr (.inr (.inr (.inl (fun _ => 0)))))) cx hP hS g_q22 rfl mA_double rfl (fun _ h => h) (fun _ => rfl) (by decide) (by decide) (by decide) (Nat.le_of_ble_eq_true rfl) (Nat.le_of_ble_eq_true rfl) dX4_init_7 (fun H hP hS => ?_)
    have hP : hp X Mq22 H := hP
    obtain ⟨M23, g_M23, hj⟩ := Option.bind_eq_some_iff.mp hj
    refine r_putF cx hP hS g_M23 iX4 tyX4 tyX4_ok nmX4 rfl (by decide) mF_X4_9 rfl hnm rfl rfl rfl dX4_init_9 (fun H locs hP hS => ?_)
    refine lv_aload_n hx hb dX4_init_12 rfl (lv_at hl 0 rfl) ?_
    refine lv_bipush (v := 10) hx hb dX4_init_13 (by decide) ?_
    obtain ⟨⟨Mq24, aq24⟩, g_q24, hj⟩ := Option.bind_eq_some_iff.mp hj
    refine r_newA (N := 10) (a0 := (10, .inr (.inr (.inr (.inl (fun _ => 0)))))) cx hP hS g_q24 rfl mA_double rfl (fun _ h => h) (fun _ => rfl) (by decide) (by decide) (by decide) (Nat.le_of_ble_eq_true rfl) (Nat.le_of_ble_eq_true rfl) dX4_init_15 (fun H hP hS => ?_)
    have hP : hp X Mq24 H := hP
    obtain ⟨M25, g_M25, hj⟩ := Option.bind_eq_some_iff.mp hj
    refine r_putF cx hP hS g_M25 iX4 tyX4 tyX4_ok nmX4 rfl (by decide) mF_X4_13 rfl hnm rfl rfl rfl dX4_init_17 (fun H locs hP hS => ?_)
    refine lv_aload_n hx hb dX4_init_20 rfl (lv_at hl 0 rfl) ?_
    obtain ⟨v26, g_v26, hj⟩ := Option.bind_eq_some_iff.mp hj
    refine r_getR cx hP g_v26 iX4 rfl (by decide) mF_X4_9 dX4_init_21 ?_
    refine lv_iconst (v := 0) hx hb dX4_init_24 (by decide) ?_
    refine lv_ldc2d hx hb cx.2.2.2.1 (cx.2.2.2.2.1 _ mK_X4_16) dX4_init_25 ?_
    obtain ⟨b27, e_b27, hj⟩ := Option.bind_eq_some_iff.mp hj
    subst e_b27
    obtain ⟨M28, g_M28, hj⟩ := Option.bind_eq_some_iff.mp hj
    refine r_astD cx hP hS g_M28 dX4_init_28 (fun H locs hP hS => ?_)
    refine lv_aload_n hx hb dX4_init_29 rfl (lv_at hl 0 rfl) ?_
    obtain ⟨v29, g_v29, hj⟩ := Option.bind_eq_some_iff.mp hj
    refine r_getR cx hP g_v29 iX4 rfl (by decide) mF_X4_13 dX4_init_30 ?_
    refine lv_iconst (v := 0) hx hb dX4_init_33 (by decide) ?_
    refine lv_ldc2d hx hb cx.2.2.2.1 (cx.2.2.2.2.1 _ mK_X4_18) dX4_init_34 ?_
    obtain ⟨b30, e_b30, hj⟩ := Option.bind_eq_some_iff.mp hj
    subst e_b30
    obtain ⟨M31, g_M31, hj⟩ := Option.bind_eq_some_iff.mp hj
    refine r_astD cx hP hS g_M31 dX4_init_37 (fun H locs hP hS => ?_)
    refine lv_iconst (v := 1) hx hb dX4_init_38 (by decide) ?_
    refine lv_istore_n (lv' := [(1, .int (1 : Int32)), (0, .ref a0)]) hx hb dX4_init_39 rfl hl (by decide) rfl (fun ls hl => ?_)
    exact L_40 g M31 a0 (1 : Int32) H locs ls hj hP hS (lv_sub hl [1, 0] rfl)
  exact hgo _ _ hP hS
set_option maxHeartbeats 4000000 in
set_option maxRecDepth 100000 in
theorem c_X3_init (l : Launch) (X : hX) (g : Nat) (M : hm) (a0 : Nat) (RR : hm) (hj : j_X3_init g M a0 = some RR) : Ct l X yX3_init cX3_init 1 none { frames := 1, cells := 1, slots := 16, locals := 12 } [.ref a0] M (qV X RR) := by
  refine h_enter (own := RX3) (by decide) rfl (Nat.le_of_ble_eq_true rfl) ?_
  intro p e s m below meth c ls cx hr hlocks hnm hP hS hl
  have hx := cx.1
  have hb := cx.2.1
  have hl : lv_has ls 1 [(0, .ref a0)] := hl
  unfold j_X3_init at hj
  have hgo : ∀ (H : Heap) (locs : List Loc), hp X M H → va_S (hA X) s.heap H locs → W p l e ({ frames := 1, cells := 1, slots := 16, locals := 12 } : Room) s m _ below meth c H locs 0 0 (MQ below (qV X RR) _ s 1 16 (hA X)) (F0 m 0 ls []) := by
    intro H locs hP hS
    refine lv_aload_n hx hb dX3_init_0 rfl (lv_at hl 0 rfl) ?_
    refine W.objInit hx hb cx.2.2.2.1 (cx.2.2.2.2.1 _ mM_X3_3) (cx.2.2.2.2.1 _ mI_obj) (cx.2.2.2.2.1 _ mC_obj) rfl (by rw [cx.2.2.1]; exact hl.1) rfl dX3_init_1 (Nat.le_of_ble_eq_true rfl) (Nat.le_of_ble_eq_true rfl) ?_
    refine W.eq (g2 := F0 m 4 ls []) rfl ?_
    refine lv_aload_n hx hb dX3_init_4 rfl (lv_at hl 0 rfl) ?_
    refine lv_bipush (v := 16) hx hb dX3_init_5 (by decide) ?_
    obtain ⟨⟨Mq1, aq1⟩, g_q1, hj⟩ := Option.bind_eq_some_iff.mp hj
    refine r_newA (N := 16) (a0 := (16, .inr (.inr (.inr (.inl (fun _ => 0)))))) cx hP hS g_q1 rfl mA_double rfl (fun _ h => h) (fun _ => rfl) (by decide) (by decide) (by decide) (Nat.le_of_ble_eq_true rfl) (Nat.le_of_ble_eq_true rfl) dX3_init_7 (fun H hP hS => ?_)
    have hP : hp X Mq1 H := hP
    obtain ⟨M2, g_M2, hj⟩ := Option.bind_eq_some_iff.mp hj
    refine r_putF cx hP hS g_M2 iX3 tyX3 tyX3_ok nmX3 rfl (by decide) mF_X3_9 rfl hnm rfl rfl rfl dX3_init_9 (fun H locs hP hS => ?_)
    refine lv_aload_n hx hb dX3_init_12 rfl (lv_at hl 0 rfl) ?_
    refine lv_ldc hx hb cx.2.2.2.1 (cx.2.2.2.2.1 _ mK_X3_15) dX3_init_13 ?_
    obtain ⟨M3, g_M3, hj⟩ := Option.bind_eq_some_iff.mp hj
    refine r_put cx hP hS g_M3 iX3 tyX3 tyX3_ok nmX3 rfl (by decide) mF_X3_16 rfl rfl rfl dX3_init_15 (fun H locs hP hS => ?_)
    refine lv_aload_n hx hb dX3_init_18 rfl (lv_at hl 0 rfl) ?_
    refine lv_iconst (v := 0) hx hb dX3_init_19 (by decide) ?_
    obtain ⟨M4, g_M4, hj⟩ := Option.bind_eq_some_iff.mp hj
    refine r_put cx hP hS g_M4 iX3 tyX3 tyX3_ok nmX3 rfl (by decide) mF_X3_20 rfl rfl rfl dX3_init_20 (fun H locs hP hS => ?_)
    refine lv_aload_n hx hb dX3_init_23 rfl (lv_at hl 0 rfl) ?_
    refine lv_iconst (v := -1) hx hb dX3_init_24 (by decide) ?_
    obtain ⟨M5, g_M5, hj⟩ := Option.bind_eq_some_iff.mp hj
    refine r_put cx hP hS g_M5 iX3 tyX3 tyX3_ok nmX3 rfl (by decide) mF_X3_24 rfl rfl rfl dX3_init_25 (fun H locs hP hS => ?_)
    refine lv_aload_n hx hb dX3_init_28 rfl (lv_at hl 0 rfl) ?_
    refine lv_iconst (v := 0) hx hb dX3_init_29 (by decide) ?_
    obtain ⟨M6, g_M6, hj⟩ := Option.bind_eq_some_iff.mp hj
    refine r_put cx hP hS g_M6 iX3 tyX3 tyX3_ok nmX3 rfl (by decide) mF_X3_27 rfl rfl rfl dX3_init_30 (fun H locs hP hS => ?_)
    refine lv_aload_n hx hb dX3_init_33 rfl (lv_at hl 0 rfl) ?_
    refine lv_iconst (v := 0) hx hb dX3_init_34 (by decide) ?_
    obtain ⟨M7, g_M7, hj⟩ := Option.bind_eq_some_iff.mp hj
    refine r_put cx hP hS g_M7 iX3 tyX3 tyX3_ok nmX3 rfl (by decide) mF_X3_30 rfl rfl rfl dX3_init_35 (fun H locs hP hS => ?_)
    refine lv_aload_n hx hb dX3_init_38 rfl (lv_at hl 0 rfl) ?_
    refine lv_iconst (v := 0) hx hb dX3_init_39 (by decide) ?_
    obtain ⟨M8, g_M8, hj⟩ := Option.bind_eq_some_iff.mp hj
    refine r_put cx hP hS g_M8 iX3 tyX3 tyX3_ok nmX3 rfl (by decide) mF_X3_33 rfl rfl rfl dX3_init_40 (fun H locs hP hS => ?_)
    exact t_V cx hr hlocks hP hS (Option.some.inj hj) (Nat.le_of_ble_eq_true rfl) (Nat.le_of_ble_eq_true rfl) dX3_init_43
  exact hgo _ _ hP hS
set_option maxHeartbeats 4000000 in
set_option maxRecDepth 100000 in
theorem c_X2_init (l : Launch) (X : hX) (g : Nat) (M : hm) (a0 : Nat) (RR : hm) (hj : j_X2_init g M a0 = some RR) : Ct l X yX2_init cX2_init 1 none { frames := 2, cells := 8, slots := 84, locals := 33 } [.ref a0] M (qV X RR) := by
  refine h_enter (own := RX2) (by decide) rfl (Nat.le_of_ble_eq_true rfl) ?_
  intro p e s m below meth c ls cx hr hlocks hnm hP hS hl
  have hx := cx.1
  have hb := cx.2.1
  have hl : lv_has ls 1 [(0, .ref a0)] := hl
  unfold j_X2_init at hj
  have hgo : ∀ (H : Heap) (locs : List Loc), hp X M H → va_S (hA X) s.heap H locs → W p l e ({ frames := 2, cells := 8, slots := 84, locals := 33 } : Room) s m _ below meth c H locs 0 0 (MQ below (qV X RR) _ s 8 84 (hA X)) (F0 m 0 ls []) := by
    intro H locs hP hS
    refine lv_aload_n hx hb dX2_init_0 rfl (lv_at hl 0 rfl) ?_
    refine W.objInit hx hb cx.2.2.2.1 (cx.2.2.2.2.1 _ mM_X2_3) (cx.2.2.2.2.1 _ mI_obj) (cx.2.2.2.2.1 _ mC_obj) rfl (by rw [cx.2.2.1]; exact hl.1) rfl dX2_init_1 (Nat.le_of_ble_eq_true rfl) (Nat.le_of_ble_eq_true rfl) ?_
    refine W.eq (g2 := F0 m 4 ls []) rfl ?_
    refine lv_aload_n hx hb dX2_init_4 rfl (lv_at hl 0 rfl) ?_
    obtain ⟨⟨Mq1, aq1⟩, g_q1, hj⟩ := Option.bind_eq_some_iff.mp hj
    refine r_new (ci := 4) (fs := [.null, .null]) cx hP hS g_q1 iX4 tyX4 tyX4_ok mL_X2_9 mN_X4 mZ_X4 rfl (fun j hj => by rcases (show j = 0 ∨ j = 1 by omega) with rfl | rfl <;> rfl) (Nat.le_of_ble_eq_true rfl) (Nat.le_of_ble_eq_true rfl) dX2_init_5 (fun H hP hS => ?_)
    have hP : hp X Mq1 H := hP
    refine lv_dup hx hb dX2_init_8 rfl ?_
    obtain ⟨M2, g_M2, hj⟩ := Option.bind_eq_some_iff.mp hj
    refine f_V (k_I (b := aq1) (As := []) (n := 0) (rest := [.ref aq1, .ref a0]) cx hl.1 hP hS (c_X4_init l X g Mq1 aq1 M2 g_M2) mC_X4_init mM_X2_11 mI_X4_init mZ_X4 rfl (by decide +kernel) ⟨Nat.le_of_ble_eq_true rfl, Nat.le_of_ble_eq_true rfl⟩ rfl rfl (Nat.le_of_ble_eq_true rfl) dX2_init_9 ⟨Nat.le_of_ble_eq_true rfl, Nat.le_of_ble_eq_true rfl⟩) hS (fun H locs hP hS => ?_)
    have hP : hp X M2 H := hP
    refine W.eq (g2 := F0 m 12 ls [.ref aq1, .ref a0]) rfl ?_
    refine W.widen (k := 3) (n := 22) (Nat.le_of_ble_eq_true rfl) (Nat.le_of_ble_eq_true rfl) ?_
    obtain ⟨M3, g_M3, hj⟩ := Option.bind_eq_some_iff.mp hj
    refine r_putF cx hP hS g_M3 iX2 tyX2 tyX2_ok nmX2 rfl (by decide) mF_X2_12 rfl hnm rfl rfl rfl dX2_init_12 (fun H locs hP hS => ?_)
    refine lv_aload_n hx hb dX2_init_15 rfl (lv_at hl 0 rfl) ?_
    obtain ⟨⟨Mq4, aq4⟩, g_q4, hj⟩ := Option.bind_eq_some_iff.mp hj
    refine r_new (ci := 3) (fs := [.null, .int 0, .int 0, .int 0, .int 0, .int 0, .int 0]) cx hP hS g_q4 iX3 tyX3 tyX3_ok mL_X2_18 mN_X3 mZ_X3 rfl (fun j hj => by rcases (show j = 0 ∨ j = 1 ∨ j = 2 ∨ j = 3 ∨ j = 4 ∨ j = 5 ∨ j = 6 by omega) with rfl | rfl | rfl | rfl | rfl | rfl | rfl <;> rfl) (Nat.le_of_ble_eq_true rfl) (Nat.le_of_ble_eq_true rfl) dX2_init_16 (fun H hP hS => ?_)
    have hP : hp X Mq4 H := hP
    refine lv_dup hx hb dX2_init_19 rfl ?_
    obtain ⟨M5, g_M5, hj⟩ := Option.bind_eq_some_iff.mp hj
    refine f_V (k_I (b := aq4) (As := []) (n := 0) (rest := [.ref aq4, .ref a0]) cx hl.1 hP hS (c_X3_init l X g Mq4 aq4 M5 g_M5) mC_X3_init mM_X2_20 mI_X3_init mZ_X3 rfl (by decide +kernel) ⟨Nat.le_of_ble_eq_true rfl, Nat.le_of_ble_eq_true rfl⟩ rfl rfl (Nat.le_of_ble_eq_true rfl) dX2_init_20 ⟨Nat.le_of_ble_eq_true rfl, Nat.le_of_ble_eq_true rfl⟩) hS (fun H locs hP hS => ?_)
    have hP : hp X M5 H := hP
    refine W.eq (g2 := F0 m 23 ls [.ref aq4, .ref a0]) rfl ?_
    refine W.widen (k := 5) (n := 45) (Nat.le_of_ble_eq_true rfl) (Nat.le_of_ble_eq_true rfl) ?_
    obtain ⟨M6, g_M6, hj⟩ := Option.bind_eq_some_iff.mp hj
    refine r_putF cx hP hS g_M6 iX2 tyX2 tyX2_ok nmX2 rfl (by decide) mF_X2_21 rfl hnm rfl rfl rfl dX2_init_23 (fun H locs hP hS => ?_)
    refine lv_aload_n hx hb dX2_init_26 rfl (lv_at hl 0 rfl) ?_
    obtain ⟨⟨Mq7, aq7⟩, g_q7, hj⟩ := Option.bind_eq_some_iff.mp hj
    refine r_new (ci := 3) (fs := [.null, .int 0, .int 0, .int 0, .int 0, .int 0, .int 0]) cx hP hS g_q7 iX3 tyX3 tyX3_ok mL_X2_18 mN_X3 mZ_X3 rfl (fun j hj => by rcases (show j = 0 ∨ j = 1 ∨ j = 2 ∨ j = 3 ∨ j = 4 ∨ j = 5 ∨ j = 6 by omega) with rfl | rfl | rfl | rfl | rfl | rfl | rfl <;> rfl) (Nat.le_of_ble_eq_true rfl) (Nat.le_of_ble_eq_true rfl) dX2_init_27 (fun H hP hS => ?_)
    have hP : hp X Mq7 H := hP
    refine lv_dup hx hb dX2_init_30 rfl ?_
    obtain ⟨M8, g_M8, hj⟩ := Option.bind_eq_some_iff.mp hj
    refine f_V (k_I (b := aq7) (As := []) (n := 0) (rest := [.ref aq7, .ref a0]) cx hl.1 hP hS (c_X3_init l X g Mq7 aq7 M8 g_M8) mC_X3_init mM_X2_20 mI_X3_init mZ_X3 rfl (by decide +kernel) ⟨Nat.le_of_ble_eq_true rfl, Nat.le_of_ble_eq_true rfl⟩ rfl rfl (Nat.le_of_ble_eq_true rfl) dX2_init_31 ⟨Nat.le_of_ble_eq_true rfl, Nat.le_of_ble_eq_true rfl⟩) hS (fun H locs hP hS => ?_)
    have hP : hp X M8 H := hP
    refine W.eq (g2 := F0 m 34 ls [.ref aq7, .ref a0]) rfl ?_
    refine W.widen (k := 7) (n := 68) (Nat.le_of_ble_eq_true rfl) (Nat.le_of_ble_eq_true rfl) ?_
    obtain ⟨M9, g_M9, hj⟩ := Option.bind_eq_some_iff.mp hj
    refine r_putF cx hP hS g_M9 iX2 tyX2 tyX2_ok nmX2 rfl (by decide) mF_X2_25 rfl hnm rfl rfl rfl dX2_init_34 (fun H locs hP hS => ?_)
    refine lv_aload_n hx hb dX2_init_37 rfl (lv_at hl 0 rfl) ?_
    refine lv_bipush (v := 16) hx hb dX2_init_38 (by decide) ?_
    obtain ⟨⟨Mq10, aq10⟩, g_q10, hj⟩ := Option.bind_eq_some_iff.mp hj
    refine r_newA (N := 16) (a0 := (16, .inr (.inr (.inr (.inl (fun _ => 0)))))) cx hP hS g_q10 rfl mA_double rfl (fun _ h => h) (fun _ => rfl) (by decide) (by decide) (by decide) (Nat.le_of_ble_eq_true rfl) (Nat.le_of_ble_eq_true rfl) dX2_init_40 (fun H hP hS => ?_)
    have hP : hp X Mq10 H := hP
    obtain ⟨M11, g_M11, hj⟩ := Option.bind_eq_some_iff.mp hj
    refine r_putF cx hP hS g_M11 iX2 tyX2 tyX2_ok nmX2 rfl (by decide) mF_X2_28 rfl hnm rfl rfl rfl dX2_init_42 (fun H locs hP hS => ?_)
    refine lv_aload_n hx hb dX2_init_45 rfl (lv_at hl 0 rfl) ?_
    refine lv_iconst (v := 0) hx hb dX2_init_46 (by decide) ?_
    obtain ⟨M12, g_M12, hj⟩ := Option.bind_eq_some_iff.mp hj
    refine r_put cx hP hS g_M12 iX2 tyX2 tyX2_ok nmX2 rfl (by decide) mF_X2_32 rfl rfl rfl dX2_init_47 (fun H locs hP hS => ?_)
    exact t_V cx hr hlocks hP hS (Option.some.inj hj) (Nat.le_of_ble_eq_true rfl) (Nat.le_of_ble_eq_true rfl) dX2_init_50
  exact hgo _ _ hP hS
set_option maxHeartbeats 4000000 in
set_option maxRecDepth 100000 in
theorem c_X2_insert (l : Launch) (X : hX) (g : Nat) (M : hm) (a0 : Nat) (a1 : UInt64) (RR : hm) (hj : j_X2_insert g M a0 a1 = some RR) : Ct l X yX2_insert cX2_insert 4 none { frames := 2, cells := 0, slots := 0, locals := 44 } [.ref a0, .double a1] M (qV X RR) := by
  refine h_enter (own := RX2) (by decide) rfl (Nat.le_of_ble_eq_true rfl) ?_
  intro p e s m below meth c ls cx hr hlocks hnm hP hS hl
  have hx := cx.1
  have hb := cx.2.1
  have hl : lv_has ls 4 [(0, .ref a0), (1, .double a1)] := hl
  unfold j_X2_insert at hj
  have hgo : ∀ (H : Heap) (locs : List Loc), hp X M H → va_S (hA X) s.heap H locs → W p l e ({ frames := 2, cells := 0, slots := 0, locals := 44 } : Room) s m _ below meth c H locs 0 0 (MQ below (qV X RR) _ s 0 0 (hA X)) (F0 m 0 ls []) := by
    have J_44 : ∀ (M : hm) (p0 : Nat) (p1 : UInt64) (p3 : Int32) (H : Heap) (locs : List Loc) (ls : Array Slot), j_X2_insert_44 g M p0 p1 p3 = some RR → hp X M H → va_S (hA X) s.heap H locs → lv_has ls 4 [(0, .ref p0), (1, .double p1), (3, .int p3)] → W p l e ({ frames := 2, cells := 0, slots := 0, locals := 44 } : Room) s m _ below meth c H locs 0 0 (MQ below (qV X RR) _ s 0 0 (hA X)) (F0 m 44 ls []) := by
      intro M p0 p1 p3 H locs ls hj hP hS hl
      unfold j_X2_insert_44 at hj
      refine lv_aload_n hx hb dX2_insert_44 rfl (lv_at hl 0 rfl) ?_
      obtain ⟨v1, g_v1, hj⟩ := Option.bind_eq_some_iff.mp hj
      refine r_getR cx hP g_v1 iX2 rfl (by decide) mF_X2_28 dX2_insert_45 ?_
      refine lv_iload_n hx hb dX2_insert_48 rfl (lv_at hl 2 rfl) ?_
      refine lv_dload_n hx hb dX2_insert_49 rfl (lv_at hl 1 rfl) ?_
      obtain ⟨b2, e_b2, hj⟩ := Option.bind_eq_some_iff.mp hj
      subst e_b2
      obtain ⟨M3, g_M3, hj⟩ := Option.bind_eq_some_iff.mp hj
      refine r_astD cx hP hS g_M3 dX2_insert_50 (fun H locs hP hS => ?_)
      refine lv_aload_n hx hb dX2_insert_51 rfl (lv_at hl 0 rfl) ?_
      refine lv_dup hx hb dX2_insert_52 rfl ?_
      obtain ⟨v4, g_v4, hj⟩ := Option.bind_eq_some_iff.mp hj
      refine r_getI cx hP g_v4 iX2 rfl (by decide) mF_X2_32 dX2_insert_53 ?_
      refine lv_iconst (v := 1) hx hb dX2_insert_56 (by decide) ?_
      refine lv_iadd hx hb dX2_insert_57 ?_
      obtain ⟨M5, g_M5, hj⟩ := Option.bind_eq_some_iff.mp hj
      refine r_put cx hP hS g_M5 iX2 tyX2 tyX2_ok nmX2 rfl (by decide) mF_X2_32 rfl rfl rfl dX2_insert_58 (fun H locs hP hS => ?_)
      exact t_V cx hr hlocks hP hS (Option.some.inj hj) (Nat.le_of_ble_eq_true rfl) (Nat.le_of_ble_eq_true rfl) dX2_insert_61
    have L_5 : ∀ (n5 : Nat) (M : hm) (p0 : Nat) (p1 : UInt64) (p3 : Int32) (H : Heap) (locs : List Loc) (ls : Array Slot), j_X2_insert_5 g n5 M p0 p1 p3 = some RR → hp X M H → va_S (hA X) s.heap H locs → lv_has ls 4 [(0, .ref p0), (1, .double p1), (3, .int p3)] → W p l e ({ frames := 2, cells := 0, slots := 0, locals := 44 } : Room) s m _ below meth c H locs 0 0 (MQ below (qV X RR) _ s 0 0 (hA X)) (F0 m 5 ls []) := by
      intro n5
      induction n5 with
      | zero =>
        intro M p0 p1 p3 H locs ls hj
        exact no_zero hj
      | succ n5 ih_5 =>
        intro M p0 p1 p3 H locs ls hj hP hS hl
        rw [j_X2_insert_5_s] at hj
        refine lv_iload_n hx hb dX2_insert_5 rfl (lv_at hl 2 rfl) ?_
        refine lv_if_le (tgt := 44) hx hb dX2_insert_6 (by decide) (fun c6 => ?_) (fun c6 => ?_)
        · have hj := if_t c6 hj
          exact J_44 M p0 p1 p3 H locs ls hj hP hS (lv_sub hl [0, 1, 2] rfl)
        · have hj := if_f c6 hj
          refine lv_dload_n hx hb dX2_insert_9 rfl (lv_at hl 1 rfl) ?_
          refine lv_aload_n hx hb dX2_insert_10 rfl (lv_at hl 0 rfl) ?_
          obtain ⟨v7, g_v7, hj⟩ := Option.bind_eq_some_iff.mp hj
          refine r_getR cx hP g_v7 iX2 rfl (by decide) mF_X2_28 dX2_insert_11 ?_
          refine lv_iload_n hx hb dX2_insert_14 rfl (lv_at hl 2 rfl) ?_
          refine lv_iconst (v := 1) hx hb dX2_insert_15 (by decide) ?_
          refine lv_isub hx hb dX2_insert_16 ?_
          obtain ⟨b8, e_b8, hj⟩ := Option.bind_eq_some_iff.mp hj
          subst e_b8
          obtain ⟨v9, g_v9, hj⟩ := Option.bind_eq_some_iff.mp hj
          refine r_aldD cx hP g_v9 dX2_insert_17 ?_
          obtain ⟨v10, g_v10, hj⟩ := Option.bind_eq_some_iff.mp hj
          refine f_I (k_S (As := [.double p1, .double v9]) (n := 2) (rest := []) cx hl.1 hP hS (c_X2_comesBefore l X g M p1 v9 v10 g_v10) mC_X2_comesBefore mM_X2_157 mT_X2_comesBefore mZ_X2 (by decide +kernel) ⟨Nat.le_of_ble_eq_true rfl, Nat.le_of_ble_eq_true rfl⟩ rfl rfl (Nat.le_of_ble_eq_true rfl) dX2_insert_18 ⟨Nat.le_of_ble_eq_true rfl, Nat.le_of_ble_eq_true rfl⟩) hS (fun H locs hP hS => ?_)
          have hP : hp X M H := hP
          refine W.eq (g2 := F0 m 21 ls [.int v10]) rfl ?_
          refine W.widen (k := 0) (n := 0) (Nat.le_of_ble_eq_true rfl) (Nat.le_of_ble_eq_true rfl) ?_
          refine lv_if_eq (tgt := 44) hx hb dX2_insert_21 (by decide) (fun c11 => ?_) (fun c11 => ?_)
          · have hj := if_t c11 hj
            exact J_44 M p0 p1 p3 H locs ls hj hP hS (lv_sub hl [0, 1, 2] rfl)
          · have hj := if_f c11 hj
            refine lv_aload_n hx hb dX2_insert_24 rfl (lv_at hl 0 rfl) ?_
            obtain ⟨v12, g_v12, hj⟩ := Option.bind_eq_some_iff.mp hj
            refine r_getR cx hP g_v12 iX2 rfl (by decide) mF_X2_28 dX2_insert_25 ?_
            refine lv_iload_n hx hb dX2_insert_28 rfl (lv_at hl 2 rfl) ?_
            refine lv_aload_n hx hb dX2_insert_29 rfl (lv_at hl 0 rfl) ?_
            obtain ⟨v13, g_v13, hj⟩ := Option.bind_eq_some_iff.mp hj
            refine r_getR cx hP g_v13 iX2 rfl (by decide) mF_X2_28 dX2_insert_30 ?_
            refine lv_iload_n hx hb dX2_insert_33 rfl (lv_at hl 2 rfl) ?_
            refine lv_iconst (v := 1) hx hb dX2_insert_34 (by decide) ?_
            refine lv_isub hx hb dX2_insert_35 ?_
            obtain ⟨b14, e_b14, hj⟩ := Option.bind_eq_some_iff.mp hj
            subst e_b14
            obtain ⟨v15, g_v15, hj⟩ := Option.bind_eq_some_iff.mp hj
            refine r_aldD cx hP g_v15 dX2_insert_36 ?_
            obtain ⟨b16, e_b16, hj⟩ := Option.bind_eq_some_iff.mp hj
            subst e_b16
            obtain ⟨M17, g_M17, hj⟩ := Option.bind_eq_some_iff.mp hj
            refine r_astD cx hP hS g_M17 dX2_insert_37 (fun H locs hP hS => ?_)
            refine lv_iinc (v := (p3 + (-1 : Int32))) (lv' := [(3, .int (p3 + (-1 : Int32))), (0, .ref p0), (1, .double p1)]) hx hb dX2_insert_38 hl (k := 2) rfl rfl (by decide) rfl (fun ls hl => ?_)
            refine lv_goto (tgt := 5) hx hb dX2_insert_41 (by decide) ?_
            exact ih_5 M17 p0 p1 (p3 + (-1 : Int32)) H locs ls hj hP hS (lv_sub hl [1, 2, 0] rfl)
    intro H locs hP hS
    refine lv_aload_n hx hb dX2_insert_0 rfl (lv_at hl 0 rfl) ?_
    obtain ⟨v18, g_v18, hj⟩ := Option.bind_eq_some_iff.mp hj
    refine r_getI cx hP g_v18 iX2 rfl (by decide) mF_X2_32 dX2_insert_1 ?_
    refine lv_istore_n (lv' := [(3, .int v18), (0, .ref a0), (1, .double a1)]) hx hb dX2_insert_4 rfl hl (by decide) rfl (fun ls hl => ?_)
    exact L_5 g M a0 a1 v18 H locs ls hj hP hS (lv_sub hl [1, 2, 0] rfl)
  exact hgo _ _ hP hS
set_option maxHeartbeats 4000000 in
set_option maxRecDepth 100000 in
theorem c_X2_isOfTwo (l : Launch) (X : hX) (g : Nat) (M : hm) (a0 : Int32) (RR : Int32) (hj : j_X2_isOfTwo g a0 = some RR) : Ct l X yX2_isOfTwo cX2_isOfTwo 1 (some .boolean) { frames := 0, cells := 0, slots := 0, locals := 0 } [.int a0] M (qI X (M, RR)) := by
  refine h_enter (own := RX2) (by decide) rfl (Nat.le_of_ble_eq_true rfl) ?_
  intro p e s m below meth c ls cx hr hlocks hnm hP hS hl
  have hx := cx.1
  have hb := cx.2.1
  have hl : lv_has ls 1 [(0, .int a0)] := hl
  unfold j_X2_isOfTwo at hj
  have hgo : ∀ (H : Heap) (locs : List Loc), hp X M H → va_S (hA X) s.heap H locs → W p l e ({ frames := 0, cells := 0, slots := 0, locals := 0 } : Room) s m _ below meth c H locs 0 0 (MQ below (qI X (M, RR)) _ s 0 0 (hA X)) (F0 m 0 ls []) := by
    have J_23 : ∀ (s0 : Int32) (H : Heap) (locs : List Loc) (ls : Array Slot), j_X2_isOfTwo_23 g s0 = some RR → hp X M H → va_S (hA X) s.heap H locs → lv_has ls 1 [] → W p l e ({ frames := 0, cells := 0, slots := 0, locals := 0 } : Room) s m _ below meth c H locs 0 0 (MQ below (qI X (M, RR)) _ s 0 0 (hA X)) (F0 m 23 ls [.int s0]) := by
      intro s0 H locs ls hj hP hS hl
      unfold j_X2_isOfTwo_23 at hj
      obtain ⟨z1, g_z1, hj⟩ := Option.bind_eq_some_iff.mp hj
      exact t_Z cx hr hlocks hP hS (zb_eq g_z1).1 (congrArg (Prod.mk M) (Option.some.inj hj)) (Nat.le_of_ble_eq_true rfl) (Nat.le_of_ble_eq_true rfl) dX2_isOfTwo_23
    have J_18 : ∀ (H : Heap) (locs : List Loc) (ls : Array Slot), j_X2_isOfTwo_18 g  = some RR → hp X M H → va_S (hA X) s.heap H locs → lv_has ls 1 [] → W p l e ({ frames := 0, cells := 0, slots := 0, locals := 0 } : Room) s m _ below meth c H locs 0 0 (MQ below (qI X (M, RR)) _ s 0 0 (hA X)) (F0 m 18 ls []) := by
      intro  H locs ls hj hP hS hl
      unfold j_X2_isOfTwo_18 at hj
      refine lv_iconst (v := 1) hx hb dX2_isOfTwo_18 (by decide) ?_
      refine lv_goto (tgt := 23) hx hb dX2_isOfTwo_19 (by decide) ?_
      exact J_23 (1 : Int32) H locs ls hj hP hS (lv_sub hl [] rfl)
    have J_12 : ∀ (p0 : Int32) (H : Heap) (locs : List Loc) (ls : Array Slot), j_X2_isOfTwo_12 g p0 = some RR → hp X M H → va_S (hA X) s.heap H locs → lv_has ls 1 [(0, .int p0)] → W p l e ({ frames := 0, cells := 0, slots := 0, locals := 0 } : Room) s m _ below meth c H locs 0 0 (MQ below (qI X (M, RR)) _ s 0 0 (hA X)) (F0 m 12 ls []) := by
      intro p0 H locs ls hj hP hS hl
      unfold j_X2_isOfTwo_12 at hj
      refine lv_iload_n hx hb dX2_isOfTwo_12 rfl (lv_at hl 0 rfl) ?_
      refine lv_bipush (v := 26) hx hb dX2_isOfTwo_13 (by decide) ?_
      refine lv_icmp_ne (tgt := 22) hx hb dX2_isOfTwo_15 (by decide) (fun c2 => ?_) (fun c2 => ?_)
      · have hj := if_f c2 hj
        refine lv_iconst (v := 0) hx hb dX2_isOfTwo_22 (by decide) ?_
        exact J_23 (0 : Int32) H locs ls hj hP hS (lv_sub hl [] rfl)
      · have hj := if_t c2 hj
        exact J_18  H locs ls hj hP hS (lv_sub hl [] rfl)
    intro H locs hP hS
    refine lv_iload_n hx hb dX2_isOfTwo_0 rfl (lv_at hl 0 rfl) ?_
    refine lv_bipush (v := 9) hx hb dX2_isOfTwo_1 (by decide) ?_
    refine lv_icmp_lt (tgt := 12) hx hb dX2_isOfTwo_3 (by decide) (fun c3 => ?_) (fun c3 => ?_)
    · have hj := if_t c3 hj
      exact J_12 a0 H locs ls hj hP hS (lv_sub hl [0] rfl)
    · have hj := if_f c3 hj
      refine lv_iload_n hx hb dX2_isOfTwo_6 rfl (lv_at hl 0 rfl) ?_
      refine lv_bipush (v := 16) hx hb dX2_isOfTwo_7 (by decide) ?_
      refine lv_icmp_le (tgt := 18) hx hb dX2_isOfTwo_9 (by decide) (fun c4 => ?_) (fun c4 => ?_)
      · have hj := if_t c4 hj
        exact J_18  H locs ls hj hP hS (lv_sub hl [] rfl)
      · have hj := if_f c4 hj
        exact J_12 a0 H locs ls hj hP hS (lv_sub hl [0] rfl)
  exact hgo _ _ hP hS
