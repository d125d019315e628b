set_option maxHeartbeats 4000000 in
set_option maxRecDepth 100000 in
theorem c_X5_constant (l : Launch) (X : hX) (g : Nat) (M : hm) (a0 : Nat) (a1 : Int32) (a2 : Int32) (a3 : Int32) (RR : hm × Int32) (hj : j_X5_constant g M a0 a1 a2 a3 = some RR) : Ct l X yX5_constant cX5_constant 4 (some .int) { frames := 4, cells := 3, slots := 26, locals := 76 } [.ref a0, .int a1, .int a2, .int a3] M (qI X RR) := by
  refine h_enter (own := RX5) (by decide) rfl (Nat.le_of_ble_eq_true rfl) ?_
  intro p e s m below meth c ls cx hr hlocks hnm hP hS hl
  have hx := cx.1
  have hb := cx.2.1
  have hl : lv_has ls 4 [(0, .ref a0), (1, .int a1), (2, .int a2), (3, .int a3)] := hl
  unfold j_X5_constant at hj
  have hgo : ∀ (H : Heap) (locs : List Loc), hp X M H → va_S (hA X) s.heap H locs → W p l e ({ frames := 4, cells := 3, slots := 26, locals := 76 } : Room) s m _ below meth c H locs 0 0 (MQ below (qI X RR) _ s 3 26 (hA X)) (F0 m 0 ls []) := by
    have J_21 : ∀ (M : hm) (H : Heap) (locs : List Loc) (ls : Array Slot), j_X5_constant_21 g M = some RR → hp X M H → va_S (hA X) s.heap H locs → lv_has ls 4 [] → W p l e ({ frames := 4, cells := 3, slots := 26, locals := 76 } : Room) s m _ below meth c H locs 0 0 (MQ below (qI X RR) _ s 3 26 (hA X)) (F0 m 21 ls []) := by
      intro M H locs ls hj hP hS hl
      unfold j_X5_constant_21 at hj
      refine lv_iconst (v := 0) hx hb dX5_constant_21 (by decide) ?_
      exact t_I cx hr hlocks hP hS (Option.some.inj hj) (Nat.le_of_ble_eq_true rfl) (Nat.le_of_ble_eq_true rfl) dX5_constant_22
    intro H locs hP hS
    refine lv_iload_n hx hb dX5_constant_0 rfl (lv_at hl 1 rfl) ?_
    obtain ⟨v1, g_v1, hj⟩ := Option.bind_eq_some_iff.mp hj
    refine f_I (k_S (As := [.int a1]) (n := 1) (rest := []) cx hl.1 hP hS (c_X5_isConstant l X g M a1 v1 g_v1) mC_X5_isConstant mM_X5_79 mT_X5_isConstant mZ_X5 (by decide +kernel) ⟨Nat.le_of_ble_eq_true rfl, Nat.le_of_ble_eq_true rfl⟩ rfl rfl (Nat.le_of_ble_eq_true rfl) dX5_constant_1 ⟨Nat.le_of_ble_eq_true rfl, Nat.le_of_ble_eq_true rfl⟩) hS (fun H locs hP hS => ?_)
    have hP : hp X M H := hP
    refine W.eq (g2 := F0 m 4 ls [.int v1]) rfl ?_
    refine W.widen (k := 0) (n := 0) (Nat.le_of_ble_eq_true rfl) (Nat.le_of_ble_eq_true rfl) ?_
    refine lv_if_eq (tgt := 21) hx hb dX5_constant_4 (by decide) (fun c2 => ?_) (fun c2 => ?_)
    · have hj := if_t c2 hj
      exact J_21 M H locs ls hj hP hS (lv_sub hl [] rfl)
    · have hj := if_f c2 hj
      refine lv_iload_n hx hb dX5_constant_7 rfl (lv_at hl 3 rfl) ?_
      obtain ⟨v3, g_v3, hj⟩ := Option.bind_eq_some_iff.mp hj
      refine f_I (k_S (As := [.int a3]) (n := 1) (rest := []) cx hl.1 hP hS (c_X5_isExponent l X g M a3 v3 g_v3) mC_X5_isExponent mM_X5_50 mT_X5_isExponent mZ_X5 (by decide +kernel) ⟨Nat.le_of_ble_eq_true rfl, Nat.le_of_ble_eq_true rfl⟩ rfl rfl (Nat.le_of_ble_eq_true rfl) dX5_constant_8 ⟨Nat.le_of_ble_eq_true rfl, Nat.le_of_ble_eq_true rfl⟩) hS (fun H locs hP hS => ?_)
      have hP : hp X M H := hP
      refine W.eq (g2 := F0 m 11 ls [.int v3]) rfl ?_
      refine W.widen (k := 0) (n := 0) (Nat.le_of_ble_eq_true rfl) (Nat.le_of_ble_eq_true rfl) ?_
      refine lv_if_eq (tgt := 21) hx hb dX5_constant_11 (by decide) (fun c4 => ?_) (fun c4 => ?_)
      · have hj := if_t c4 hj
        exact J_21 M H locs ls hj hP hS (lv_sub hl [] rfl)
      · have hj := if_f c4 hj
        refine lv_aload_n hx hb dX5_constant_14 rfl (lv_at hl 0 rfl) ?_
        obtain ⟨_, o5, hj⟩ := Option.bind_eq_some_iff.mp hj
        obtain ⟨v6, g_v6, hj⟩ := Option.bind_eq_some_iff.mp hj
        refine f_I (k_V (b := a0) (As := []) (n := 0) (rest := []) cx hl.1 hP hS (c_X5_isFull l X g M a0 v6 g_v6) o5 rfl mC_X5_isFull mM_X5_82 mI_X5_isFull mS_X5_isFull mZ_X5 (by decide +kernel) ⟨Nat.le_of_ble_eq_true rfl, Nat.le_of_ble_eq_true rfl⟩ rfl rfl (Nat.le_of_ble_eq_true rfl) dX5_constant_15 ⟨Nat.le_of_ble_eq_true rfl, Nat.le_of_ble_eq_true rfl⟩) hS (fun H locs hP hS => ?_)
        have hP : hp X M H := hP
        refine W.eq (g2 := F0 m 18 ls [.int v6]) rfl ?_
        refine W.widen (k := 0) (n := 0) (Nat.le_of_ble_eq_true rfl) (Nat.le_of_ble_eq_true rfl) ?_
        refine lv_if_eq (tgt := 23) hx hb dX5_constant_18 (by decide) (fun c7 => ?_) (fun c7 => ?_)
        · have hj := if_t c7 hj
          refine lv_aload_n hx hb dX5_constant_23 rfl (lv_at hl 0 rfl) ?_
          refine lv_bipush (v := 12) hx hb dX5_constant_24 (by decide) ?_
          obtain ⟨_, o8, hj⟩ := Option.bind_eq_some_iff.mp hj
          obtain ⟨⟨Mq9, vq9⟩, g_q9, hj⟩ := Option.bind_eq_some_iff.mp hj
          refine f_R (k_V (b := a0) (As := [.int (12 : Int32)]) (n := 1) (rest := []) cx hl.1 hP hS (c_X5_changed l X g M a0 (12 : Int32) (Mq9, vq9) g_q9) o8 rfl mC_X5_changed mM_X5_54 mI_X5_changed mS_X5_changed mZ_X5 (by decide +kernel) ⟨Nat.le_of_ble_eq_true rfl, Nat.le_of_ble_eq_true rfl⟩ rfl rfl (Nat.le_of_ble_eq_true rfl) dX5_constant_26 ⟨Nat.le_of_ble_eq_true rfl, Nat.le_of_ble_eq_true rfl⟩) hS (fun H locs hP hS => ?_)
          have hP : hp X Mq9 H := hP
          refine W.eq (g2 := F0 m 29 ls [va_rf vq9]) rfl ?_
          refine W.widen (k := 3) (n := 26) (Nat.le_of_ble_eq_true rfl) (Nat.le_of_ble_eq_true rfl) ?_
          refine lv_iload_n hx hb dX5_constant_29 rfl (lv_at hl 1 rfl) ?_
          refine lv_aload_n hx hb dX5_constant_30 rfl (lv_at hl 0 rfl) ?_
          obtain ⟨v10, g_v10, hj⟩ := Option.bind_eq_some_iff.mp hj
          refine r_getR cx hP g_v10 iX5 rfl (by decide) mF_X5_25 dX5_constant_31 ?_
          obtain ⟨b11, e_b11, hj⟩ := Option.bind_eq_some_iff.mp hj
          subst e_b11
          obtain ⟨v12, g_v12, hj⟩ := Option.bind_eq_some_iff.mp hj
          refine r_getR cx hP g_v12 iX2 rfl (by decide) mF_X5_58 dX5_constant_34 ?_
          refine lv_iload_n hx hb dX5_constant_37 rfl (lv_at hl 2 rfl) ?_
          refine lv_i2d hx hb dX5_constant_38 ?_
          refine lv_iload_n hx hb dX5_constant_39 rfl (lv_at hl 3 rfl) ?_
          obtain ⟨b13, e_b13, hj⟩ := Option.bind_eq_some_iff.mp hj
          subst e_b13
          obtain ⟨_, o14, hj⟩ := Option.bind_eq_some_iff.mp hj
          obtain ⟨v15, g_v15, hj⟩ := Option.bind_eq_some_iff.mp hj
          refine f_D (k_V (b := b13) (As := [.double (FP.i2d a2), .int a3]) (n := 2) (rest := [.int a1, va_rf vq9]) cx hl.1 hP hS (c_X4_times l X g Mq9 b13 (FP.i2d a2) a3 v15 g_v15) o14 rfl mC_X4_times mM_X5_62 mI_X4_times mS_X4_times mZ_X4 (by decide +kernel) ⟨Nat.le_of_ble_eq_true rfl, Nat.le_of_ble_eq_true rfl⟩ rfl rfl (by simp [cat_rf, Value.category]) dX5_constant_40 ⟨Nat.le_of_ble_eq_true rfl, Nat.le_of_ble_eq_true rfl⟩) hS (fun H locs hP hS => ?_)
          have hP : hp X Mq9 H := hP
          refine W.eq (g2 := F0 m 43 ls [.double v15, .int a1, va_rf vq9]) rfl ?_
          refine W.widen (k := 3) (n := 26) (Nat.le_of_ble_eq_true rfl) (Nat.le_of_ble_eq_true rfl) ?_
          obtain ⟨b16, e_b16, hj⟩ := Option.bind_eq_some_iff.mp hj
          subst e_b16
          obtain ⟨_, o17, hj⟩ := Option.bind_eq_some_iff.mp hj
          obtain ⟨M18, g_M18, hj⟩ := Option.bind_eq_some_iff.mp hj
          refine f_V (k_V (b := b16) (As := [.int a1, .double v15]) (n := 2) (rest := []) cx hl.1 hP hS (c_X3_put l X g Mq9 b16 a1 v15 M18 g_M18) o17 rfl mC_X3_put mM_X5_68 mI_X3_put mS_X3_put mZ_X3 (by decide +kernel) ⟨Nat.le_of_ble_eq_true rfl, Nat.le_of_ble_eq_true rfl⟩ rfl rfl (Nat.le_of_ble_eq_true rfl) dX5_constant_43 ⟨Nat.le_of_ble_eq_true rfl, Nat.le_of_ble_eq_true rfl⟩) hS (fun H locs hP hS => ?_)
          have hP : hp X M18 H := hP
          refine W.eq (g2 := F0 m 46 ls []) rfl ?_
          refine W.widen (k := 3) (n := 26) (Nat.le_of_ble_eq_true rfl) (Nat.le_of_ble_eq_true rfl) ?_
          refine lv_iconst (v := 1) hx hb dX5_constant_46 (by decide) ?_
          exact t_I cx hr hlocks hP hS (Option.some.inj hj) (Nat.le_of_ble_eq_true rfl) (Nat.le_of_ble_eq_true rfl) dX5_constant_47
        · have hj := if_f c7 hj
          exact J_21 M H locs ls hj hP hS (lv_sub hl [] rfl)
  exact hgo _ _ hP hS
set_option maxHeartbeats 4000000 in
set_option maxRecDepth 100000 in
theorem c_X5_isSpecial (l : Launch) (X : hX) (g : Nat) (M : hm) (a0 : Int32) (RR : Int32) (hj : j_X5_isSpecial g a0 = some RR) : Ct l X yX5_isSpecial cX5_isSpecial 1 (some .boolean) { frames := 0, cells := 0, slots := 0, locals := 0 } [.int a0] M (qI X (M, RR)) := by
  refine h_enter (own := RX5) (by decide) rfl (Nat.le_of_ble_eq_true rfl) ?_
  intro p e s m below meth c ls cx hr hlocks hnm hP hS hl
  have hx := cx.1
  have hb := cx.2.1
  have hl : lv_has ls 1 [(0, .int a0)] := hl
  unfold j_X5_isSpecial at hj
  have hgo : ∀ (H : Heap) (locs : List Loc), hp X M H → va_S (hA X) s.heap H locs → W p l e ({ frames := 0, cells := 0, slots := 0, locals := 0 } : Room) s m _ below meth c H locs 0 0 (MQ below (qI X (M, RR)) _ s 0 0 (hA X)) (F0 m 0 ls []) := by
    have J_14 : ∀ (s0 : Int32) (H : Heap) (locs : List Loc) (ls : Array Slot), j_X5_isSpecial_14 g s0 = some RR → hp X M H → va_S (hA X) s.heap H locs → lv_has ls 1 [] → W p l e ({ frames := 0, cells := 0, slots := 0, locals := 0 } : Room) s m _ below meth c H locs 0 0 (MQ below (qI X (M, RR)) _ s 0 0 (hA X)) (F0 m 14 ls [.int s0]) := by
      intro s0 H locs ls hj hP hS hl
      unfold j_X5_isSpecial_14 at hj
      obtain ⟨z1, g_z1, hj⟩ := Option.bind_eq_some_iff.mp hj
      exact t_Z cx hr hlocks hP hS (zb_eq g_z1).1 (congrArg (Prod.mk M) (Option.some.inj hj)) (Nat.le_of_ble_eq_true rfl) (Nat.le_of_ble_eq_true rfl) dX5_isSpecial_14
    have J_13 : ∀ (H : Heap) (locs : List Loc) (ls : Array Slot), j_X5_isSpecial_13 g  = some RR → hp X M H → va_S (hA X) s.heap H locs → lv_has ls 1 [] → W p l e ({ frames := 0, cells := 0, slots := 0, locals := 0 } : Room) s m _ below meth c H locs 0 0 (MQ below (qI X (M, RR)) _ s 0 0 (hA X)) (F0 m 13 ls []) := by
      intro  H locs ls hj hP hS hl
      unfold j_X5_isSpecial_13 at hj
      refine lv_iconst (v := 0) hx hb dX5_isSpecial_13 (by decide) ?_
      exact J_14 (0 : Int32) H locs ls hj hP hS (lv_sub hl [] rfl)
    intro H locs hP hS
    refine lv_iload_n hx hb dX5_isSpecial_0 rfl (lv_at hl 0 rfl) ?_
    refine lv_if_lt (tgt := 13) hx hb dX5_isSpecial_1 (by decide) (fun c2 => ?_) (fun c2 => ?_)
    · have hj := if_t c2 hj
      exact J_13  H locs ls hj hP hS (lv_sub hl [] rfl)
    · have hj := if_f c2 hj
      refine lv_iload_n hx hb dX5_isSpecial_4 rfl (lv_at hl 0 rfl) ?_
      refine lv_iconst (v := 5) hx hb dX5_isSpecial_5 (by decide) ?_
      refine lv_icmp_gt (tgt := 13) hx hb dX5_isSpecial_6 (by decide) (fun c3 => ?_) (fun c3 => ?_)
      · have hj := if_t c3 hj
        exact J_13  H locs ls hj hP hS (lv_sub hl [] rfl)
      · have hj := if_f c3 hj
        refine lv_iconst (v := 1) hx hb dX5_isSpecial_9 (by decide) ?_
        refine lv_goto (tgt := 14) hx hb dX5_isSpecial_10 (by decide) ?_
        exact J_14 (1 : Int32) H locs ls hj hP hS (lv_sub hl [] rfl)
  exact hgo _ _ hP hS
set_option maxHeartbeats 4000000 in
set_option maxRecDepth 100000 in
theorem c_X5_putSpecial (l : Launch) (X : hX) (g : Nat) (M : hm) (a0 : Option Nat) (a1 : Int32) (a2 : Int32) (RR : hm) (hj : j_X5_putSpecial g M a0 a1 a2 = some RR) : Ct l X yX5_putSpecial cX5_putSpecial 5 none { frames := 1, cells := 0, slots := 0, locals := 23 } [va_rf a0, .int a1, .int a2] M (qV X RR) := by
  refine h_enter (own := RX5) (by decide) rfl (Nat.le_of_ble_eq_true rfl) ?_
  intro p e s m below meth c ls cx hr hlocks hnm hP hS hl
  have hx := cx.1
  have hb := cx.2.1
  have hl : lv_has ls 5 [(0, va_rf a0), (1, .int a1), (2, .int a2)] := hl
  unfold j_X5_putSpecial at hj
  have hgo : ∀ (H : Heap) (locs : List Loc), hp X M H → va_S (hA X) s.heap H locs → W p l e ({ frames := 1, cells := 0, slots := 0, locals := 23 } : Room) s m _ below meth c H locs 0 0 (MQ below (qV X RR) _ s 0 0 (hA X)) (F0 m 0 ls []) := by
    have J_123 : ∀ (M : hm) (H : Heap) (locs : List Loc) (ls : Array Slot), j_X5_putSpecial_123 g M = some RR → hp X M H → va_S (hA X) s.heap H locs → lv_has ls 5 [] → W p l e ({ frames := 1, cells := 0, slots := 0, locals := 23 } : Room) s m _ below meth c H locs 0 0 (MQ below (qV X RR) _ s 0 0 (hA X)) (F0 m 123 ls []) := by
      intro M H locs ls hj hP hS hl
      unfold j_X5_putSpecial_123 at hj
      exact t_V cx hr hlocks hP hS (Option.some.inj hj) (Nat.le_of_ble_eq_true rfl) (Nat.le_of_ble_eq_true rfl) dX5_putSpecial_123
    have J_112 : ∀ (M : hm) (s0 : UInt64) (s1 : Int32) (s2 : Option Nat) (H : Heap) (locs : List Loc) (ls : Array Slot), j_X5_putSpecial_112 g M s0 s1 s2 = some RR → hp X M H → va_S (hA X) s.heap H locs → lv_has ls 5 [] → W p l e ({ frames := 1, cells := 0, slots := 0, locals := 23 } : Room) s m _ below meth c H locs 0 0 (MQ below (qV X RR) _ s 0 0 (hA X)) (F0 m 112 ls [.double s0, .int s1, va_rf s2]) := by
      intro M s0 s1 s2 H locs ls hj hP hS hl
      unfold j_X5_putSpecial_112 at hj
      obtain ⟨b1, e_b1, hj⟩ := Option.bind_eq_some_iff.mp hj
      subst e_b1
      obtain ⟨_, o2, hj⟩ := Option.bind_eq_some_iff.mp hj
      obtain ⟨M3, g_M3, hj⟩ := Option.bind_eq_some_iff.mp hj
      refine f_V (k_V (b := b1) (As := [.int s1, .double s0]) (n := 2) (rest := []) cx hl.1 hP hS (c_X3_put l X g M b1 s1 s0 M3 g_M3) o2 rfl mC_X3_put mM_X5_68 mI_X3_put mS_X3_put mZ_X3 (by decide +kernel) ⟨Nat.le_of_ble_eq_true rfl, Nat.le_of_ble_eq_true rfl⟩ rfl rfl (Nat.le_of_ble_eq_true rfl) dX5_putSpecial_112 ⟨Nat.le_of_ble_eq_true rfl, Nat.le_of_ble_eq_true rfl⟩) hS (fun H locs hP hS => ?_)
      have hP : hp X M3 H := hP
      refine W.eq (g2 := F0 m 115 ls []) rfl ?_
      refine W.widen (k := 0) (n := 0) (Nat.le_of_ble_eq_true rfl) (Nat.le_of_ble_eq_true rfl) ?_
      refine lv_goto (tgt := 123) hx hb dX5_putSpecial_115 (by decide) ?_
      exact J_123 M3 H locs ls hj hP hS (lv_sub hl [] rfl)
    have J_88 : ∀ (M : hm) (s0 : UInt64) (s1 : Int32) (s2 : Option Nat) (H : Heap) (locs : List Loc) (ls : Array Slot), j_X5_putSpecial_88 g M s0 s1 s2 = some RR → hp X M H → va_S (hA X) s.heap H locs → lv_has ls 5 [] → W p l e ({ frames := 1, cells := 0, slots := 0, locals := 23 } : Room) s m _ below meth c H locs 0 0 (MQ below (qV X RR) _ s 0 0 (hA X)) (F0 m 88 ls [.double s0, .int s1, va_rf s2]) := by
      intro M s0 s1 s2 H locs ls hj hP hS hl
      unfold j_X5_putSpecial_88 at hj
      obtain ⟨b4, e_b4, hj⟩ := Option.bind_eq_some_iff.mp hj
      subst e_b4
      obtain ⟨_, o5, hj⟩ := Option.bind_eq_some_iff.mp hj
      obtain ⟨M6, g_M6, hj⟩ := Option.bind_eq_some_iff.mp hj
      refine f_V (k_V (b := b4) (As := [.int s1, .double s0]) (n := 2) (rest := []) cx hl.1 hP hS (c_X3_put l X g M b4 s1 s0 M6 g_M6) o5 rfl mC_X3_put mM_X5_68 mI_X3_put mS_X3_put mZ_X3 (by decide +kernel) ⟨Nat.le_of_ble_eq_true rfl, Nat.le_of_ble_eq_true rfl⟩ rfl rfl (Nat.le_of_ble_eq_true rfl) dX5_putSpecial_88 ⟨Nat.le_of_ble_eq_true rfl, Nat.le_of_ble_eq_true rfl⟩) hS (fun H locs hP hS => ?_)
      have hP : hp X M6 H := hP
      refine W.eq (g2 := F0 m 91 ls []) rfl ?_
      refine W.widen (k := 0) (n := 0) (Nat.le_of_ble_eq_true rfl) (Nat.le_of_ble_eq_true rfl) ?_
      refine lv_goto (tgt := 123) hx hb dX5_putSpecial_91 (by decide) ?_
      exact J_123 M6 H locs ls hj hP hS (lv_sub hl [] rfl)
    intro H locs hP hS
    refine lv_ldc2d hx hb cx.2.2.2.1 (cx.2.2.2.2.1 _ mK_X5_192) dX5_putSpecial_0 ?_
    refine lv_dstore_n (lv' := [(3, .double (9218868437227405312 : UInt64)), (0, va_rf a0), (1, .int a1), (2, .int a2)]) hx hb dX5_putSpecial_3 rfl hl (by decide) rfl (fun ls hl => ?_)
    refine lv_iload_n hx hb dX5_putSpecial_4 rfl (lv_at hl 3 rfl) ?_
    by_cases c7 : a2 = (1 : Int32)
    · have hj := if_t c7 hj
      refine lv_tableIn (off := 35) (tgt := 40) hx hb dX5_putSpecial_5 (by rw [c7]; decide) (by rw [c7]; decide) (by rw [c7]; decide) (by decide) ?_
      refine h_aload_n hx hb dX5_putSpecial_40 rfl (lv_at hl 1 rfl) ?_
      refine lv_iload_n hx hb dX5_putSpecial_41 rfl (lv_at hl 2 rfl) ?_
      refine lv_dload_n hx hb dX5_putSpecial_42 rfl (lv_at hl 0 rfl) ?_
      obtain ⟨b12, e_b12, hj⟩ := Option.bind_eq_some_iff.mp hj
      subst e_b12
      obtain ⟨_, o13, hj⟩ := Option.bind_eq_some_iff.mp hj
      obtain ⟨M14, g_M14, hj⟩ := Option.bind_eq_some_iff.mp hj
      refine f_V (k_V (b := b12) (As := [.int a1, .double (9218868437227405312 : UInt64)]) (n := 2) (rest := []) cx hl.1 hP hS (c_X3_put l X g M b12 a1 (9218868437227405312 : UInt64) M14 g_M14) o13 rfl mC_X3_put mM_X5_68 mI_X3_put mS_X3_put mZ_X3 (by decide +kernel) ⟨Nat.le_of_ble_eq_true rfl, Nat.le_of_ble_eq_true rfl⟩ rfl rfl (Nat.le_of_ble_eq_true rfl) dX5_putSpecial_43 ⟨Nat.le_of_ble_eq_true rfl, Nat.le_of_ble_eq_true rfl⟩) hS (fun H locs hP hS => ?_)
      have hP : hp X M14 H := hP
      refine W.eq (g2 := F0 m 46 ls []) rfl ?_
      refine W.widen (k := 0) (n := 0) (Nat.le_of_ble_eq_true rfl) (Nat.le_of_ble_eq_true rfl) ?_
      refine lv_goto (tgt := 123) hx hb dX5_putSpecial_46 (by decide) ?_
      exact J_123 M14 H locs ls hj hP hS (lv_sub hl [] rfl)
    have hj := if_f c7 hj
    by_cases c8 : a2 = (2 : Int32)
    · have hj := if_t c8 hj
      refine lv_tableIn (off := 44) (tgt := 49) hx hb dX5_putSpecial_5 (by rw [c8]; decide) (by rw [c8]; decide) (by rw [c8]; decide) (by decide) ?_
      refine h_aload_n hx hb dX5_putSpecial_49 rfl (lv_at hl 1 rfl) ?_
      refine lv_iload_n hx hb dX5_putSpecial_50 rfl (lv_at hl 2 rfl) ?_
      refine lv_dload_n hx hb dX5_putSpecial_51 rfl (lv_at hl 0 rfl) ?_
      refine lv_dneg hx hb dX5_putSpecial_52 ?_
      obtain ⟨b15, e_b15, hj⟩ := Option.bind_eq_some_iff.mp hj
      subst e_b15
      obtain ⟨_, o16, hj⟩ := Option.bind_eq_some_iff.mp hj
      obtain ⟨M17, g_M17, hj⟩ := Option.bind_eq_some_iff.mp hj
      refine f_V (k_V (b := b15) (As := [.int a1, .double (FP.dneg (9218868437227405312 : UInt64))]) (n := 2) (rest := []) cx hl.1 hP hS (c_X3_put l X g M b15 a1 (FP.dneg (9218868437227405312 : UInt64)) M17 g_M17) o16 rfl mC_X3_put mM_X5_68 mI_X3_put mS_X3_put mZ_X3 (by decide +kernel) ⟨Nat.le_of_ble_eq_true rfl, Nat.le_of_ble_eq_true rfl⟩ rfl rfl (Nat.le_of_ble_eq_true rfl) dX5_putSpecial_53 ⟨Nat.le_of_ble_eq_true rfl, Nat.le_of_ble_eq_true rfl⟩) hS (fun H locs hP hS => ?_)
      have hP : hp X M17 H := hP
      refine W.eq (g2 := F0 m 56 ls []) rfl ?_
      refine W.widen (k := 0) (n := 0) (Nat.le_of_ble_eq_true rfl) (Nat.le_of_ble_eq_true rfl) ?_
      refine lv_goto (tgt := 123) hx hb dX5_putSpecial_56 (by decide) ?_
      exact J_123 M17 H locs ls hj hP hS (lv_sub hl [] rfl)
    have hj := if_f c8 hj
    by_cases c9 : a2 = (3 : Int32)
    · have hj := if_t c9 hj
      refine lv_tableIn (off := 54) (tgt := 59) hx hb dX5_putSpecial_5 (by rw [c9]; decide) (by rw [c9]; decide) (by rw [c9]; decide) (by decide) ?_
      refine h_aload_n hx hb dX5_putSpecial_59 rfl (lv_at hl 1 rfl) ?_
      refine lv_iload_n hx hb dX5_putSpecial_60 rfl (lv_at hl 2 rfl) ?_
      refine lv_ldc2d hx hb cx.2.2.2.1 (cx.2.2.2.2.1 _ mK_X5_194) dX5_putSpecial_61 ?_
      obtain ⟨b18, e_b18, hj⟩ := Option.bind_eq_some_iff.mp hj
      subst e_b18
      obtain ⟨_, o19, hj⟩ := Option.bind_eq_some_iff.mp hj
      obtain ⟨M20, g_M20, hj⟩ := Option.bind_eq_some_iff.mp hj
      refine f_V (k_V (b := b18) (As := [.int a1, .double (9223372036854775808 : UInt64)]) (n := 2) (rest := []) cx hl.1 hP hS (c_X3_put l X g M b18 a1 (9223372036854775808 : UInt64) M20 g_M20) o19 rfl mC_X3_put mM_X5_68 mI_X3_put mS_X3_put mZ_X3 (by decide +kernel) ⟨Nat.le_of_ble_eq_true rfl, Nat.le_of_ble_eq_true rfl⟩ rfl rfl (Nat.le_of_ble_eq_true rfl) dX5_putSpecial_64 ⟨Nat.le_of_ble_eq_true rfl, Nat.le_of_ble_eq_true rfl⟩) hS (fun H locs hP hS => ?_)
      have hP : hp X M20 H := hP
      refine W.eq (g2 := F0 m 67 ls []) rfl ?_
      refine W.widen (k := 0) (n := 0) (Nat.le_of_ble_eq_true rfl) (Nat.le_of_ble_eq_true rfl) ?_
      refine lv_goto (tgt := 123) hx hb dX5_putSpecial_67 (by decide) ?_
      exact J_123 M20 H locs ls hj hP hS (lv_sub hl [] rfl)
    have hj := if_f c9 hj
    by_cases c10 : a2 = (4 : Int32)
    · have hj := if_t c10 hj
      refine lv_tableIn (off := 65) (tgt := 70) hx hb dX5_putSpecial_5 (by rw [c10]; decide) (by rw [c10]; decide) (by rw [c10]; decide) (by decide) ?_
      refine h_aload_n hx hb dX5_putSpecial_70 rfl (lv_at hl 1 rfl) ?_
      refine lv_iload_n hx hb dX5_putSpecial_71 rfl (lv_at hl 2 rfl) ?_
      refine h_aload_n hx hb dX5_putSpecial_72 rfl (lv_at hl 1 rfl) ?_
      obtain ⟨b21, e_b21, hj⟩ := Option.bind_eq_some_iff.mp hj
      subst e_b21
      obtain ⟨v22, g_v22, hj⟩ := Option.bind_eq_some_iff.mp hj
      refine r_getI cx hP g_v22 iX3 rfl (by decide) mF_X5_110 dX5_putSpecial_73 ?_
      refine lv_if_eq (tgt := 85) hx hb dX5_putSpecial_76 (by decide) (fun c23 => ?_) (fun c23 => ?_)
      · have hj := if_t c23 hj
        refine lv_ldc2d hx hb cx.2.2.2.1 (cx.2.2.2.2.1 _ mK_X5_198) dX5_putSpecial_85 ?_
        exact J_88 M (9218868437227405311 : UInt64) a1 (some b21) H locs ls hj hP hS (lv_sub hl [] rfl)
      · have hj := if_f c23 hj
        refine lv_ldc2d hx hb cx.2.2.2.1 (cx.2.2.2.2.1 _ mK_X5_196) dX5_putSpecial_79 ?_
        refine lv_goto (tgt := 88) hx hb dX5_putSpecial_82 (by decide) ?_
        exact J_88 M (5183643170566569984 : UInt64) a1 (some b21) H locs ls hj hP hS (lv_sub hl [] rfl)
    have hj := if_f c10 hj
    by_cases c11 : a2 = (5 : Int32)
    · have hj := if_t c11 hj
      refine lv_tableIn (off := 89) (tgt := 94) hx hb dX5_putSpecial_5 (by rw [c11]; decide) (by rw [c11]; decide) (by rw [c11]; decide) (by decide) ?_
      refine h_aload_n hx hb dX5_putSpecial_94 rfl (lv_at hl 1 rfl) ?_
      refine lv_iload_n hx hb dX5_putSpecial_95 rfl (lv_at hl 2 rfl) ?_
      refine h_aload_n hx hb dX5_putSpecial_96 rfl (lv_at hl 1 rfl) ?_
      obtain ⟨b24, e_b24, hj⟩ := Option.bind_eq_some_iff.mp hj
      subst e_b24
      obtain ⟨v25, g_v25, hj⟩ := Option.bind_eq_some_iff.mp hj
      refine r_getI cx hP g_v25 iX3 rfl (by decide) mF_X5_110 dX5_putSpecial_97 ?_
      refine lv_if_eq (tgt := 109) hx hb dX5_putSpecial_100 (by decide) (fun c26 => ?_) (fun c26 => ?_)
      · have hj := if_t c26 hj
        refine lv_ldc2d hx hb cx.2.2.2.1 (cx.2.2.2.2.1 _ mK_X5_202) dX5_putSpecial_109 ?_
        exact J_112 M (1 : UInt64) a1 (some b24) H locs ls hj hP hS (lv_sub hl [] rfl)
      · have hj := if_f c26 hj
        refine lv_ldc2d hx hb cx.2.2.2.1 (cx.2.2.2.2.1 _ mK_X5_200) dX5_putSpecial_103 ?_
        refine lv_goto (tgt := 112) hx hb dX5_putSpecial_106 (by decide) ?_
        exact J_112 M (3936146074321813504 : UInt64) a1 (some b24) H locs ls hj hP hS (lv_sub hl [] rfl)
    have hj := if_f c11 hj
    have sw : a2.toInt < 1 ∨ 5 < a2.toInt := by
      rcases Int.lt_or_ge a2.toInt 1 with q | q
      · exact Or.inl q
      have q := sw_step q (sw_ne c7 (by decide))
      have q := sw_step q (sw_ne c8 (by decide))
      have q := sw_step q (sw_ne c9 (by decide))
      have q := sw_step q (sw_ne c10 (by decide))
      have q := sw_step q (sw_ne c11 (by decide))
      exact Or.inr (by omega)
    refine lv_tableOut (tgt := 118) hx hb dX5_putSpecial_5 sw (by decide) ?_
    refine h_aload_n hx hb dX5_putSpecial_118 rfl (lv_at hl 1 rfl) ?_
    refine lv_iload_n hx hb dX5_putSpecial_119 rfl (lv_at hl 2 rfl) ?_
    obtain ⟨b27, e_b27, hj⟩ := Option.bind_eq_some_iff.mp hj
    subst e_b27
    obtain ⟨_, o28, hj⟩ := Option.bind_eq_some_iff.mp hj
    obtain ⟨M29, g_M29, hj⟩ := Option.bind_eq_some_iff.mp hj
    refine f_V (k_V (b := b27) (As := [.int a1]) (n := 1) (rest := []) cx hl.1 hP hS (c_X3_clear l X g M b27 a1 M29 g_M29) o28 rfl mC_X3_clear mM_X5_204 mI_X3_clear mS_X3_clear mZ_X3 (by decide +kernel) ⟨Nat.le_of_ble_eq_true rfl, Nat.le_of_ble_eq_true rfl⟩ rfl rfl (Nat.le_of_ble_eq_true rfl) dX5_putSpecial_120 ⟨Nat.le_of_ble_eq_true rfl, Nat.le_of_ble_eq_true rfl⟩) hS (fun H locs hP hS => ?_)
    have hP : hp X M29 H := hP
    refine W.eq (g2 := F0 m 123 ls []) rfl ?_
    refine W.widen (k := 0) (n := 0) (Nat.le_of_ble_eq_true rfl) (Nat.le_of_ble_eq_true rfl) ?_
    exact J_123 M29 H locs ls hj hP hS (lv_sub hl [] rfl)
  exact hgo _ _ hP hS
set_option maxHeartbeats 4000000 in
set_option maxRecDepth 100000 in
theorem c_X5_constantSpecial (l : Launch) (X : hX) (g : Nat) (M : hm) (a0 : Nat) (a1 : Int32) (a2 : Int32) (RR : hm × Int32) (hj : j_X5_constantSpecial g M a0 a1 a2 = some RR) : Ct l X yX5_constantSpecial cX5_constantSpecial 3 (some .int) { frames := 4, cells := 3, slots := 26, locals := 76 } [.ref a0, .int a1, .int a2] M (qI X RR) := by
  refine h_enter (own := RX5) (by decide) rfl (Nat.le_of_ble_eq_true rfl) ?_
  intro p e s m below meth c ls cx hr hlocks hnm hP hS hl
  have hx := cx.1
  have hb := cx.2.1
  have hl : lv_has ls 3 [(0, .ref a0), (1, .int a1), (2, .int a2)] := hl
  unfold j_X5_constantSpecial at hj
  have hgo : ∀ (H : Heap) (locs : List Loc), hp X M H → va_S (hA X) s.heap H locs → W p l e ({ frames := 4, cells := 3, slots := 26, locals := 76 } : Room) s m _ below meth c H locs 0 0 (MQ below (qI X RR) _ s 3 26 (hA X)) (F0 m 0 ls []) := by
    have J_21 : ∀ (M : hm) (H : Heap) (locs : List Loc) (ls : Array Slot), j_X5_constantSpecial_21 g M = some RR → hp X M H → va_S (hA X) s.heap H locs → lv_has ls 3 [] → W p l e ({ frames := 4, cells := 3, slots := 26, locals := 76 } : Room) s m _ below meth c H locs 0 0 (MQ below (qI X RR) _ s 3 26 (hA X)) (F0 m 21 ls []) := by
      intro M H locs ls hj hP hS hl
      unfold j_X5_constantSpecial_21 at hj
      refine lv_iconst (v := 0) hx hb dX5_constantSpecial_21 (by decide) ?_
      exact t_I cx hr hlocks hP hS (Option.some.inj hj) (Nat.le_of_ble_eq_true rfl) (Nat.le_of_ble_eq_true rfl) dX5_constantSpecial_22
    intro H locs hP hS
    refine lv_iload_n hx hb dX5_constantSpecial_0 rfl (lv_at hl 1 rfl) ?_
    obtain ⟨v1, g_v1, hj⟩ := Option.bind_eq_some_iff.mp hj
    refine f_I (k_S (As := [.int a1]) (n := 1) (rest := []) cx hl.1 hP hS (c_X5_isConstant l X g M a1 v1 g_v1) mC_X5_isConstant mM_X5_79 mT_X5_isConstant mZ_X5 (by decide +kernel) ⟨Nat.le_of_ble_eq_true rfl, Nat.le_of_ble_eq_true rfl⟩ rfl rfl (Nat.le_of_ble_eq_true rfl) dX5_constantSpecial_1 ⟨Nat.le_of_ble_eq_true rfl, Nat.le_of_ble_eq_true rfl⟩) hS (fun H locs hP hS => ?_)
    have hP : hp X M H := hP
    refine W.eq (g2 := F0 m 4 ls [.int v1]) rfl ?_
    refine W.widen (k := 0) (n := 0) (Nat.le_of_ble_eq_true rfl) (Nat.le_of_ble_eq_true rfl) ?_
    refine lv_if_eq (tgt := 21) hx hb dX5_constantSpecial_4 (by decide) (fun c2 => ?_) (fun c2 => ?_)
    · have hj := if_t c2 hj
      exact J_21 M H locs ls hj hP hS (lv_sub hl [] rfl)
    · have hj := if_f c2 hj
      refine lv_iload_n hx hb dX5_constantSpecial_7 rfl (lv_at hl 2 rfl) ?_
      obtain ⟨v3, g_v3, hj⟩ := Option.bind_eq_some_iff.mp hj
      refine f_I (k_S (As := [.int a2]) (n := 1) (rest := []) cx hl.1 hP hS (c_X5_isSpecial l X g M a2 v3 g_v3) mC_X5_isSpecial mM_X5_72 mT_X5_isSpecial mZ_X5 (by decide +kernel) ⟨Nat.le_of_ble_eq_true rfl, Nat.le_of_ble_eq_true rfl⟩ rfl rfl (Nat.le_of_ble_eq_true rfl) dX5_constantSpecial_8 ⟨Nat.le_of_ble_eq_true rfl, Nat.le_of_ble_eq_true rfl⟩) hS (fun H locs hP hS => ?_)
      have hP : hp X M H := hP
      refine W.eq (g2 := F0 m 11 ls [.int v3]) rfl ?_
      refine W.widen (k := 0) (n := 0) (Nat.le_of_ble_eq_true rfl) (Nat.le_of_ble_eq_true rfl) ?_
      refine lv_if_eq (tgt := 21) hx hb dX5_constantSpecial_11 (by decide) (fun c4 => ?_) (fun c4 => ?_)
      · have hj := if_t c4 hj
        exact J_21 M H locs ls hj hP hS (lv_sub hl [] rfl)
      · have hj := if_f c4 hj
        refine lv_aload_n hx hb dX5_constantSpecial_14 rfl (lv_at hl 0 rfl) ?_
        obtain ⟨_, o5, hj⟩ := Option.bind_eq_some_iff.mp hj
        obtain ⟨v6, g_v6, hj⟩ := Option.bind_eq_some_iff.mp hj
        refine f_I (k_V (b := a0) (As := []) (n := 0) (rest := []) cx hl.1 hP hS (c_X5_isFull l X g M a0 v6 g_v6) o5 rfl mC_X5_isFull mM_X5_82 mI_X5_isFull mS_X5_isFull mZ_X5 (by decide +kernel) ⟨Nat.le_of_ble_eq_true rfl, Nat.le_of_ble_eq_true rfl⟩ rfl rfl (Nat.le_of_ble_eq_true rfl) dX5_constantSpecial_15 ⟨Nat.le_of_ble_eq_true rfl, Nat.le_of_ble_eq_true rfl⟩) hS (fun H locs hP hS => ?_)
        have hP : hp X M H := hP
        refine W.eq (g2 := F0 m 18 ls [.int v6]) rfl ?_
        refine W.widen (k := 0) (n := 0) (Nat.le_of_ble_eq_true rfl) (Nat.le_of_ble_eq_true rfl) ?_
        refine lv_if_eq (tgt := 23) hx hb dX5_constantSpecial_18 (by decide) (fun c7 => ?_) (fun c7 => ?_)
        · have hj := if_t c7 hj
          refine lv_aload_n hx hb dX5_constantSpecial_23 rfl (lv_at hl 0 rfl) ?_
          refine lv_bipush (v := 12) hx hb dX5_constantSpecial_24 (by decide) ?_
          obtain ⟨_, o8, hj⟩ := Option.bind_eq_some_iff.mp hj
          obtain ⟨⟨Mq9, vq9⟩, g_q9, hj⟩ := Option.bind_eq_some_iff.mp hj
          refine f_R (k_V (b := a0) (As := [.int (12 : Int32)]) (n := 1) (rest := []) cx hl.1 hP hS (c_X5_changed l X g M a0 (12 : Int32) (Mq9, vq9) g_q9) o8 rfl mC_X5_changed mM_X5_54 mI_X5_changed mS_X5_changed mZ_X5 (by decide +kernel) ⟨Nat.le_of_ble_eq_true rfl, Nat.le_of_ble_eq_true rfl⟩ rfl rfl (Nat.le_of_ble_eq_true rfl) dX5_constantSpecial_26 ⟨Nat.le_of_ble_eq_true rfl, Nat.le_of_ble_eq_true rfl⟩) hS (fun H locs hP hS => ?_)
          have hP : hp X Mq9 H := hP
          refine W.eq (g2 := F0 m 29 ls [va_rf vq9]) rfl ?_
          refine W.widen (k := 3) (n := 26) (Nat.le_of_ble_eq_true rfl) (Nat.le_of_ble_eq_true rfl) ?_
          refine lv_iload_n hx hb dX5_constantSpecial_29 rfl (lv_at hl 1 rfl) ?_
          refine lv_iload_n hx hb dX5_constantSpecial_30 rfl (lv_at hl 2 rfl) ?_
          obtain ⟨M10, g_M10, hj⟩ := Option.bind_eq_some_iff.mp hj
          refine f_V (k_S (As := [va_rf vq9, .int a1, .int a2]) (n := 3) (rest := []) cx hl.1 hP hS (c_X5_putSpecial l X g Mq9 vq9 a1 a2 M10 g_M10) mC_X5_putSpecial mM_X5_75 mT_X5_putSpecial mZ_X5 (by decide +kernel) ⟨Nat.le_of_ble_eq_true rfl, Nat.le_of_ble_eq_true rfl⟩ rfl rfl (Nat.le_of_ble_eq_true rfl) dX5_constantSpecial_31 ⟨Nat.le_of_ble_eq_true rfl, Nat.le_of_ble_eq_true rfl⟩) hS (fun H locs hP hS => ?_)
          have hP : hp X M10 H := hP
          refine W.eq (g2 := F0 m 34 ls []) rfl ?_
          refine W.widen (k := 3) (n := 26) (Nat.le_of_ble_eq_true rfl) (Nat.le_of_ble_eq_true rfl) ?_
          refine lv_iconst (v := 1) hx hb dX5_constantSpecial_34 (by decide) ?_
          exact t_I cx hr hlocks hP hS (Option.some.inj hj) (Nat.le_of_ble_eq_true rfl) (Nat.le_of_ble_eq_true rfl) dX5_constantSpecial_35
        · have hj := if_f c7 hj
          exact J_21 M H locs ls hj hP hS (lv_sub hl [] rfl)
  exact hgo _ _ hP hS
set_option maxHeartbeats 4000000 in
set_option maxRecDepth 100000 in
theorem c_X5_formula (l : Launch) (X : hX) (g : Nat) (M : hm) (a0 : Nat) (a1 : Int32) (a2 : Int32) (a3 : Int32) (a4 : Int32) (a5 : Int32) (RR : hm × Int32) (hj : j_X5_formula g M a0 a1 a2 a3 a4 a5 = some RR) : Ct l X yX5_formula cX5_formula 7 (some .int) { frames := 4, cells := 3, slots := 26, locals := 76 } [.ref a0, .int a1, .int a2, .int a3, .int a4, .int a5] M (qI X RR) := by
  refine h_enter (own := RX5) (by decide) rfl (Nat.le_of_ble_eq_true rfl) ?_
  intro p e s m below meth c ls cx hr hlocks hnm hP hS hl
  have hx := cx.1
  have hb := cx.2.1
  have hl : lv_has ls 7 [(0, .ref a0), (1, .int a1), (2, .int a2), (3, .int a3), (4, .int a4), (5, .int a5)] := hl
  unfold j_X5_formula at hj
  have hgo : ∀ (H : Heap) (locs : List Loc), hp X M H → va_S (hA X) s.heap H locs → W p l e ({ frames := 4, cells := 3, slots := 26, locals := 76 } : Room) s m _ below meth c H locs 0 0 (MQ below (qI X RR) _ s 3 26 (hA X)) (F0 m 0 ls []) := by
    have J_67 : ∀ (M : hm) (p0 : Nat) (p1 : Int32) (p2 : Int32) (p3 : Int32) (p4 : Int32) (p5 : Int32) (H : Heap) (locs : List Loc) (ls : Array Slot), j_X5_formula_67 g M p0 p1 p2 p3 p4 p5 = some RR → hp X M H → va_S (hA X) s.heap H locs → lv_has ls 7 [(0, .ref p0), (1, .int p1), (2, .int p2), (3, .int p3), (4, .int p4), (5, .int p5)] → W p l e ({ frames := 4, cells := 3, slots := 26, locals := 76 } : Room) s m _ below meth c H locs 0 0 (MQ below (qI X RR) _ s 3 26 (hA X)) (F0 m 67 ls []) := by
      intro M p0 p1 p2 p3 p4 p5 H locs ls hj hP hS hl
      unfold j_X5_formula_67 at hj
      refine lv_aload_n hx hb dX5_formula_67 rfl (lv_at hl 0 rfl) ?_
      refine lv_iload_n hx hb dX5_formula_68 rfl (lv_at hl 1 rfl) ?_
      obtain ⟨_, o1, hj⟩ := Option.bind_eq_some_iff.mp hj
      obtain ⟨⟨Mq2, vq2⟩, g_q2, hj⟩ := Option.bind_eq_some_iff.mp hj
      refine f_R (k_V (b := p0) (As := [.int p1]) (n := 1) (rest := []) cx hl.1 hP hS (c_X5_changed l X g M p0 p1 (Mq2, vq2) g_q2) o1 rfl mC_X5_changed mM_X5_54 mI_X5_changed mS_X5_changed mZ_X5 (by decide +kernel) ⟨Nat.le_of_ble_eq_true rfl, Nat.le_of_ble_eq_true rfl⟩ rfl rfl (Nat.le_of_ble_eq_true rfl) dX5_formula_69 ⟨Nat.le_of_ble_eq_true rfl, Nat.le_of_ble_eq_true rfl⟩) hS (fun H locs hP hS => ?_)
      have hP : hp X Mq2 H := hP
      refine W.eq (g2 := F0 m 72 ls [va_rf vq2]) rfl ?_
      refine W.widen (k := 3) (n := 26) (Nat.le_of_ble_eq_true rfl) (Nat.le_of_ble_eq_true rfl) ?_
      refine h_astore (lv' := [(6, va_rf vq2), (0, .ref p0), (1, .int p1), (2, .int p2), (3, .int p3), (4, .int p4), (5, .int p5)]) hx hb dX5_formula_72 hl (by decide) rfl (fun ls hl => ?_)
      refine h_aload hx hb dX5_formula_74 (lv_at hl 0 rfl) ?_
      refine lv_iload_n hx hb dX5_formula_76 rfl (lv_at hl 3 rfl) ?_
      obtain ⟨b3, e_b3, hj⟩ := Option.bind_eq_some_iff.mp hj
      subst e_b3
      obtain ⟨M4, g_M4, hj⟩ := Option.bind_eq_some_iff.mp hj
      refine r_put cx hP hS g_M4 iX3 tyX3 tyX3_ok nmX3 rfl (by decide) mF_X5_92 rfl rfl rfl dX5_formula_77 (fun H locs hP hS => ?_)
      refine lv_aload hx hb dX5_formula_80 (lv_at hl 0 rfl) ?_
      refine lv_iload_n hx hb dX5_formula_82 rfl (lv_at hl 4 rfl) ?_
      obtain ⟨M5, g_M5, hj⟩ := Option.bind_eq_some_iff.mp hj
      refine r_put cx hP hS g_M5 iX3 tyX3 tyX3_ok nmX3 rfl (by decide) mF_X5_95 rfl rfl rfl dX5_formula_83 (fun H locs hP hS => ?_)
      refine lv_aload hx hb dX5_formula_86 (lv_at hl 0 rfl) ?_
      refine lv_iload hx hb dX5_formula_88 (lv_at hl 5 rfl) ?_
      obtain ⟨M6, g_M6, hj⟩ := Option.bind_eq_some_iff.mp hj
      refine r_put cx hP hS g_M6 iX3 tyX3 tyX3_ok nmX3 rfl (by decide) mF_X5_98 rfl rfl rfl dX5_formula_90 (fun H locs hP hS => ?_)
      refine lv_aload hx hb dX5_formula_93 (lv_at hl 0 rfl) ?_
      refine lv_iload hx hb dX5_formula_95 (lv_at hl 6 rfl) ?_
      obtain ⟨M7, g_M7, hj⟩ := Option.bind_eq_some_iff.mp hj
      refine r_put cx hP hS g_M7 iX3 tyX3 tyX3_ok nmX3 rfl (by decide) mF_X5_101 rfl rfl rfl dX5_formula_97 (fun H locs hP hS => ?_)
      refine lv_iconst (v := 1) hx hb dX5_formula_100 (by decide) ?_
      exact t_I cx hr hlocks hP hS (Option.some.inj hj) (Nat.le_of_ble_eq_true rfl) (Nat.le_of_ble_eq_true rfl) dX5_formula_101
    have J_65 : ∀ (M : hm) (H : Heap) (locs : List Loc) (ls : Array Slot), j_X5_formula_65 g M = some RR → hp X M H → va_S (hA X) s.heap H locs → lv_has ls 7 [] → W p l e ({ frames := 4, cells := 3, slots := 26, locals := 76 } : Room) s m _ below meth c H locs 0 0 (MQ below (qI X RR) _ s 3 26 (hA X)) (F0 m 65 ls []) := by
      intro M H locs ls hj hP hS hl
      unfold j_X5_formula_65 at hj
      refine lv_iconst (v := 0) hx hb dX5_formula_65 (by decide) ?_
      exact t_I cx hr hlocks hP hS (Option.some.inj hj) (Nat.le_of_ble_eq_true rfl) (Nat.le_of_ble_eq_true rfl) dX5_formula_66
    have J_32 : ∀ (M : hm) (H : Heap) (locs : List Loc) (ls : Array Slot), j_X5_formula_32 g M = some RR → hp X M H → va_S (hA X) s.heap H locs → lv_has ls 7 [] → W p l e ({ frames := 4, cells := 3, slots := 26, locals := 76 } : Room) s m _ below meth c H locs 0 0 (MQ below (qI X RR) _ s 3 26 (hA X)) (F0 m 32 ls []) := by
      intro M H locs ls hj hP hS hl
      unfold j_X5_formula_32 at hj
      refine lv_iconst (v := 0) hx hb dX5_formula_32 (by decide) ?_
      exact t_I cx hr hlocks hP hS (Option.some.inj hj) (Nat.le_of_ble_eq_true rfl) (Nat.le_of_ble_eq_true rfl) dX5_formula_33
    intro H locs hP hS
    refine lv_iload_n hx hb dX5_formula_0 rfl (lv_at hl 1 rfl) ?_
    obtain ⟨v8, g_v8, hj⟩ := Option.bind_eq_some_iff.mp hj
    refine f_I (k_S (As := [.int a1]) (n := 1) (rest := []) cx hl.1 hP hS (c_X5_isColumn l X g M a1 v8 g_v8) mC_X5_isColumn mM_X5_86 mT_X5_isColumn mZ_X5 (by decide +kernel) ⟨Nat.le_of_ble_eq_true rfl, Nat.le_of_ble_eq_true rfl⟩ rfl rfl (Nat.le_of_ble_eq_true rfl) dX5_formula_1 ⟨Nat.le_of_ble_eq_true rfl, Nat.le_of_ble_eq_true rfl⟩) hS (fun H locs hP hS => ?_)
    have hP : hp X M H := hP
    refine W.eq (g2 := F0 m 4 ls [.int v8]) rfl ?_
    refine W.widen (k := 0) (n := 0) (Nat.le_of_ble_eq_true rfl) (Nat.le_of_ble_eq_true rfl) ?_
    refine lv_if_eq (tgt := 32) hx hb dX5_formula_4 (by decide) (fun c9 => ?_) (fun c9 => ?_)
    · have hj := if_t c9 hj
      exact J_32 M H locs ls hj hP hS (lv_sub hl [] rfl)
    · have hj := if_f c9 hj
      refine lv_iload_n hx hb dX5_formula_7 rfl (lv_at hl 2 rfl) ?_
      refine lv_if_lt (tgt := 32) hx hb dX5_formula_8 (by decide) (fun c10 => ?_) (fun c10 => ?_)
      · have hj := if_t c10 hj
        exact J_32 M H locs ls hj hP hS (lv_sub hl [] rfl)
      · have hj := if_f c10 hj
        refine lv_iload_n hx hb dX5_formula_11 rfl (lv_at hl 2 rfl) ?_
        refine lv_bipush (v := 26) hx hb dX5_formula_12 (by decide) ?_
        refine lv_icmp_gt (tgt := 32) hx hb dX5_formula_14 (by decide) (fun c11 => ?_) (fun c11 => ?_)
        · have hj := if_t c11 hj
          exact J_32 M H locs ls hj hP hS (lv_sub hl [] rfl)
        · have hj := if_f c11 hj
          refine lv_iload hx hb dX5_formula_17 (lv_at hl 5 rfl) ?_
          obtain ⟨v12, g_v12, hj⟩ := Option.bind_eq_some_iff.mp hj
          refine f_I (k_S (As := [.int a5]) (n := 1) (rest := []) cx hl.1 hP hS (c_X5_isComparison l X g M a5 v12 g_v12) mC_X5_isComparison mM_X5_89 mT_X5_isComparison mZ_X5 (by decide +kernel) ⟨Nat.le_of_ble_eq_true rfl, Nat.le_of_ble_eq_true rfl⟩ rfl rfl (Nat.le_of_ble_eq_true rfl) dX5_formula_19 ⟨Nat.le_of_ble_eq_true rfl, Nat.le_of_ble_eq_true rfl⟩) hS (fun H locs hP hS => ?_)
          have hP : hp X M H := hP
          refine W.eq (g2 := F0 m 22 ls [.int v12]) rfl ?_
          refine W.widen (k := 0) (n := 0) (Nat.le_of_ble_eq_true rfl) (Nat.le_of_ble_eq_true rfl) ?_
          refine lv_if_eq (tgt := 32) hx hb dX5_formula_22 (by decide) (fun c13 => ?_) (fun c13 => ?_)
          · have hj := if_t c13 hj
            exact J_32 M H locs ls hj hP hS (lv_sub hl [] rfl)
          · have hj := if_f c13 hj
            refine lv_aload_n hx hb dX5_formula_25 rfl (lv_at hl 0 rfl) ?_
            obtain ⟨_, o14, hj⟩ := Option.bind_eq_some_iff.mp hj
            obtain ⟨v15, g_v15, hj⟩ := Option.bind_eq_some_iff.mp hj
            refine f_I (k_V (b := a0) (As := []) (n := 0) (rest := []) cx hl.1 hP hS (c_X5_isFull l X g M a0 v15 g_v15) o14 rfl mC_X5_isFull mM_X5_82 mI_X5_isFull mS_X5_isFull mZ_X5 (by decide +kernel) ⟨Nat.le_of_ble_eq_true rfl, Nat.le_of_ble_eq_true rfl⟩ rfl rfl (Nat.le_of_ble_eq_true rfl) dX5_formula_26 ⟨Nat.le_of_ble_eq_true rfl, Nat.le_of_ble_eq_true rfl⟩) hS (fun H locs hP hS => ?_)
            have hP : hp X M H := hP
            refine W.eq (g2 := F0 m 29 ls [.int v15]) rfl ?_
            refine W.widen (k := 0) (n := 0) (Nat.le_of_ble_eq_true rfl) (Nat.le_of_ble_eq_true rfl) ?_
            refine lv_if_eq (tgt := 34) hx hb dX5_formula_29 (by decide) (fun c16 => ?_) (fun c16 => ?_)
            · have hj := if_t c16 hj
              refine lv_iload_n hx hb dX5_formula_34 rfl (lv_at hl 3 rfl) ?_
              refine lv_if_lt (tgt := 65) hx hb dX5_formula_35 (by decide) (fun c17 => ?_) (fun c17 => ?_)
              · have hj := if_t c17 hj
                exact J_65 M H locs ls hj hP hS (lv_sub hl [] rfl)
              · have hj := if_f c17 hj
                refine lv_iload_n hx hb dX5_formula_38 rfl (lv_at hl 3 rfl) ?_
                refine lv_iload_n hx hb dX5_formula_39 rfl (lv_at hl 1 rfl) ?_
                refine lv_icmp_ge (tgt := 65) hx hb dX5_formula_40 (by decide) (fun c18 => ?_) (fun c18 => ?_)
                · have hj := if_t c18 hj
                  exact J_65 M H locs ls hj hP hS (lv_sub hl [] rfl)
                · have hj := if_f c18 hj
                  refine lv_iload hx hb dX5_formula_43 (lv_at hl 4 rfl) ?_
                  refine lv_if_lt (tgt := 65) hx hb dX5_formula_45 (by decide) (fun c19 => ?_) (fun c19 => ?_)
                  · have hj := if_t c19 hj
                    exact J_65 M H locs ls hj hP hS (lv_sub hl [] rfl)
                  · have hj := if_f c19 hj
                    refine lv_iload hx hb dX5_formula_48 (lv_at hl 4 rfl) ?_
                    refine lv_iload_n hx hb dX5_formula_50 rfl (lv_at hl 1 rfl) ?_
                    refine lv_icmp_lt (tgt := 67) hx hb dX5_formula_51 (by decide) (fun c20 => ?_) (fun c20 => ?_)
                    · have hj := if_t c20 hj
                      exact J_67 M a0 a1 a2 a3 a4 a5 H locs ls hj hP hS (lv_sub hl [0, 1, 2, 3, 4, 5] rfl)
                    · have hj := if_f c20 hj
                      refine lv_iload hx hb dX5_formula_54 (lv_at hl 4 rfl) ?_
                      refine lv_bipush (v := 16) hx hb dX5_formula_56 (by decide) ?_
                      refine lv_isub hx hb dX5_formula_58 ?_
                      obtain ⟨v21, g_v21, hj⟩ := Option.bind_eq_some_iff.mp hj
                      refine f_I (k_S (As := [.int (a4 - (16 : Int32))]) (n := 1) (rest := []) cx hl.1 hP hS (c_X5_isConstant l X g M (a4 - (16 : Int32)) v21 g_v21) mC_X5_isConstant mM_X5_79 mT_X5_isConstant mZ_X5 (by decide +kernel) ⟨Nat.le_of_ble_eq_true rfl, Nat.le_of_ble_eq_true rfl⟩ rfl rfl (Nat.le_of_ble_eq_true rfl) dX5_formula_59 ⟨Nat.le_of_ble_eq_true rfl, Nat.le_of_ble_eq_true rfl⟩) hS (fun H locs hP hS => ?_)
                      have hP : hp X M H := hP
                      refine W.eq (g2 := F0 m 62 ls [.int v21]) rfl ?_
                      refine W.widen (k := 0) (n := 0) (Nat.le_of_ble_eq_true rfl) (Nat.le_of_ble_eq_true rfl) ?_
                      refine lv_if_ne (tgt := 67) hx hb dX5_formula_62 (by decide) (fun c22 => ?_) (fun c22 => ?_)
                      · have hj := if_f c22 hj
                        exact J_67 M a0 a1 a2 a3 a4 a5 H locs ls hj hP hS (lv_sub hl [0, 1, 2, 3, 4, 5] rfl)
                      · have hj := if_t c22 hj
                        exact J_65 M H locs ls hj hP hS (lv_sub hl [] rfl)
            · have hj := if_f c16 hj
              exact J_32 M H locs ls hj hP hS (lv_sub hl [] rfl)
  exact hgo _ _ hP hS
set_option maxHeartbeats 4000000 in
set_option maxRecDepth 100000 in
theorem c_X5_init (l : Launch) (X : hX) (g : Nat) (M : hm) (a0 : Nat) (RR : hm) (hj : j_X5_init g M a0 = some RR) : Ct l X yX5_init cX5_init 2 none { frames := 3, cells := 37, slots := 411, locals := 53 } [.ref a0] M (qV X RR) := by
  refine h_enter (own := RX5) (by decide) rfl (Nat.le_of_ble_eq_true rfl) ?_
  intro p e s m below meth c ls cx hr hlocks hnm hP hS hl
  have hx := cx.1
  have hb := cx.2.1
  have hl : lv_has ls 2 [(0, .ref a0)] := hl
  unfold j_X5_init at hj
  have hgo : ∀ (H : Heap) (locs : List Loc), hp X M H → va_S (hA X) s.heap H locs → W p l e ({ frames := 3, cells := 37, slots := 411, locals := 53 } : Room) s m _ below meth c H locs 0 0 (MQ below (qV X RR) _ s 37 411 (hA X)) (F0 m 0 ls []) := by
    intro H locs hP hS
    refine lv_aload_n hx hb dX5_init_0 rfl (lv_at hl 0 rfl) ?_
    refine W.objInit hx hb cx.2.2.2.1 (cx.2.2.2.2.1 _ mM_X5_1) (cx.2.2.2.2.1 _ mI_obj) (cx.2.2.2.2.1 _ mC_obj) rfl (by rw [cx.2.2.1]; exact hl.1) rfl dX5_init_1 (Nat.le_of_ble_eq_true rfl) (Nat.le_of_ble_eq_true rfl) ?_
    refine W.eq (g2 := F0 m 4 ls []) rfl ?_
    refine lv_aload_n hx hb dX5_init_4 rfl (lv_at hl 0 rfl) ?_
    refine lv_bipush (v := 13) hx hb dX5_init_5 (by decide) ?_
    obtain ⟨⟨Mq1, aq1⟩, g_q1, hj⟩ := Option.bind_eq_some_iff.mp hj
    refine r_newQ (N := 13) cx hP hS g_q1 mL_X5_9 cx.2.2.2.2.2.1.2.2.1 rfl (by decide) (by decide) (by decide) (Nat.le_of_ble_eq_true rfl) (Nat.le_of_ble_eq_true rfl) dX5_init_7 (fun H hP hS => ?_)
    have hP : hp X Mq1 H := hP
    obtain ⟨M2, g_M2, hj⟩ := Option.bind_eq_some_iff.mp hj
    refine r_putF cx hP hS g_M2 iX5 tyX5 tyX5_ok nmX5 rfl (by decide) mF_X5_11 rfl hnm rfl rfl rfl dX5_init_10 (fun H locs hP hS => ?_)
    refine lv_iconst (v := 0) hx hb dX5_init_13 (by decide) ?_
    refine lv_istore_n (lv' := [(1, .int (0 : Int32)), (0, .ref a0)]) hx hb dX5_init_14 rfl hl (by decide) rfl (fun ls hl => ?_)
    refine lv_iload_n hx hb dX5_init_15 rfl (lv_at hl 0 rfl) ?_
    refine lv_bipush (v := 12) hx hb dX5_init_16 (by decide) ?_
    refine lv_icmp_gt (tgt := 40) hx hb dX5_init_18 (by decide) (fun h => absurd h (by decide)) (fun _ => ?_)
    refine lv_aload_n hx hb dX5_init_21 rfl (lv_at hl 1 rfl) ?_
    obtain ⟨v3, g_v3, hj⟩ := Option.bind_eq_some_iff.mp hj
    refine r_getR cx hP g_v3 iX5 rfl (by decide) mF_X5_11 dX5_init_22 ?_
    refine lv_iload_n hx hb dX5_init_25 rfl (lv_at hl 0 rfl) ?_
    obtain ⟨⟨Mq4, aq4⟩, g_q4, hj⟩ := Option.bind_eq_some_iff.mp hj
    refine r_new (ci := 3) (fs := [.null, .int 0, .int 0, .int 0, .int 0, .int 0, .int 0]) cx hP hS g_q4 iX3 tyX3 tyX3_ok mL_X5_9 mN_X3 mZ_X3 rfl (fun j hj => by rcases (show j = 0 ∨ j = 1 ∨ j = 2 ∨ j = 3 ∨ j = 4 ∨ j = 5 ∨ j = 6 by omega) with rfl | rfl | rfl | rfl | rfl | rfl | rfl <;> rfl) (Nat.le_of_ble_eq_true rfl) (Nat.le_of_ble_eq_true rfl) dX5_init_26 (fun H hP hS => ?_)
    have hP : hp X Mq4 H := hP
    refine lv_dup hx hb dX5_init_29 rfl ?_
    obtain ⟨M5, g_M5, hj⟩ := Option.bind_eq_some_iff.mp hj
    refine f_V (k_I (b := aq4) (As := []) (n := 0) (rest := [.ref aq4, .int (0 : Int32), va_rf v3]) cx hl.1 hP hS (c_X3_init l X g Mq4 aq4 M5 g_M5) mC_X3_init mM_X5_15 mI_X3_init mZ_X3 rfl (by decide +kernel) ⟨Nat.le_of_ble_eq_true rfl, Nat.le_of_ble_eq_true rfl⟩ rfl rfl (by simp [cat_rf, Value.category]) dX5_init_30 ⟨Nat.le_of_ble_eq_true rfl, Nat.le_of_ble_eq_true rfl⟩) hS (fun H locs hP hS => ?_)
    have hP : hp X M5 H := hP
    refine W.eq (g2 := F0 m 33 ls [.ref aq4, .int (0 : Int32), va_rf v3]) rfl ?_
    refine W.widen (k := 3) (n := 36) (Nat.le_of_ble_eq_true rfl) (Nat.le_of_ble_eq_true rfl) ?_
    obtain ⟨b6, e_b6, hj⟩ := Option.bind_eq_some_iff.mp hj
    subst e_b6
    obtain ⟨M7, g_M7, hj⟩ := Option.bind_eq_some_iff.mp hj
    refine r_astR (v := some aq4) (k := 3) (ci := 3) (r := (RX3, TX3, 7)) cx hP hS rfl rfl g_M7 dX5_init_33 (fun H locs hP hS => ?_)
    refine lv_iinc (v := (1 : Int32)) (lv' := [(1, .int (1 : Int32)), (0, .ref a0)]) hx hb dX5_init_34 hl (k := 0) rfl (by decide) (by decide) rfl (fun ls hl => ?_)
    refine lv_goto (tgt := 15) hx hb dX5_init_37 (by decide) ?_
    refine lv_iload_n hx hb dX5_init_15 rfl (lv_at hl 0 rfl) ?_
    refine lv_bipush (v := 12) hx hb dX5_init_16 (by decide) ?_
    refine lv_icmp_gt (tgt := 40) hx hb dX5_init_18 (by decide) (fun h => absurd h (by decide)) (fun _ => ?_)
    refine lv_aload_n hx hb dX5_init_21 rfl (lv_at hl 1 rfl) ?_
    obtain ⟨v8, g_v8, hj⟩ := Option.bind_eq_some_iff.mp hj
    refine r_getR cx hP g_v8 iX5 rfl (by decide) mF_X5_11 dX5_init_22 ?_
    refine lv_iload_n hx hb dX5_init_25 rfl (lv_at hl 0 rfl) ?_
    obtain ⟨⟨Mq9, aq9⟩, g_q9, hj⟩ := Option.bind_eq_some_iff.mp hj
    refine r_new (ci := 3) (fs := [.null, .int 0, .int 0, .int 0, .int 0, .int 0, .int 0]) cx hP hS g_q9 iX3 tyX3 tyX3_ok mL_X5_9 mN_X3 mZ_X3 rfl (fun j hj => by rcases (show j = 0 ∨ j = 1 ∨ j = 2 ∨ j = 3 ∨ j = 4 ∨ j = 5 ∨ j = 6 by omega) with rfl | rfl | rfl | rfl | rfl | rfl | rfl <;> rfl) (Nat.le_of_ble_eq_true rfl) (Nat.le_of_ble_eq_true rfl) dX5_init_26 (fun H hP hS => ?_)
    have hP : hp X Mq9 H := hP
    refine lv_dup hx hb dX5_init_29 rfl ?_
    obtain ⟨M10, g_M10, hj⟩ := Option.bind_eq_some_iff.mp hj
    refine f_V (k_I (b := aq9) (As := []) (n := 0) (rest := [.ref aq9, .int (1 : Int32), va_rf v8]) cx hl.1 hP hS (c_X3_init l X g Mq9 aq9 M10 g_M10) mC_X3_init mM_X5_15 mI_X3_init mZ_X3 rfl (by decide +kernel) ⟨Nat.le_of_ble_eq_true rfl, Nat.le_of_ble_eq_true rfl⟩ rfl rfl (by simp [cat_rf, Value.category]) dX5_init_30 ⟨Nat.le_of_ble_eq_true rfl, Nat.le_of_ble_eq_true rfl⟩) hS (fun H locs hP hS => ?_)
    have hP : hp X M10 H := hP
    refine W.eq (g2 := F0 m 33 ls [.ref aq9, .int (1 : Int32), va_rf v8]) rfl ?_
    refine W.widen (k := 5) (n := 59) (Nat.le_of_ble_eq_true rfl) (Nat.le_of_ble_eq_true rfl) ?_
    obtain ⟨b11, e_b11, hj⟩ := Option.bind_eq_some_iff.mp hj
    subst e_b11
    obtain ⟨M12, g_M12, hj⟩ := Option.bind_eq_some_iff.mp hj
    refine r_astR (v := some aq9) (k := 3) (ci := 3) (r := (RX3, TX3, 7)) cx hP hS rfl rfl g_M12 dX5_init_33 (fun H locs hP hS => ?_)
    refine lv_iinc (v := (2 : Int32)) (lv' := [(1, .int (2 : Int32)), (0, .ref a0)]) hx hb dX5_init_34 hl (k := 0) rfl (by decide) (by decide) rfl (fun ls hl => ?_)
    refine lv_goto (tgt := 15) hx hb dX5_init_37 (by decide) ?_
    refine lv_iload_n hx hb dX5_init_15 rfl (lv_at hl 0 rfl) ?_
    refine lv_bipush (v := 12) hx hb dX5_init_16 (by decide) ?_
    refine lv_icmp_gt (tgt := 40) hx hb dX5_init_18 (by decide) (fun h => absurd h (by decide)) (fun _ => ?_)
    refine lv_aload_n hx hb dX5_init_21 rfl (lv_at hl 1 rfl) ?_
    obtain ⟨v13, g_v13, hj⟩ := Option.bind_eq_some_iff.mp hj
    refine r_getR cx hP g_v13 iX5 rfl (by decide) mF_X5_11 dX5_init_22 ?_
    refine lv_iload_n hx hb dX5_init_25 rfl (lv_at hl 0 rfl) ?_
    obtain ⟨⟨Mq14, aq14⟩, g_q14, hj⟩ := Option.bind_eq_some_iff.mp hj
    refine r_new (ci := 3) (fs := [.null, .int 0, .int 0, .int 0, .int 0, .int 0, .int 0]) cx hP hS g_q14 iX3 tyX3 tyX3_ok mL_X5_9 mN_X3 mZ_X3 rfl (fun j hj => by rcases (show j = 0 ∨ j = 1 ∨ j = 2 ∨ j = 3 ∨ j = 4 ∨ j = 5 ∨ j = 6 by omega) with rfl | rfl | rfl | rfl | rfl | rfl | rfl <;> rfl) (Nat.le_of_ble_eq_true rfl) (Nat.le_of_ble_eq_true rfl) dX5_init_26 (fun H hP hS => ?_)
    have hP : hp X Mq14 H := hP
    refine lv_dup hx hb dX5_init_29 rfl ?_
    obtain ⟨M15, g_M15, hj⟩ := Option.bind_eq_some_iff.mp hj
    refine f_V (k_I (b := aq14) (As := []) (n := 0) (rest := [.ref aq14, .int (2 : Int32), va_rf v13]) cx hl.1 hP hS (c_X3_init l X g Mq14 aq14 M15 g_M15) mC_X3_init mM_X5_15 mI_X3_init mZ_X3 rfl (by decide +kernel) ⟨Nat.le_of_ble_eq_true rfl, Nat.le_of_ble_eq_true rfl⟩ rfl rfl (by simp [cat_rf, Value.category]) dX5_init_30 ⟨Nat.le_of_ble_eq_true rfl, Nat.le_of_ble_eq_true rfl⟩) hS (fun H locs hP hS => ?_)
    have hP : hp X M15 H := hP
    refine W.eq (g2 := F0 m 33 ls [.ref aq14, .int (2 : Int32), va_rf v13]) rfl ?_
    refine W.widen (k := 7) (n := 82) (Nat.le_of_ble_eq_true rfl) (Nat.le_of_ble_eq_true rfl) ?_
    obtain ⟨b16, e_b16, hj⟩ := Option.bind_eq_some_iff.mp hj
    subst e_b16
    obtain ⟨M17, g_M17, hj⟩ := Option.bind_eq_some_iff.mp hj
    refine r_astR (v := some aq14) (k := 3) (ci := 3) (r := (RX3, TX3, 7)) cx hP hS rfl rfl g_M17 dX5_init_33 (fun H locs hP hS => ?_)
    refine lv_iinc (v := (3 : Int32)) (lv' := [(1, .int (3 : Int32)), (0, .ref a0)]) hx hb dX5_init_34 hl (k := 0) rfl (by decide) (by decide) rfl (fun ls hl => ?_)
    refine lv_goto (tgt := 15) hx hb dX5_init_37 (by decide) ?_
    refine lv_iload_n hx hb dX5_init_15 rfl (lv_at hl 0 rfl) ?_
    refine lv_bipush (v := 12) hx hb dX5_init_16 (by decide) ?_
    refine lv_icmp_gt (tgt := 40) hx hb dX5_init_18 (by decide) (fun h => absurd h (by decide)) (fun _ => ?_)
    refine lv_aload_n hx hb dX5_init_21 rfl (lv_at hl 1 rfl) ?_
    obtain ⟨v18, g_v18, hj⟩ := Option.bind_eq_some_iff.mp hj
    refine r_getR cx hP g_v18 iX5 rfl (by decide) mF_X5_11 dX5_init_22 ?_
    refine lv_iload_n hx hb dX5_init_25 rfl (lv_at hl 0 rfl) ?_
    obtain ⟨⟨Mq19, aq19⟩, g_q19, hj⟩ := Option.bind_eq_some_iff.mp hj
    refine r_new (ci := 3) (fs := [.null, .int 0, .int 0, .int 0, .int 0, .int 0, .int 0]) cx hP hS g_q19 iX3 tyX3 tyX3_ok mL_X5_9 mN_X3 mZ_X3 rfl (fun j hj => by rcases (show j = 0 ∨ j = 1 ∨ j = 2 ∨ j = 3 ∨ j = 4 ∨ j = 5 ∨ j = 6 by omega) with rfl | rfl | rfl | rfl | rfl | rfl | rfl <;> rfl) (Nat.le_of_ble_eq_true rfl) (Nat.le_of_ble_eq_true rfl) dX5_init_26 (fun H hP hS => ?_)
    have hP : hp X Mq19 H := hP
    refine lv_dup hx hb dX5_init_29 rfl ?_
    obtain ⟨M20, g_M20, hj⟩ := Option.bind_eq_some_iff.mp hj
    refine f_V (k_I (b := aq19) (As := []) (n := 0) (rest := [.ref aq19, .int (3 : Int32), va_rf v18]) cx hl.1 hP hS (c_X3_init l X g Mq19 aq19 M20 g_M20) mC_X3_init mM_X5_15 mI_X3_init mZ_X3 rfl (by decide +kernel) ⟨Nat.le_of_ble_eq_true rfl, Nat.le_of_ble_eq_true rfl⟩ rfl rfl (by simp [cat_rf, Value.category]) dX5_init_30 ⟨Nat.le_of_ble_eq_true rfl, Nat.le_of_ble_eq_true rfl⟩) hS (fun H locs hP hS => ?_)
    have hP : hp X M20 H := hP
    refine W.eq (g2 := F0 m 33 ls [.ref aq19, .int (3 : Int32), va_rf v18]) rfl ?_
    refine W.widen (k := 9) (n := 105) (Nat.le_of_ble_eq_true rfl) (Nat.le_of_ble_eq_true rfl) ?_
    obtain ⟨b21, e_b21, hj⟩ := Option.bind_eq_some_iff.mp hj
    subst e_b21
    obtain ⟨M22, g_M22, hj⟩ := Option.bind_eq_some_iff.mp hj
    refine r_astR (v := some aq19) (k := 3) (ci := 3) (r := (RX3, TX3, 7)) cx hP hS rfl rfl g_M22 dX5_init_33 (fun H locs hP hS => ?_)
    refine lv_iinc (v := (4 : Int32)) (lv' := [(1, .int (4 : Int32)), (0, .ref a0)]) hx hb dX5_init_34 hl (k := 0) rfl (by decide) (by decide) rfl (fun ls hl => ?_)
    refine lv_goto (tgt := 15) hx hb dX5_init_37 (by decide) ?_
    refine lv_iload_n hx hb dX5_init_15 rfl (lv_at hl 0 rfl) ?_
    refine lv_bipush (v := 12) hx hb dX5_init_16 (by decide) ?_
    refine lv_icmp_gt (tgt := 40) hx hb dX5_init_18 (by decide) (fun h => absurd h (by decide)) (fun _ => ?_)
    refine lv_aload_n hx hb dX5_init_21 rfl (lv_at hl 1 rfl) ?_
    obtain ⟨v23, g_v23, hj⟩ := Option.bind_eq_some_iff.mp hj
    refine r_getR cx hP g_v23 iX5 rfl (by decide) mF_X5_11 dX5_init_22 ?_
    refine lv_iload_n hx hb dX5_init_25 rfl (lv_at hl 0 rfl) ?_
    obtain ⟨⟨Mq24, aq24⟩, g_q24, hj⟩ := Option.bind_eq_some_iff.mp hj
    refine r_new (ci := 3) (fs := [.null, .int 0, .int 0, .int 0, .int 0, .int 0, .int 0]) cx hP hS g_q24 iX3 tyX3 tyX3_ok mL_X5_9 mN_X3 mZ_X3 rfl (fun j hj => by rcases (show j = 0 ∨ j = 1 ∨ j = 2 ∨ j = 3 ∨ j = 4 ∨ j = 5 ∨ j = 6 by omega) with rfl | rfl | rfl | rfl | rfl | rfl | rfl <;> rfl) (Nat.le_of_ble_eq_true rfl) (Nat.le_of_ble_eq_true rfl) dX5_init_26 (fun H hP hS => ?_)
    have hP : hp X Mq24 H := hP
    refine lv_dup hx hb dX5_init_29 rfl ?_
    obtain ⟨M25, g_M25, hj⟩ := Option.bind_eq_some_iff.mp hj
    refine f_V (k_I (b := aq24) (As := []) (n := 0) (rest := [.ref aq24, .int (4 : Int32), va_rf v23]) cx hl.1 hP hS (c_X3_init l X g Mq24 aq24 M25 g_M25) mC_X3_init mM_X5_15 mI_X3_init mZ_X3 rfl (by decide +kernel) ⟨Nat.le_of_ble_eq_true rfl, Nat.le_of_ble_eq_true rfl⟩ rfl rfl (by simp [cat_rf, Value.category]) dX5_init_30 ⟨Nat.le_of_ble_eq_true rfl, Nat.le_of_ble_eq_true rfl⟩) hS (fun H locs hP hS => ?_)
    have hP : hp X M25 H := hP
    refine W.eq (g2 := F0 m 33 ls [.ref aq24, .int (4 : Int32), va_rf v23]) rfl ?_
    refine W.widen (k := 11) (n := 128) (Nat.le_of_ble_eq_true rfl) (Nat.le_of_ble_eq_true rfl) ?_
    obtain ⟨b26, e_b26, hj⟩ := Option.bind_eq_some_iff.mp hj
    subst e_b26
    obtain ⟨M27, g_M27, hj⟩ := Option.bind_eq_some_iff.mp hj
    refine r_astR (v := some aq24) (k := 3) (ci := 3) (r := (RX3, TX3, 7)) cx hP hS rfl rfl g_M27 dX5_init_33 (fun H locs hP hS => ?_)
    refine lv_iinc (v := (5 : Int32)) (lv' := [(1, .int (5 : Int32)), (0, .ref a0)]) hx hb dX5_init_34 hl (k := 0) rfl (by decide) (by decide) rfl (fun ls hl => ?_)
    refine lv_goto (tgt := 15) hx hb dX5_init_37 (by decide) ?_
    refine lv_iload_n hx hb dX5_init_15 rfl (lv_at hl 0 rfl) ?_
    refine lv_bipush (v := 12) hx hb dX5_init_16 (by decide) ?_
    refine lv_icmp_gt (tgt := 40) hx hb dX5_init_18 (by decide) (fun h => absurd h (by decide)) (fun _ => ?_)
    refine lv_aload_n hx hb dX5_init_21 rfl (lv_at hl 1 rfl) ?_
    obtain ⟨v28, g_v28, hj⟩ := Option.bind_eq_some_iff.mp hj
    refine r_getR cx hP g_v28 iX5 rfl (by decide) mF_X5_11 dX5_init_22 ?_
    refine lv_iload_n hx hb dX5_init_25 rfl (lv_at hl 0 rfl) ?_
    obtain ⟨⟨Mq29, aq29⟩, g_q29, hj⟩ := Option.bind_eq_some_iff.mp hj
    refine r_new (ci := 3) (fs := [.null, .int 0, .int 0, .int 0, .int 0, .int 0, .int 0]) cx hP hS g_q29 iX3 tyX3 tyX3_ok mL_X5_9 mN_X3 mZ_X3 rfl (fun j hj => by rcases (show j = 0 ∨ j = 1 ∨ j = 2 ∨ j = 3 ∨ j = 4 ∨ j = 5 ∨ j = 6 by omega) with rfl | rfl | rfl | rfl | rfl | rfl | rfl <;> rfl) (Nat.le_of_ble_eq_true rfl) (Nat.le_of_ble_eq_true rfl) dX5_init_26 (fun H hP hS => ?_)
    have hP : hp X Mq29 H := hP
    refine lv_dup hx hb dX5_init_29 rfl ?_
    obtain ⟨M30, g_M30, hj⟩ := Option.bind_eq_some_iff.mp hj
    refine f_V (k_I (b := aq29) (As := []) (n := 0) (rest := [.ref aq29, .int (5 : Int32), va_rf v28]) cx hl.1 hP hS (c_X3_init l X g Mq29 aq29 M30 g_M30) mC_X3_init mM_X5_15 mI_X3_init mZ_X3 rfl (by decide +kernel) ⟨Nat.le_of_ble_eq_true rfl, Nat.le_of_ble_eq_true rfl⟩ rfl rfl (by simp [cat_rf, Value.category]) dX5_init_30 ⟨Nat.le_of_ble_eq_true rfl, Nat.le_of_ble_eq_true rfl⟩) hS (fun H locs hP hS => ?_)
    have hP : hp X M30 H := hP
    refine W.eq (g2 := F0 m 33 ls [.ref aq29, .int (5 : Int32), va_rf v28]) rfl ?_
    refine W.widen (k := 13) (n := 151) (Nat.le_of_ble_eq_true rfl) (Nat.le_of_ble_eq_true rfl) ?_
    obtain ⟨b31, e_b31, hj⟩ := Option.bind_eq_some_iff.mp hj
    subst e_b31
    obtain ⟨M32, g_M32, hj⟩ := Option.bind_eq_some_iff.mp hj
    refine r_astR (v := some aq29) (k := 3) (ci := 3) (r := (RX3, TX3, 7)) cx hP hS rfl rfl g_M32 dX5_init_33 (fun H locs hP hS => ?_)
    refine lv_iinc (v := (6 : Int32)) (lv' := [(1, .int (6 : Int32)), (0, .ref a0)]) hx hb dX5_init_34 hl (k := 0) rfl (by decide) (by decide) rfl (fun ls hl => ?_)
    refine lv_goto (tgt := 15) hx hb dX5_init_37 (by decide) ?_
    refine lv_iload_n hx hb dX5_init_15 rfl (lv_at hl 0 rfl) ?_
    refine lv_bipush (v := 12) hx hb dX5_init_16 (by decide) ?_
    refine lv_icmp_gt (tgt := 40) hx hb dX5_init_18 (by decide) (fun h => absurd h (by decide)) (fun _ => ?_)
    refine lv_aload_n hx hb dX5_init_21 rfl (lv_at hl 1 rfl) ?_
    obtain ⟨v33, g_v33, hj⟩ := Option.bind_eq_some_iff.mp hj
    refine r_getR cx hP g_v33 iX5 rfl (by decide) mF_X5_11 dX5_init_22 ?_
    refine lv_iload_n hx hb dX5_init_25 rfl (lv_at hl 0 rfl) ?_
    obtain ⟨⟨Mq34, aq34⟩, g_q34, hj⟩ := Option.bind_eq_some_iff.mp hj
    refine r_new (ci := 3) (fs := [.null, .int 0, .int 0, .int 0, .int 0, .int 0, .int 0]) cx hP hS g_q34 iX3 tyX3 tyX3_ok mL_X5_9 mN_X3 mZ_X3 rfl (fun j hj => by rcases (show j = 0 ∨ j = 1 ∨ j = 2 ∨ j = 3 ∨ j = 4 ∨ j = 5 ∨ j = 6 by omega) with rfl | rfl | rfl | rfl | rfl | rfl | rfl <;> rfl) (Nat.le_of_ble_eq_true rfl) (Nat.le_of_ble_eq_true rfl) dX5_init_26 (fun H hP hS => ?_)
    have hP : hp X Mq34 H := hP
    refine lv_dup hx hb dX5_init_29 rfl ?_
    obtain ⟨M35, g_M35, hj⟩ := Option.bind_eq_some_iff.mp hj
    refine f_V (k_I (b := aq34) (As := []) (n := 0) (rest := [.ref aq34, .int (6 : Int32), va_rf v33]) cx hl.1 hP hS (c_X3_init l X g Mq34 aq34 M35 g_M35) mC_X3_init mM_X5_15 mI_X3_init mZ_X3 rfl (by decide +kernel) ⟨Nat.le_of_ble_eq_true rfl, Nat.le_of_ble_eq_true rfl⟩ rfl rfl (by simp [cat_rf, Value.category]) dX5_init_30 ⟨Nat.le_of_ble_eq_true rfl, Nat.le_of_ble_eq_true rfl⟩) hS (fun H locs hP hS => ?_)
    have hP : hp X M35 H := hP
    refine W.eq (g2 := F0 m 33 ls [.ref aq34, .int (6 : Int32), va_rf v33]) rfl ?_
    refine W.widen (k := 15) (n := 174) (Nat.le_of_ble_eq_true rfl) (Nat.le_of_ble_eq_true rfl) ?_
    obtain ⟨b36, e_b36, hj⟩ := Option.bind_eq_some_iff.mp hj
    subst e_b36
    obtain ⟨M37, g_M37, hj⟩ := Option.bind_eq_some_iff.mp hj
    refine r_astR (v := some aq34) (k := 3) (ci := 3) (r := (RX3, TX3, 7)) cx hP hS rfl rfl g_M37 dX5_init_33 (fun H locs hP hS => ?_)
    refine lv_iinc (v := (7 : Int32)) (lv' := [(1, .int (7 : Int32)), (0, .ref a0)]) hx hb dX5_init_34 hl (k := 0) rfl (by decide) (by decide) rfl (fun ls hl => ?_)
    refine lv_goto (tgt := 15) hx hb dX5_init_37 (by decide) ?_
    refine lv_iload_n hx hb dX5_init_15 rfl (lv_at hl 0 rfl) ?_
    refine lv_bipush (v := 12) hx hb dX5_init_16 (by decide) ?_
    refine lv_icmp_gt (tgt := 40) hx hb dX5_init_18 (by decide) (fun h => absurd h (by decide)) (fun _ => ?_)
    refine lv_aload_n hx hb dX5_init_21 rfl (lv_at hl 1 rfl) ?_
    obtain ⟨v38, g_v38, hj⟩ := Option.bind_eq_some_iff.mp hj
    refine r_getR cx hP g_v38 iX5 rfl (by decide) mF_X5_11 dX5_init_22 ?_
    refine lv_iload_n hx hb dX5_init_25 rfl (lv_at hl 0 rfl) ?_
    obtain ⟨⟨Mq39, aq39⟩, g_q39, hj⟩ := Option.bind_eq_some_iff.mp hj
    refine r_new (ci := 3) (fs := [.null, .int 0, .int 0, .int 0, .int 0, .int 0, .int 0]) cx hP hS g_q39 iX3 tyX3 tyX3_ok mL_X5_9 mN_X3 mZ_X3 rfl (fun j hj => by rcases (show j = 0 ∨ j = 1 ∨ j = 2 ∨ j = 3 ∨ j = 4 ∨ j = 5 ∨ j = 6 by omega) with rfl | rfl | rfl | rfl | rfl | rfl | rfl <;> rfl) (Nat.le_of_ble_eq_true rfl) (Nat.le_of_ble_eq_true rfl) dX5_init_26 (fun H hP hS => ?_)
    have hP : hp X Mq39 H := hP
    refine lv_dup hx hb dX5_init_29 rfl ?_
    obtain ⟨M40, g_M40, hj⟩ := Option.bind_eq_some_iff.mp hj
    refine f_V (k_I (b := aq39) (As := []) (n := 0) (rest := [.ref aq39, .int (7 : Int32), va_rf v38]) cx hl.1 hP hS (c_X3_init l X g Mq39 aq39 M40 g_M40) mC_X3_init mM_X5_15 mI_X3_init mZ_X3 rfl (by decide +kernel) ⟨Nat.le_of_ble_eq_true rfl, Nat.le_of_ble_eq_true rfl⟩ rfl rfl (by simp [cat_rf, Value.category]) dX5_init_30 ⟨Nat.le_of_ble_eq_true rfl, Nat.le_of_ble_eq_true rfl⟩) hS (fun H locs hP hS => ?_)
    have hP : hp X M40 H := hP
    refine W.eq (g2 := F0 m 33 ls [.ref aq39, .int (7 : Int32), va_rf v38]) rfl ?_
    refine W.widen (k := 17) (n := 197) (Nat.le_of_ble_eq_true rfl) (Nat.le_of_ble_eq_true rfl) ?_
    obtain ⟨b41, e_b41, hj⟩ := Option.bind_eq_some_iff.mp hj
    subst e_b41
    obtain ⟨M42, g_M42, hj⟩ := Option.bind_eq_some_iff.mp hj
    refine r_astR (v := some aq39) (k := 3) (ci := 3) (r := (RX3, TX3, 7)) cx hP hS rfl rfl g_M42 dX5_init_33 (fun H locs hP hS => ?_)
    refine lv_iinc (v := (8 : Int32)) (lv' := [(1, .int (8 : Int32)), (0, .ref a0)]) hx hb dX5_init_34 hl (k := 0) rfl (by decide) (by decide) rfl (fun ls hl => ?_)
    refine lv_goto (tgt := 15) hx hb dX5_init_37 (by decide) ?_
    refine lv_iload_n hx hb dX5_init_15 rfl (lv_at hl 0 rfl) ?_
    refine lv_bipush (v := 12) hx hb dX5_init_16 (by decide) ?_
    refine lv_icmp_gt (tgt := 40) hx hb dX5_init_18 (by decide) (fun h => absurd h (by decide)) (fun _ => ?_)
    refine lv_aload_n hx hb dX5_init_21 rfl (lv_at hl 1 rfl) ?_
    obtain ⟨v43, g_v43, hj⟩ := Option.bind_eq_some_iff.mp hj
    refine r_getR cx hP g_v43 iX5 rfl (by decide) mF_X5_11 dX5_init_22 ?_
    refine lv_iload_n hx hb dX5_init_25 rfl (lv_at hl 0 rfl) ?_
    obtain ⟨⟨Mq44, aq44⟩, g_q44, hj⟩ := Option.bind_eq_some_iff.mp hj
    refine r_new (ci := 3) (fs := [.null, .int 0, .int 0, .int 0, .int 0, .int 0, .int 0]) cx hP hS g_q44 iX3 tyX3 tyX3_ok mL_X5_9 mN_X3 mZ_X3 rfl (fun j hj => by rcases (show j = 0 ∨ j = 1 ∨ j = 2 ∨ j = 3 ∨ j = 4 ∨ j = 5 ∨ j = 6 by omega) with rfl | rfl | rfl | rfl | rfl | rfl | rfl <;> rfl) (Nat.le_of_ble_eq_true rfl) (Nat.le_of_ble_eq_true rfl) dX5_init_26 (fun H hP hS => ?_)
    have hP : hp X Mq44 H := hP
    refine lv_dup hx hb dX5_init_29 rfl ?_
    obtain ⟨M45, g_M45, hj⟩ := Option.bind_eq_some_iff.mp hj
    refine f_V (k_I (b := aq44) (As := []) (n := 0) (rest := [.ref aq44, .int (8 : Int32), va_rf v43]) cx hl.1 hP hS (c_X3_init l X g Mq44 aq44 M45 g_M45) mC_X3_init mM_X5_15 mI_X3_init mZ_X3 rfl (by decide +kernel) ⟨Nat.le_of_ble_eq_true rfl, Nat.le_of_ble_eq_true rfl⟩ rfl rfl (by simp [cat_rf, Value.category]) dX5_init_30 ⟨Nat.le_of_ble_eq_true rfl, Nat.le_of_ble_eq_true rfl⟩) hS (fun H locs hP hS => ?_)
    have hP : hp X M45 H := hP
    refine W.eq (g2 := F0 m 33 ls [.ref aq44, .int (8 : Int32), va_rf v43]) rfl ?_
    refine W.widen (k := 19) (n := 220) (Nat.le_of_ble_eq_true rfl) (Nat.le_of_ble_eq_true rfl) ?_
    obtain ⟨b46, e_b46, hj⟩ := Option.bind_eq_some_iff.mp hj
    subst e_b46
    obtain ⟨M47, g_M47, hj⟩ := Option.bind_eq_some_iff.mp hj
    refine r_astR (v := some aq44) (k := 3) (ci := 3) (r := (RX3, TX3, 7)) cx hP hS rfl rfl g_M47 dX5_init_33 (fun H locs hP hS => ?_)
    refine lv_iinc (v := (9 : Int32)) (lv' := [(1, .int (9 : Int32)), (0, .ref a0)]) hx hb dX5_init_34 hl (k := 0) rfl (by decide) (by decide) rfl (fun ls hl => ?_)
    refine lv_goto (tgt := 15) hx hb dX5_init_37 (by decide) ?_
    refine lv_iload_n hx hb dX5_init_15 rfl (lv_at hl 0 rfl) ?_
    refine lv_bipush (v := 12) hx hb dX5_init_16 (by decide) ?_
    refine lv_icmp_gt (tgt := 40) hx hb dX5_init_18 (by decide) (fun h => absurd h (by decide)) (fun _ => ?_)
    refine lv_aload_n hx hb dX5_init_21 rfl (lv_at hl 1 rfl) ?_
    obtain ⟨v48, g_v48, hj⟩ := Option.bind_eq_some_iff.mp hj
    refine r_getR cx hP g_v48 iX5 rfl (by decide) mF_X5_11 dX5_init_22 ?_
    refine lv_iload_n hx hb dX5_init_25 rfl (lv_at hl 0 rfl) ?_
    obtain ⟨⟨Mq49, aq49⟩, g_q49, hj⟩ := Option.bind_eq_some_iff.mp hj
    refine r_new (ci := 3) (fs := [.null, .int 0, .int 0, .int 0, .int 0, .int 0, .int 0]) cx hP hS g_q49 iX3 tyX3 tyX3_ok mL_X5_9 mN_X3 mZ_X3 rfl (fun j hj => by rcases (show j = 0 ∨ j = 1 ∨ j = 2 ∨ j = 3 ∨ j = 4 ∨ j = 5 ∨ j = 6 by omega) with rfl | rfl | rfl | rfl | rfl | rfl | rfl <;> rfl) (Nat.le_of_ble_eq_true rfl) (Nat.le_of_ble_eq_true rfl) dX5_init_26 (fun H hP hS => ?_)
    have hP : hp X Mq49 H := hP
    refine lv_dup hx hb dX5_init_29 rfl ?_
    obtain ⟨M50, g_M50, hj⟩ := Option.bind_eq_some_iff.mp hj
    refine f_V (k_I (b := aq49) (As := []) (n := 0) (rest := [.ref aq49, .int (9 : Int32), va_rf v48]) cx hl.1 hP hS (c_X3_init l X g Mq49 aq49 M50 g_M50) mC_X3_init mM_X5_15 mI_X3_init mZ_X3 rfl (by decide +kernel) ⟨Nat.le_of_ble_eq_true rfl, Nat.le_of_ble_eq_true rfl⟩ rfl rfl (by simp [cat_rf, Value.category]) dX5_init_30 ⟨Nat.le_of_ble_eq_true rfl, Nat.le_of_ble_eq_true rfl⟩) hS (fun H locs hP hS => ?_)
    have hP : hp X M50 H := hP
    refine W.eq (g2 := F0 m 33 ls [.ref aq49, .int (9 : Int32), va_rf v48]) rfl ?_
    refine W.widen (k := 21) (n := 243) (Nat.le_of_ble_eq_true rfl) (Nat.le_of_ble_eq_true rfl) ?_
    obtain ⟨b51, e_b51, hj⟩ := Option.bind_eq_some_iff.mp hj
    subst e_b51
    obtain ⟨M52, g_M52, hj⟩ := Option.bind_eq_some_iff.mp hj
    refine r_astR (v := some aq49) (k := 3) (ci := 3) (r := (RX3, TX3, 7)) cx hP hS rfl rfl g_M52 dX5_init_33 (fun H locs hP hS => ?_)
    refine lv_iinc (v := (10 : Int32)) (lv' := [(1, .int (10 : Int32)), (0, .ref a0)]) hx hb dX5_init_34 hl (k := 0) rfl (by decide) (by decide) rfl (fun ls hl => ?_)
    refine lv_goto (tgt := 15) hx hb dX5_init_37 (by decide) ?_
    refine lv_iload_n hx hb dX5_init_15 rfl (lv_at hl 0 rfl) ?_
    refine lv_bipush (v := 12) hx hb dX5_init_16 (by decide) ?_
    refine lv_icmp_gt (tgt := 40) hx hb dX5_init_18 (by decide) (fun h => absurd h (by decide)) (fun _ => ?_)
    refine lv_aload_n hx hb dX5_init_21 rfl (lv_at hl 1 rfl) ?_
    obtain ⟨v53, g_v53, hj⟩ := Option.bind_eq_some_iff.mp hj
    refine r_getR cx hP g_v53 iX5 rfl (by decide) mF_X5_11 dX5_init_22 ?_
    refine lv_iload_n hx hb dX5_init_25 rfl (lv_at hl 0 rfl) ?_
    obtain ⟨⟨Mq54, aq54⟩, g_q54, hj⟩ := Option.bind_eq_some_iff.mp hj
    refine r_new (ci := 3) (fs := [.null, .int 0, .int 0, .int 0, .int 0, .int 0, .int 0]) cx hP hS g_q54 iX3 tyX3 tyX3_ok mL_X5_9 mN_X3 mZ_X3 rfl (fun j hj => by rcases (show j = 0 ∨ j = 1 ∨ j = 2 ∨ j = 3 ∨ j = 4 ∨ j = 5 ∨ j = 6 by omega) with rfl | rfl | rfl | rfl | rfl | rfl | rfl <;> rfl) (Nat.le_of_ble_eq_true rfl) (Nat.le_of_ble_eq_true rfl) dX5_init_26 (fun H hP hS => ?_)
    have hP : hp X Mq54 H := hP
    refine lv_dup hx hb dX5_init_29 rfl ?_
    obtain ⟨M55, g_M55, hj⟩ := Option.bind_eq_some_iff.mp hj
    refine f_V (k_I (b := aq54) (As := []) (n := 0) (rest := [.ref aq54, .int (10 : Int32), va_rf v53]) cx hl.1 hP hS (c_X3_init l X g Mq54 aq54 M55 g_M55) mC_X3_init mM_X5_15 mI_X3_init mZ_X3 rfl (by decide +kernel) ⟨Nat.le_of_ble_eq_true rfl, Nat.le_of_ble_eq_true rfl⟩ rfl rfl (by simp [cat_rf, Value.category]) dX5_init_30 ⟨Nat.le_of_ble_eq_true rfl, Nat.le_of_ble_eq_true rfl⟩) hS (fun H locs hP hS => ?_)
    have hP : hp X M55 H := hP
    refine W.eq (g2 := F0 m 33 ls [.ref aq54, .int (10 : Int32), va_rf v53]) rfl ?_
    refine W.widen (k := 23) (n := 266) (Nat.le_of_ble_eq_true rfl) (Nat.le_of_ble_eq_true rfl) ?_
    obtain ⟨b56, e_b56, hj⟩ := Option.bind_eq_some_iff.mp hj
    subst e_b56
    obtain ⟨M57, g_M57, hj⟩ := Option.bind_eq_some_iff.mp hj
    refine r_astR (v := some aq54) (k := 3) (ci := 3) (r := (RX3, TX3, 7)) cx hP hS rfl rfl g_M57 dX5_init_33 (fun H locs hP hS => ?_)
    refine lv_iinc (v := (11 : Int32)) (lv' := [(1, .int (11 : Int32)), (0, .ref a0)]) hx hb dX5_init_34 hl (k := 0) rfl (by decide) (by decide) rfl (fun ls hl => ?_)
    refine lv_goto (tgt := 15) hx hb dX5_init_37 (by decide) ?_
    refine lv_iload_n hx hb dX5_init_15 rfl (lv_at hl 0 rfl) ?_
    refine lv_bipush (v := 12) hx hb dX5_init_16 (by decide) ?_
    refine lv_icmp_gt (tgt := 40) hx hb dX5_init_18 (by decide) (fun h => absurd h (by decide)) (fun _ => ?_)
    refine lv_aload_n hx hb dX5_init_21 rfl (lv_at hl 1 rfl) ?_
    obtain ⟨v58, g_v58, hj⟩ := Option.bind_eq_some_iff.mp hj
    refine r_getR cx hP g_v58 iX5 rfl (by decide) mF_X5_11 dX5_init_22 ?_
    refine lv_iload_n hx hb dX5_init_25 rfl (lv_at hl 0 rfl) ?_
    obtain ⟨⟨Mq59, aq59⟩, g_q59, hj⟩ := Option.bind_eq_some_iff.mp hj
    refine r_new (ci := 3) (fs := [.null, .int 0, .int 0, .int 0, .int 0, .int 0, .int 0]) cx hP hS g_q59 iX3 tyX3 tyX3_ok mL_X5_9 mN_X3 mZ_X3 rfl (fun j hj => by rcases (show j = 0 ∨ j = 1 ∨ j = 2 ∨ j = 3 ∨ j = 4 ∨ j = 5 ∨ j = 6 by omega) with rfl | rfl | rfl | rfl | rfl | rfl | rfl <;> rfl) (Nat.le_of_ble_eq_true rfl) (Nat.le_of_ble_eq_true rfl) dX5_init_26 (fun H hP hS => ?_)
    have hP : hp X Mq59 H := hP
    refine lv_dup hx hb dX5_init_29 rfl ?_
    obtain ⟨M60, g_M60, hj⟩ := Option.bind_eq_some_iff.mp hj
    refine f_V (k_I (b := aq59) (As := []) (n := 0) (rest := [.ref aq59, .int (11 : Int32), va_rf v58]) cx hl.1 hP hS (c_X3_init l X g Mq59 aq59 M60 g_M60) mC_X3_init mM_X5_15 mI_X3_init mZ_X3 rfl (by decide +kernel) ⟨Nat.le_of_ble_eq_true rfl, Nat.le_of_ble_eq_true rfl⟩ rfl rfl (by simp [cat_rf, Value.category]) dX5_init_30 ⟨Nat.le_of_ble_eq_true rfl, Nat.le_of_ble_eq_true rfl⟩) hS (fun H locs hP hS => ?_)
    have hP : hp X M60 H := hP
    refine W.eq (g2 := F0 m 33 ls [.ref aq59, .int (11 : Int32), va_rf v58]) rfl ?_
    refine W.widen (k := 25) (n := 289) (Nat.le_of_ble_eq_true rfl) (Nat.le_of_ble_eq_true rfl) ?_
    obtain ⟨b61, e_b61, hj⟩ := Option.bind_eq_some_iff.mp hj
    subst e_b61
    obtain ⟨M62, g_M62, hj⟩ := Option.bind_eq_some_iff.mp hj
    refine r_astR (v := some aq59) (k := 3) (ci := 3) (r := (RX3, TX3, 7)) cx hP hS rfl rfl g_M62 dX5_init_33 (fun H locs hP hS => ?_)
    refine lv_iinc (v := (12 : Int32)) (lv' := [(1, .int (12 : Int32)), (0, .ref a0)]) hx hb dX5_init_34 hl (k := 0) rfl (by decide) (by decide) rfl (fun ls hl => ?_)
    refine lv_goto (tgt := 15) hx hb dX5_init_37 (by decide) ?_
    refine lv_iload_n hx hb dX5_init_15 rfl (lv_at hl 0 rfl) ?_
    refine lv_bipush (v := 12) hx hb dX5_init_16 (by decide) ?_
    refine lv_icmp_gt (tgt := 40) hx hb dX5_init_18 (by decide) (fun h => absurd h (by decide)) (fun _ => ?_)
    refine lv_aload_n hx hb dX5_init_21 rfl (lv_at hl 1 rfl) ?_
    obtain ⟨v63, g_v63, hj⟩ := Option.bind_eq_some_iff.mp hj
    refine r_getR cx hP g_v63 iX5 rfl (by decide) mF_X5_11 dX5_init_22 ?_
    refine lv_iload_n hx hb dX5_init_25 rfl (lv_at hl 0 rfl) ?_
    obtain ⟨⟨Mq64, aq64⟩, g_q64, hj⟩ := Option.bind_eq_some_iff.mp hj
    refine r_new (ci := 3) (fs := [.null, .int 0, .int 0, .int 0, .int 0, .int 0, .int 0]) cx hP hS g_q64 iX3 tyX3 tyX3_ok mL_X5_9 mN_X3 mZ_X3 rfl (fun j hj => by rcases (show j = 0 ∨ j = 1 ∨ j = 2 ∨ j = 3 ∨ j = 4 ∨ j = 5 ∨ j = 6 by omega) with rfl | rfl | rfl | rfl | rfl | rfl | rfl <;> rfl) (Nat.le_of_ble_eq_true rfl) (Nat.le_of_ble_eq_true rfl) dX5_init_26 (fun H hP hS => ?_)
    have hP : hp X Mq64 H := hP
    refine lv_dup hx hb dX5_init_29 rfl ?_
    obtain ⟨M65, g_M65, hj⟩ := Option.bind_eq_some_iff.mp hj
    refine f_V (k_I (b := aq64) (As := []) (n := 0) (rest := [.ref aq64, .int (12 : Int32), va_rf v63]) cx hl.1 hP hS (c_X3_init l X g Mq64 aq64 M65 g_M65) mC_X3_init mM_X5_15 mI_X3_init mZ_X3 rfl (by decide +kernel) ⟨Nat.le_of_ble_eq_true rfl, Nat.le_of_ble_eq_true rfl⟩ rfl rfl (by simp [cat_rf, Value.category]) dX5_init_30 ⟨Nat.le_of_ble_eq_true rfl, Nat.le_of_ble_eq_true rfl⟩) hS (fun H locs hP hS => ?_)
    have hP : hp X M65 H := hP
    refine W.eq (g2 := F0 m 33 ls [.ref aq64, .int (12 : Int32), va_rf v63]) rfl ?_
    refine W.widen (k := 27) (n := 312) (Nat.le_of_ble_eq_true rfl) (Nat.le_of_ble_eq_true rfl) ?_
    obtain ⟨b66, e_b66, hj⟩ := Option.bind_eq_some_iff.mp hj
    subst e_b66
    obtain ⟨M67, g_M67, hj⟩ := Option.bind_eq_some_iff.mp hj
    refine r_astR (v := some aq64) (k := 3) (ci := 3) (r := (RX3, TX3, 7)) cx hP hS rfl rfl g_M67 dX5_init_33 (fun H locs hP hS => ?_)
    refine lv_iinc (v := (13 : Int32)) (lv' := [(1, .int (13 : Int32)), (0, .ref a0)]) hx hb dX5_init_34 hl (k := 0) rfl (by decide) (by decide) rfl (fun ls hl => ?_)
    refine lv_goto (tgt := 15) hx hb dX5_init_37 (by decide) ?_
    refine lv_iload_n hx hb dX5_init_15 rfl (lv_at hl 0 rfl) ?_
    refine lv_bipush (v := 12) hx hb dX5_init_16 (by decide) ?_
    refine lv_icmp_gt (tgt := 40) hx hb dX5_init_18 (by decide) (fun _ => ?_) (fun h => absurd h (by decide))
    refine lv_aload_n hx hb dX5_init_40 rfl (lv_at hl 1 rfl) ?_
    refine lv_bipush (v := 10) hx hb dX5_init_41 (by decide) ?_
    obtain ⟨⟨Mq68, aq68⟩, g_q68, hj⟩ := Option.bind_eq_some_iff.mp hj
    refine r_newQ (N := 10) cx hP hS g_q68 mL_X5_16 cx.2.2.2.2.2.1.2.2.2 rfl (by decide) (by decide) (by decide) (Nat.le_of_ble_eq_true rfl) (Nat.le_of_ble_eq_true rfl) dX5_init_43 (fun H hP hS => ?_)
    have hP : hp X Mq68 H := hP
    obtain ⟨M69, g_M69, hj⟩ := Option.bind_eq_some_iff.mp hj
    refine r_putF cx hP hS g_M69 iX5 tyX5 tyX5_ok nmX5 rfl (by decide) mF_X5_18 rfl hnm rfl rfl rfl dX5_init_46 (fun H locs hP hS => ?_)
    refine lv_aload_n hx hb dX5_init_49 rfl (lv_at hl 1 rfl) ?_
    obtain ⟨⟨Mq70, aq70⟩, g_q70, hj⟩ := Option.bind_eq_some_iff.mp hj
    refine r_new (ci := 2) (fs := [.null, .null, .null, .null, .int 0]) cx hP hS g_q70 iX2 tyX2 tyX2_ok mL_X5_22 mN_X2 mZ_X2 rfl (fun j hj => by rcases (show j = 0 ∨ j = 1 ∨ j = 2 ∨ j = 3 ∨ j = 4 by omega) with rfl | rfl | rfl | rfl | rfl <;> rfl) (Nat.le_of_ble_eq_true rfl) (Nat.le_of_ble_eq_true rfl) dX5_init_50 (fun H hP hS => ?_)
    have hP : hp X Mq70 H := hP
    refine lv_dup hx hb dX5_init_53 rfl ?_
    obtain ⟨M71, g_M71, hj⟩ := Option.bind_eq_some_iff.mp hj
    refine f_V (k_I (b := aq70) (As := []) (n := 0) (rest := [.ref aq70, .ref a0]) cx hl.1 hP hS (c_X2_init l X g Mq70 aq70 M71 g_M71) mC_X2_init mM_X5_24 mI_X2_init mZ_X2 rfl (by decide +kernel) ⟨Nat.le_of_ble_eq_true rfl, Nat.le_of_ble_eq_true rfl⟩ rfl rfl (Nat.le_of_ble_eq_true rfl) dX5_init_54 ⟨Nat.le_of_ble_eq_true rfl, Nat.le_of_ble_eq_true rfl⟩) hS (fun H locs hP hS => ?_)
    have hP : hp X M71 H := hP
    refine W.eq (g2 := F0 m 57 ls [.ref aq70, .ref a0]) rfl ?_
    refine W.widen (k := 37) (n := 411) (Nat.le_of_ble_eq_true rfl) (Nat.le_of_ble_eq_true rfl) ?_
    obtain ⟨M72, g_M72, hj⟩ := Option.bind_eq_some_iff.mp hj
    refine r_putF cx hP hS g_M72 iX5 tyX5 tyX5_ok nmX5 rfl (by decide) mF_X5_25 rfl hnm rfl rfl rfl dX5_init_57 (fun H locs hP hS => ?_)
    refine lv_aload_n hx hb dX5_init_60 rfl (lv_at hl 1 rfl) ?_
    refine lv_null hx hb dX5_init_61 ?_
    obtain ⟨M73, g_M73, hj⟩ := Option.bind_eq_some_iff.mp hj
    refine r_put cx hP hS g_M73 iX5 tyX5 tyX5_ok nmX5 rfl (by decide) mF_X5_29 rfl (nar_rf _ _).1 (nar_rf _ _).2 dX5_init_62 (fun H locs hP hS => ?_)
    refine lv_aload_n hx hb dX5_init_65 rfl (lv_at hl 1 rfl) ?_
    refine lv_iconst (v := 0) hx hb dX5_init_66 (by decide) ?_
    obtain ⟨M74, g_M74, hj⟩ := Option.bind_eq_some_iff.mp hj
    refine r_put cx hP hS g_M74 iX5 tyX5 tyX5_ok nmX5 rfl (by decide) mF_X5_33 rfl rfl rfl dX5_init_67 (fun H locs hP hS => ?_)
    refine lv_aload_n hx hb dX5_init_70 rfl (lv_at hl 1 rfl) ?_
    refine lv_iconst (v := 0) hx hb dX5_init_71 (by decide) ?_
    obtain ⟨M75, g_M75, hj⟩ := Option.bind_eq_some_iff.mp hj
    refine r_put cx hP hS g_M75 iX5 tyX5 tyX5_ok nmX5 rfl (by decide) mF_X5_37 rfl rfl rfl dX5_init_72 (fun H locs hP hS => ?_)
    refine lv_aload_n hx hb dX5_init_75 rfl (lv_at hl 1 rfl) ?_
    refine lv_iconst (v := 0) hx hb dX5_init_76 (by decide) ?_
    obtain ⟨M76, g_M76, hj⟩ := Option.bind_eq_some_iff.mp hj
    refine r_put cx hP hS g_M76 iX5 tyX5 tyX5_ok nmX5 rfl (by decide) mF_X5_40 rfl rfl rfl dX5_init_77 (fun H locs hP hS => ?_)
    refine lv_aload_n hx hb dX5_init_80 rfl (lv_at hl 1 rfl) ?_
    refine lv_iconst (v := 0) hx hb dX5_init_81 (by decide) ?_
    obtain ⟨M77, g_M77, hj⟩ := Option.bind_eq_some_iff.mp hj
    refine r_put cx hP hS g_M77 iX5 tyX5 tyX5_ok nmX5 rfl (by decide) mF_X5_43 rfl rfl rfl dX5_init_82 (fun H locs hP hS => ?_)
    exact t_V cx hr hlocks hP hS (Option.some.inj hj) (Nat.le_of_ble_eq_true rfl) (Nat.le_of_ble_eq_true rfl) dX5_init_85
  exact hgo _ _ hP hS
