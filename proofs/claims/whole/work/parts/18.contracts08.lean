set_option maxHeartbeats 4000000 in
set_option maxRecDepth 100000 in
theorem c_X5_input (l : Launch) (X : hX) (g : Nat) (M : hm) (a0 : Nat) (a1 : Int32) (RR : hm × Int32) (hj : j_X5_input g M a0 a1 = some RR) : Ct l X yX5_input cX5_input 2 (some .int) { frames := 6, cells := 3, slots := 26, locals := 157 } [.ref a0, .int a1] M (qI X RR) := by
  refine h_enter (own := RX5) (by decide) rfl (Nat.le_of_ble_eq_true rfl) ?_
  intro p e s m below meth c ls cx hr hlocks hnm hP hS hl
  have hx := cx.1
  have hb := cx.2.1
  have hl : lv_has ls 2 [(0, .ref a0), (1, .int a1)] := hl
  unfold j_X5_input at hj
  have hgo : ∀ (H : Heap) (locs : List Loc), hp X M H → va_S (hA X) s.heap H locs → W p l e ({ frames := 6, cells := 3, slots := 26, locals := 157 } : Room) s m _ below meth c H locs 0 0 (MQ below (qI X RR) _ s 3 26 (hA X)) (F0 m 0 ls []) := by
    have J_26 : ∀ (M : hm) (H : Heap) (locs : List Loc) (ls : Array Slot), j_X5_input_26 g M = some RR → hp X M H → va_S (hA X) s.heap H locs → lv_has ls 2 [] → W p l e ({ frames := 6, cells := 3, slots := 26, locals := 157 } : Room) s m _ below meth c H locs 0 0 (MQ below (qI X RR) _ s 3 26 (hA X)) (F0 m 26 ls []) := by
      intro M H locs ls hj hP hS hl
      unfold j_X5_input_26 at hj
      refine lv_iconst (v := 0) hx hb dX5_input_26 (by decide) ?_
      exact t_I cx hr hlocks hP hS (Option.some.inj hj) (Nat.le_of_ble_eq_true rfl) (Nat.le_of_ble_eq_true rfl) dX5_input_27
    intro H locs hP hS
    refine lv_iload_n hx hb dX5_input_0 rfl (lv_at hl 1 rfl) ?_
    obtain ⟨v1, g_v1, hj⟩ := Option.bind_eq_some_iff.mp hj
    refine f_I (k_S (As := [.int a1]) (n := 1) (rest := []) cx hl.1 hP hS (c_X5_isColumn l X g M a1 v1 g_v1) mC_X5_isColumn mM_X5_86 mT_X5_isColumn mZ_X5 (by decide +kernel) ⟨Nat.le_of_ble_eq_true rfl, Nat.le_of_ble_eq_true rfl⟩ rfl rfl (Nat.le_of_ble_eq_true rfl) dX5_input_1 ⟨Nat.le_of_ble_eq_true rfl, Nat.le_of_ble_eq_true rfl⟩) hS (fun H locs hP hS => ?_)
    have hP : hp X M H := hP
    refine W.eq (g2 := F0 m 4 ls [.int v1]) rfl ?_
    refine W.widen (k := 0) (n := 0) (Nat.le_of_ble_eq_true rfl) (Nat.le_of_ble_eq_true rfl) ?_
    refine lv_if_eq (tgt := 26) hx hb dX5_input_4 (by decide) (fun c2 => ?_) (fun c2 => ?_)
    · have hj := if_t c2 hj
      exact J_26 M H locs ls hj hP hS (lv_sub hl [] rfl)
    · have hj := if_f c2 hj
      refine lv_aload_n hx hb dX5_input_7 rfl (lv_at hl 0 rfl) ?_
      obtain ⟨v3, g_v3, hj⟩ := Option.bind_eq_some_iff.mp hj
      refine r_getR cx hP g_v3 iX5 rfl (by decide) mF_X5_11 dX5_input_8 ?_
      refine lv_iload_n hx hb dX5_input_11 rfl (lv_at hl 1 rfl) ?_
      obtain ⟨b4, e_b4, hj⟩ := Option.bind_eq_some_iff.mp hj
      subst e_b4
      obtain ⟨v5, g_v5, hj⟩ := Option.bind_eq_some_iff.mp hj
      refine r_aldR cx hP (k := 3) rfl g_v5 dX5_input_12 ?_
      obtain ⟨b6, e_b6, hj⟩ := Option.bind_eq_some_iff.mp hj
      subst e_b6
      obtain ⟨_, o7, hj⟩ := Option.bind_eq_some_iff.mp hj
      obtain ⟨v8, g_v8, hj⟩ := Option.bind_eq_some_iff.mp hj
      refine f_I (k_V (b := b6) (As := []) (n := 0) (rest := []) cx hl.1 hP hS (c_X3_hasFormula l X g M b6 v8 g_v8) o7 rfl mC_X3_hasFormula mM_X5_104 mI_X3_hasFormula mS_X3_hasFormula mZ_X3 (by decide +kernel) ⟨Nat.le_of_ble_eq_true rfl, Nat.le_of_ble_eq_true rfl⟩ rfl rfl (Nat.le_of_ble_eq_true rfl) dX5_input_13 ⟨Nat.le_of_ble_eq_true rfl, Nat.le_of_ble_eq_true rfl⟩) hS (fun H locs hP hS => ?_)
      have hP : hp X M H := hP
      refine W.eq (g2 := F0 m 16 ls [.int v8]) rfl ?_
      refine W.widen (k := 0) (n := 0) (Nat.le_of_ble_eq_true rfl) (Nat.le_of_ble_eq_true rfl) ?_
      refine lv_if_eq (tgt := 26) hx hb dX5_input_16 (by decide) (fun c9 => ?_) (fun c9 => ?_)
      · have hj := if_t c9 hj
        exact J_26 M H locs ls hj hP hS (lv_sub hl [] rfl)
      · have hj := if_f c9 hj
        refine lv_aload_n hx hb dX5_input_19 rfl (lv_at hl 0 rfl) ?_
        obtain ⟨_, o10, hj⟩ := Option.bind_eq_some_iff.mp hj
        obtain ⟨v11, g_v11, hj⟩ := Option.bind_eq_some_iff.mp hj
        refine f_I (k_V (b := a0) (As := []) (n := 0) (rest := []) cx hl.1 hP hS (c_X5_isFull l X g M a0 v11 g_v11) o10 rfl mC_X5_isFull mM_X5_82 mI_X5_isFull mS_X5_isFull mZ_X5 (by decide +kernel) ⟨Nat.le_of_ble_eq_true rfl, Nat.le_of_ble_eq_true rfl⟩ rfl rfl (Nat.le_of_ble_eq_true rfl) dX5_input_20 ⟨Nat.le_of_ble_eq_true rfl, Nat.le_of_ble_eq_true rfl⟩) hS (fun H locs hP hS => ?_)
        have hP : hp X M H := hP
        refine W.eq (g2 := F0 m 23 ls [.int v11]) rfl ?_
        refine W.widen (k := 0) (n := 0) (Nat.le_of_ble_eq_true rfl) (Nat.le_of_ble_eq_true rfl) ?_
        refine lv_if_eq (tgt := 28) hx hb dX5_input_23 (by decide) (fun c12 => ?_) (fun c12 => ?_)
        · have hj := if_t c12 hj
          refine lv_aload_n hx hb dX5_input_28 rfl (lv_at hl 0 rfl) ?_
          obtain ⟨_, o13, hj⟩ := Option.bind_eq_some_iff.mp hj
          obtain ⟨M14, g_M14, hj⟩ := Option.bind_eq_some_iff.mp hj
          refine f_V (k_V (b := a0) (As := []) (n := 0) (rest := []) cx hl.1 hP hS (c_X5_settle l X g M a0 M14 g_M14) o13 rfl mC_X5_settle mM_X5_107 mI_X5_settle mS_X5_settle mZ_X5 (by decide +kernel) ⟨Nat.le_of_ble_eq_true rfl, Nat.le_of_ble_eq_true rfl⟩ rfl rfl (Nat.le_of_ble_eq_true rfl) dX5_input_29 ⟨Nat.le_of_ble_eq_true rfl, Nat.le_of_ble_eq_true rfl⟩) hS (fun H locs hP hS => ?_)
          have hP : hp X M14 H := hP
          refine W.eq (g2 := F0 m 32 ls []) rfl ?_
          refine W.widen (k := 0) (n := 0) (Nat.le_of_ble_eq_true rfl) (Nat.le_of_ble_eq_true rfl) ?_
          refine lv_aload_n hx hb dX5_input_32 rfl (lv_at hl 0 rfl) ?_
          refine lv_iload_n hx hb dX5_input_33 rfl (lv_at hl 1 rfl) ?_
          obtain ⟨_, o15, hj⟩ := Option.bind_eq_some_iff.mp hj
          obtain ⟨⟨Mq16, vq16⟩, g_q16, hj⟩ := Option.bind_eq_some_iff.mp hj
          refine f_R (k_V (b := a0) (As := [.int a1]) (n := 1) (rest := []) cx hl.1 hP hS (c_X5_changed l X g M14 a0 a1 (Mq16, vq16) g_q16) o15 rfl mC_X5_changed mM_X5_54 mI_X5_changed mS_X5_changed mZ_X5 (by decide +kernel) ⟨Nat.le_of_ble_eq_true rfl, Nat.le_of_ble_eq_true rfl⟩ rfl rfl (Nat.le_of_ble_eq_true rfl) dX5_input_34 ⟨Nat.le_of_ble_eq_true rfl, Nat.le_of_ble_eq_true rfl⟩) hS (fun H locs hP hS => ?_)
          have hP : hp X Mq16 H := hP
          refine W.eq (g2 := F0 m 37 ls [va_rf vq16]) rfl ?_
          refine W.widen (k := 3) (n := 26) (Nat.le_of_ble_eq_true rfl) (Nat.le_of_ble_eq_true rfl) ?_
          refine lv_iconst (v := -1) hx hb dX5_input_37 (by decide) ?_
          obtain ⟨b17, e_b17, hj⟩ := Option.bind_eq_some_iff.mp hj
          subst e_b17
          obtain ⟨M18, g_M18, hj⟩ := Option.bind_eq_some_iff.mp hj
          refine r_put cx hP hS g_M18 iX3 tyX3 tyX3_ok nmX3 rfl (by decide) mF_X5_92 rfl rfl rfl dX5_input_38 (fun H locs hP hS => ?_)
          refine lv_iconst (v := 1) hx hb dX5_input_41 (by decide) ?_
          exact t_I cx hr hlocks hP hS (Option.some.inj hj) (Nat.le_of_ble_eq_true rfl) (Nat.le_of_ble_eq_true rfl) dX5_input_42
        · have hj := if_f c12 hj
          exact J_26 M H locs ls hj hP hS (lv_sub hl [] rfl)
  exact hgo _ _ hP hS
set_option maxHeartbeats 4000000 in
set_option maxRecDepth 100000 in
theorem c_X5_isBlank (l : Launch) (X : hX) (g : Nat) (M : hm) (a0 : Nat) (a1 : Int32) (a2 : Int32) (RR : hm × Int32) (hj : j_X5_isBlank g M a0 a1 a2 = some RR) : Ct l X yX5_isBlank cX5_isBlank 3 (some .boolean) { frames := 6, cells := 0, slots := 0, locals := 157 } [.ref a0, .int a1, .int a2] M (qI X RR) := by
  refine h_enter (own := RX5) (by decide) rfl (Nat.le_of_ble_eq_true rfl) ?_
  intro p e s m below meth c ls cx hr hlocks hnm hP hS hl
  have hx := cx.1
  have hb := cx.2.1
  have hl : lv_has ls 3 [(0, .ref a0), (1, .int a1), (2, .int a2)] := hl
  unfold j_X5_isBlank at hj
  have hgo : ∀ (H : Heap) (locs : List Loc), hp X M H → va_S (hA X) s.heap H locs → W p l e ({ frames := 6, cells := 0, slots := 0, locals := 157 } : Room) s m _ below meth c H locs 0 0 (MQ below (qI X RR) _ s 0 0 (hA X)) (F0 m 0 ls []) := by
    have J_36 : ∀ (M : hm) (s0 : Int32) (H : Heap) (locs : List Loc) (ls : Array Slot), j_X5_isBlank_36 g M s0 = some RR → hp X M H → va_S (hA X) s.heap H locs → lv_has ls 3 [] → W p l e ({ frames := 6, cells := 0, slots := 0, locals := 157 } : Room) s m _ below meth c H locs 0 0 (MQ below (qI X RR) _ s 0 0 (hA X)) (F0 m 36 ls [.int s0]) := by
      intro M s0 H locs ls hj hP hS hl
      unfold j_X5_isBlank_36 at hj
      obtain ⟨z1, g_z1, hj⟩ := Option.bind_eq_some_iff.mp hj
      exact t_Z cx hr hlocks hP hS (zb_eq g_z1).1 (Option.some.inj hj) (Nat.le_of_ble_eq_true rfl) (Nat.le_of_ble_eq_true rfl) dX5_isBlank_36
    have J_35 : ∀ (M : hm) (H : Heap) (locs : List Loc) (ls : Array Slot), j_X5_isBlank_35 g M = some RR → hp X M H → va_S (hA X) s.heap H locs → lv_has ls 3 [] → W p l e ({ frames := 6, cells := 0, slots := 0, locals := 157 } : Room) s m _ below meth c H locs 0 0 (MQ below (qI X RR) _ s 0 0 (hA X)) (F0 m 35 ls []) := by
      intro M H locs ls hj hP hS hl
      unfold j_X5_isBlank_35 at hj
      refine lv_iconst (v := 0) hx hb dX5_isBlank_35 (by decide) ?_
      exact J_36 M (0 : Int32) H locs ls hj hP hS (lv_sub hl [] rfl)
    intro H locs hP hS
    refine lv_aload_n hx hb dX5_isBlank_0 rfl (lv_at hl 0 rfl) ?_
    obtain ⟨_, o2, hj⟩ := Option.bind_eq_some_iff.mp hj
    obtain ⟨M3, g_M3, hj⟩ := Option.bind_eq_some_iff.mp hj
    refine f_V (k_V (b := a0) (As := []) (n := 0) (rest := []) cx hl.1 hP hS (c_X5_settle l X g M a0 M3 g_M3) o2 rfl mC_X5_settle mM_X5_107 mI_X5_settle mS_X5_settle mZ_X5 (by decide +kernel) ⟨Nat.le_of_ble_eq_true rfl, Nat.le_of_ble_eq_true rfl⟩ rfl rfl (Nat.le_of_ble_eq_true rfl) dX5_isBlank_1 ⟨Nat.le_of_ble_eq_true rfl, Nat.le_of_ble_eq_true rfl⟩) hS (fun H locs hP hS => ?_)
    have hP : hp X M3 H := hP
    refine W.eq (g2 := F0 m 4 ls []) rfl ?_
    refine W.widen (k := 0) (n := 0) (Nat.le_of_ble_eq_true rfl) (Nat.le_of_ble_eq_true rfl) ?_
    refine lv_iload_n hx hb dX5_isBlank_4 rfl (lv_at hl 1 rfl) ?_
    obtain ⟨v4, g_v4, hj⟩ := Option.bind_eq_some_iff.mp hj
    refine f_I (k_S (As := [.int a1]) (n := 1) (rest := []) cx hl.1 hP hS (c_X5_isColumn l X g M3 a1 v4 g_v4) mC_X5_isColumn mM_X5_86 mT_X5_isColumn mZ_X5 (by decide +kernel) ⟨Nat.le_of_ble_eq_true rfl, Nat.le_of_ble_eq_true rfl⟩ rfl rfl (Nat.le_of_ble_eq_true rfl) dX5_isBlank_5 ⟨Nat.le_of_ble_eq_true rfl, Nat.le_of_ble_eq_true rfl⟩) hS (fun H locs hP hS => ?_)
    have hP : hp X M3 H := hP
    refine W.eq (g2 := F0 m 8 ls [.int v4]) rfl ?_
    refine W.widen (k := 0) (n := 0) (Nat.le_of_ble_eq_true rfl) (Nat.le_of_ble_eq_true rfl) ?_
    refine lv_if_eq (tgt := 35) hx hb dX5_isBlank_8 (by decide) (fun c5 => ?_) (fun c5 => ?_)
    · have hj := if_t c5 hj
      exact J_35 M3 H locs ls hj hP hS (lv_sub hl [] rfl)
    · have hj := if_f c5 hj
      refine lv_iload_n hx hb dX5_isBlank_11 rfl (lv_at hl 2 rfl) ?_
      obtain ⟨v6, g_v6, hj⟩ := Option.bind_eq_some_iff.mp hj
      refine f_I (k_S (As := [.int a2]) (n := 1) (rest := []) cx hl.1 hP hS (c_X5_isPlace l X g M3 a2 v6 g_v6) mC_X5_isPlace mM_X5_153 mT_X5_isPlace mZ_X5 (by decide +kernel) ⟨Nat.le_of_ble_eq_true rfl, Nat.le_of_ble_eq_true rfl⟩ rfl rfl (Nat.le_of_ble_eq_true rfl) dX5_isBlank_12 ⟨Nat.le_of_ble_eq_true rfl, Nat.le_of_ble_eq_true rfl⟩) hS (fun H locs hP hS => ?_)
      have hP : hp X M3 H := hP
      refine W.eq (g2 := F0 m 15 ls [.int v6]) rfl ?_
      refine W.widen (k := 0) (n := 0) (Nat.le_of_ble_eq_true rfl) (Nat.le_of_ble_eq_true rfl) ?_
      refine lv_if_eq (tgt := 35) hx hb dX5_isBlank_15 (by decide) (fun c7 => ?_) (fun c7 => ?_)
      · have hj := if_t c7 hj
        exact J_35 M3 H locs ls hj hP hS (lv_sub hl [] rfl)
      · have hj := if_f c7 hj
        refine lv_aload_n hx hb dX5_isBlank_18 rfl (lv_at hl 0 rfl) ?_
        obtain ⟨v8, g_v8, hj⟩ := Option.bind_eq_some_iff.mp hj
        refine r_getR cx hP g_v8 iX5 rfl (by decide) mF_X5_11 dX5_isBlank_19 ?_
        refine lv_iload_n hx hb dX5_isBlank_22 rfl (lv_at hl 1 rfl) ?_
        obtain ⟨b9, e_b9, hj⟩ := Option.bind_eq_some_iff.mp hj
        subst e_b9
        obtain ⟨v10, g_v10, hj⟩ := Option.bind_eq_some_iff.mp hj
        refine r_aldR cx hP (k := 3) rfl g_v10 dX5_isBlank_23 ?_
        refine lv_iload_n hx hb dX5_isBlank_24 rfl (lv_at hl 2 rfl) ?_
        obtain ⟨b11, e_b11, hj⟩ := Option.bind_eq_some_iff.mp hj
        subst e_b11
        obtain ⟨_, o12, hj⟩ := Option.bind_eq_some_iff.mp hj
        obtain ⟨v13, g_v13, hj⟩ := Option.bind_eq_some_iff.mp hj
        refine f_I (k_V (b := b11) (As := [.int a2]) (n := 1) (rest := []) cx hl.1 hP hS (c_X3_blankAt l X g M3 b11 a2 v13 g_v13) o12 rfl mC_X3_blankAt mM_X5_156 mI_X3_blankAt mS_X3_blankAt mZ_X3 (by decide +kernel) ⟨Nat.le_of_ble_eq_true rfl, Nat.le_of_ble_eq_true rfl⟩ rfl rfl (Nat.le_of_ble_eq_true rfl) dX5_isBlank_25 ⟨Nat.le_of_ble_eq_true rfl, Nat.le_of_ble_eq_true rfl⟩) hS (fun H locs hP hS => ?_)
        have hP : hp X M3 H := hP
        refine W.eq (g2 := F0 m 28 ls [.int v13]) rfl ?_
        refine W.widen (k := 0) (n := 0) (Nat.le_of_ble_eq_true rfl) (Nat.le_of_ble_eq_true rfl) ?_
        refine lv_if_eq (tgt := 35) hx hb dX5_isBlank_28 (by decide) (fun c14 => ?_) (fun c14 => ?_)
        · have hj := if_t c14 hj
          exact J_35 M3 H locs ls hj hP hS (lv_sub hl [] rfl)
        · have hj := if_f c14 hj
          refine lv_iconst (v := 1) hx hb dX5_isBlank_31 (by decide) ?_
          refine lv_goto (tgt := 36) hx hb dX5_isBlank_32 (by decide) ?_
          exact J_36 M3 (1 : Int32) H locs ls hj hP hS (lv_sub hl [] rfl)
  exact hgo _ _ hP hS
set_option maxHeartbeats 4000000 in
set_option maxRecDepth 100000 in
theorem c_X5_isMinus (l : Launch) (X : hX) (g : Nat) (M : hm) (a0 : Nat) (a1 : Int32) (a2 : Int32) (RR : hm × Int32) (hj : j_X5_isMinus g M a0 a1 a2 = some RR) : Ct l X yX5_isMinus cX5_isMinus 3 (some .boolean) { frames := 6, cells := 0, slots := 0, locals := 157 } [.ref a0, .int a1, .int a2] M (qI X RR) := by
  refine h_enter (own := RX5) (by decide) rfl (Nat.le_of_ble_eq_true rfl) ?_
  intro p e s m below meth c ls cx hr hlocks hnm hP hS hl
  have hx := cx.1
  have hb := cx.2.1
  have hl : lv_has ls 3 [(0, .ref a0), (1, .int a1), (2, .int a2)] := hl
  unfold j_X5_isMinus at hj
  have hgo : ∀ (H : Heap) (locs : List Loc), hp X M H → va_S (hA X) s.heap H locs → W p l e ({ frames := 6, cells := 0, slots := 0, locals := 157 } : Room) s m _ below meth c H locs 0 0 (MQ below (qI X RR) _ s 0 0 (hA X)) (F0 m 0 ls []) := by
    have J_35 : ∀ (M : hm) (s0 : Int32) (H : Heap) (locs : List Loc) (ls : Array Slot), j_X5_isMinus_35 g M s0 = some RR → hp X M H → va_S (hA X) s.heap H locs → lv_has ls 3 [] → W p l e ({ frames := 6, cells := 0, slots := 0, locals := 157 } : Room) s m _ below meth c H locs 0 0 (MQ below (qI X RR) _ s 0 0 (hA X)) (F0 m 35 ls [.int s0]) := by
      intro M s0 H locs ls hj hP hS hl
      unfold j_X5_isMinus_35 at hj
      obtain ⟨z1, g_z1, hj⟩ := Option.bind_eq_some_iff.mp hj
      exact t_Z cx hr hlocks hP hS (zb_eq g_z1).1 (Option.some.inj hj) (Nat.le_of_ble_eq_true rfl) (Nat.le_of_ble_eq_true rfl) dX5_isMinus_35
    have J_34 : ∀ (M : hm) (H : Heap) (locs : List Loc) (ls : Array Slot), j_X5_isMinus_34 g M = some RR → hp X M H → va_S (hA X) s.heap H locs → lv_has ls 3 [] → W p l e ({ frames := 6, cells := 0, slots := 0, locals := 157 } : Room) s m _ below meth c H locs 0 0 (MQ below (qI X RR) _ s 0 0 (hA X)) (F0 m 34 ls []) := by
      intro M H locs ls hj hP hS hl
      unfold j_X5_isMinus_34 at hj
      refine lv_iconst (v := 0) hx hb dX5_isMinus_34 (by decide) ?_
      exact J_35 M (0 : Int32) H locs ls hj hP hS (lv_sub hl [] rfl)
    intro H locs hP hS
    refine lv_aload_n hx hb dX5_isMinus_0 rfl (lv_at hl 0 rfl) ?_
    obtain ⟨_, o2, hj⟩ := Option.bind_eq_some_iff.mp hj
    obtain ⟨M3, g_M3, hj⟩ := Option.bind_eq_some_iff.mp hj
    refine f_V (k_V (b := a0) (As := []) (n := 0) (rest := []) cx hl.1 hP hS (c_X5_settle l X g M a0 M3 g_M3) o2 rfl mC_X5_settle mM_X5_107 mI_X5_settle mS_X5_settle mZ_X5 (by decide +kernel) ⟨Nat.le_of_ble_eq_true rfl, Nat.le_of_ble_eq_true rfl⟩ rfl rfl (Nat.le_of_ble_eq_true rfl) dX5_isMinus_1 ⟨Nat.le_of_ble_eq_true rfl, Nat.le_of_ble_eq_true rfl⟩) hS (fun H locs hP hS => ?_)
    have hP : hp X M3 H := hP
    refine W.eq (g2 := F0 m 4 ls []) rfl ?_
    refine W.widen (k := 0) (n := 0) (Nat.le_of_ble_eq_true rfl) (Nat.le_of_ble_eq_true rfl) ?_
    refine lv_aload_n hx hb dX5_isMinus_4 rfl (lv_at hl 0 rfl) ?_
    refine lv_iload_n hx hb dX5_isMinus_5 rfl (lv_at hl 1 rfl) ?_
    refine lv_iload_n hx hb dX5_isMinus_6 rfl (lv_at hl 2 rfl) ?_
    obtain ⟨_, o4, hj⟩ := Option.bind_eq_some_iff.mp hj
    obtain ⟨v5, g_v5, hj⟩ := Option.bind_eq_some_iff.mp hj
    refine f_I (k_V (b := a0) (As := [.int a1, .int a2]) (n := 2) (rest := []) cx hl.1 hP hS (c_X5_isNumber l X g M3 a0 a1 a2 v5 g_v5) o4 rfl mC_X5_isNumber mM_X5_146 mI_X5_isNumber mS_X5_isNumber mZ_X5 (by decide +kernel) ⟨Nat.le_of_ble_eq_true rfl, Nat.le_of_ble_eq_true rfl⟩ rfl rfl (Nat.le_of_ble_eq_true rfl) dX5_isMinus_7 ⟨Nat.le_of_ble_eq_true rfl, Nat.le_of_ble_eq_true rfl⟩) hS (fun H locs hP hS => ?_)
    have hP : hp X M3 H := hP
    refine W.eq (g2 := F0 m 10 ls [.int v5]) rfl ?_
    refine W.widen (k := 0) (n := 0) (Nat.le_of_ble_eq_true rfl) (Nat.le_of_ble_eq_true rfl) ?_
    refine lv_if_eq (tgt := 34) hx hb dX5_isMinus_10 (by decide) (fun c6 => ?_) (fun c6 => ?_)
    · have hj := if_t c6 hj
      exact J_34 M3 H locs ls hj hP hS (lv_sub hl [] rfl)
    · have hj := if_f c6 hj
      refine lv_aload_n hx hb dX5_isMinus_13 rfl (lv_at hl 0 rfl) ?_
      obtain ⟨v7, g_v7, hj⟩ := Option.bind_eq_some_iff.mp hj
      refine r_getR cx hP g_v7 iX5 rfl (by decide) mF_X5_11 dX5_isMinus_14 ?_
      refine lv_iload_n hx hb dX5_isMinus_17 rfl (lv_at hl 1 rfl) ?_
      obtain ⟨b8, e_b8, hj⟩ := Option.bind_eq_some_iff.mp hj
      subst e_b8
      obtain ⟨v9, g_v9, hj⟩ := Option.bind_eq_some_iff.mp hj
      refine r_aldR cx hP (k := 3) rfl g_v9 dX5_isMinus_18 ?_
      obtain ⟨b10, e_b10, hj⟩ := Option.bind_eq_some_iff.mp hj
      subst e_b10
      obtain ⟨v11, g_v11, hj⟩ := Option.bind_eq_some_iff.mp hj
      refine r_getR cx hP g_v11 iX3 rfl (by decide) mF_X5_149 dX5_isMinus_19 ?_
      refine lv_iload_n hx hb dX5_isMinus_22 rfl (lv_at hl 2 rfl) ?_
      obtain ⟨b12, e_b12, hj⟩ := Option.bind_eq_some_iff.mp hj
      subst e_b12
      obtain ⟨v13, g_v13, hj⟩ := Option.bind_eq_some_iff.mp hj
      refine r_aldD cx hP g_v13 dX5_isMinus_23 ?_
      obtain ⟨v14, g_v14, hj⟩ := Option.bind_eq_some_iff.mp hj
      refine f_I (k_S (As := [.double v13]) (n := 1) (rest := []) cx hl.1 hP hS (c_X5_hasMinus l X g M3 v13 v14 g_v14) mC_X5_hasMinus mM_X5_159 mT_X5_hasMinus mZ_X5 (by decide +kernel) ⟨Nat.le_of_ble_eq_true rfl, Nat.le_of_ble_eq_true rfl⟩ rfl rfl (Nat.le_of_ble_eq_true rfl) dX5_isMinus_24 ⟨Nat.le_of_ble_eq_true rfl, Nat.le_of_ble_eq_true rfl⟩) hS (fun H locs hP hS => ?_)
      have hP : hp X M3 H := hP
      refine W.eq (g2 := F0 m 27 ls [.int v14]) rfl ?_
      refine W.widen (k := 0) (n := 0) (Nat.le_of_ble_eq_true rfl) (Nat.le_of_ble_eq_true rfl) ?_
      refine lv_if_eq (tgt := 34) hx hb dX5_isMinus_27 (by decide) (fun c15 => ?_) (fun c15 => ?_)
      · have hj := if_t c15 hj
        exact J_34 M3 H locs ls hj hP hS (lv_sub hl [] rfl)
      · have hj := if_f c15 hj
        refine lv_iconst (v := 1) hx hb dX5_isMinus_30 (by decide) ?_
        refine lv_goto (tgt := 35) hx hb dX5_isMinus_31 (by decide) ?_
        exact J_35 M3 (1 : Int32) H locs ls hj hP hS (lv_sub hl [] rfl)
  exact hgo _ _ hP hS
set_option maxHeartbeats 4000000 in
set_option maxRecDepth 100000 in
theorem c_X5_reading (l : Launch) (X : hX) (g : Nat) (M : hm) (a0 : Nat) (a1 : Int32) (a2 : Int32) (RR : hm × UInt64) (hj : j_X5_reading g M a0 a1 a2 = some RR) : Ct l X yX5_reading cX5_reading 3 (some .double) { frames := 6, cells := 0, slots := 0, locals := 157 } [.ref a0, .int a1, .int a2] M (qD X RR) := by
  refine h_enter (own := RX5) (by decide) rfl (Nat.le_of_ble_eq_true rfl) ?_
  intro p e s m below meth c ls cx hr hlocks hnm hP hS hl
  have hx := cx.1
  have hb := cx.2.1
  have hl : lv_has ls 3 [(0, .ref a0), (1, .int a1), (2, .int a2)] := hl
  unfold j_X5_reading at hj
  have hgo : ∀ (H : Heap) (locs : List Loc), hp X M H → va_S (hA X) s.heap H locs → W p l e ({ frames := 6, cells := 0, slots := 0, locals := 157 } : Room) s m _ below meth c H locs 0 0 (MQ below (qD X RR) _ s 0 0 (hA X)) (F0 m 0 ls []) := by
    have J_28 : ∀ (M : hm) (s0 : UInt64) (H : Heap) (locs : List Loc) (ls : Array Slot), j_X5_reading_28 g M s0 = some RR → hp X M H → va_S (hA X) s.heap H locs → lv_has ls 3 [] → W p l e ({ frames := 6, cells := 0, slots := 0, locals := 157 } : Room) s m _ below meth c H locs 0 0 (MQ below (qD X RR) _ s 0 0 (hA X)) (F0 m 28 ls [.double s0]) := by
      intro M s0 H locs ls hj hP hS hl
      unfold j_X5_reading_28 at hj
      exact t_D cx hr hlocks hP hS (Option.some.inj hj) (Nat.le_of_ble_eq_true rfl) (Nat.le_of_ble_eq_true rfl) dX5_reading_28
    intro H locs hP hS
    refine lv_aload_n hx hb dX5_reading_0 rfl (lv_at hl 0 rfl) ?_
    obtain ⟨_, o1, hj⟩ := Option.bind_eq_some_iff.mp hj
    obtain ⟨M2, g_M2, hj⟩ := Option.bind_eq_some_iff.mp hj
    refine f_V (k_V (b := a0) (As := []) (n := 0) (rest := []) cx hl.1 hP hS (c_X5_settle l X g M a0 M2 g_M2) o1 rfl mC_X5_settle mM_X5_107 mI_X5_settle mS_X5_settle mZ_X5 (by decide +kernel) ⟨Nat.le_of_ble_eq_true rfl, Nat.le_of_ble_eq_true rfl⟩ rfl rfl (Nat.le_of_ble_eq_true rfl) dX5_reading_1 ⟨Nat.le_of_ble_eq_true rfl, Nat.le_of_ble_eq_true rfl⟩) hS (fun H locs hP hS => ?_)
    have hP : hp X M2 H := hP
    refine W.eq (g2 := F0 m 4 ls []) rfl ?_
    refine W.widen (k := 0) (n := 0) (Nat.le_of_ble_eq_true rfl) (Nat.le_of_ble_eq_true rfl) ?_
    refine lv_aload_n hx hb dX5_reading_4 rfl (lv_at hl 0 rfl) ?_
    refine lv_iload_n hx hb dX5_reading_5 rfl (lv_at hl 1 rfl) ?_
    refine lv_iload_n hx hb dX5_reading_6 rfl (lv_at hl 2 rfl) ?_
    obtain ⟨_, o3, hj⟩ := Option.bind_eq_some_iff.mp hj
    obtain ⟨v4, g_v4, hj⟩ := Option.bind_eq_some_iff.mp hj
    refine f_I (k_V (b := a0) (As := [.int a1, .int a2]) (n := 2) (rest := []) cx hl.1 hP hS (c_X5_isNumber l X g M2 a0 a1 a2 v4 g_v4) o3 rfl mC_X5_isNumber mM_X5_146 mI_X5_isNumber mS_X5_isNumber mZ_X5 (by decide +kernel) ⟨Nat.le_of_ble_eq_true rfl, Nat.le_of_ble_eq_true rfl⟩ rfl rfl (Nat.le_of_ble_eq_true rfl) dX5_reading_7 ⟨Nat.le_of_ble_eq_true rfl, Nat.le_of_ble_eq_true rfl⟩) hS (fun H locs hP hS => ?_)
    have hP : hp X M2 H := hP
    refine W.eq (g2 := F0 m 10 ls [.int v4]) rfl ?_
    refine W.widen (k := 0) (n := 0) (Nat.le_of_ble_eq_true rfl) (Nat.le_of_ble_eq_true rfl) ?_
    refine lv_if_eq (tgt := 27) hx hb dX5_reading_10 (by decide) (fun c5 => ?_) (fun c5 => ?_)
    · have hj := if_t c5 hj
      refine lv_dconst0 hx hb dX5_reading_27 ?_
      exact J_28 M2 FP.dconst0 H locs ls hj hP hS (lv_sub hl [] rfl)
    · have hj := if_f c5 hj
      refine lv_aload_n hx hb dX5_reading_13 rfl (lv_at hl 0 rfl) ?_
      obtain ⟨v6, g_v6, hj⟩ := Option.bind_eq_some_iff.mp hj
      refine r_getR cx hP g_v6 iX5 rfl (by decide) mF_X5_11 dX5_reading_14 ?_
      refine lv_iload_n hx hb dX5_reading_17 rfl (lv_at hl 1 rfl) ?_
      obtain ⟨b7, e_b7, hj⟩ := Option.bind_eq_some_iff.mp hj
      subst e_b7
      obtain ⟨v8, g_v8, hj⟩ := Option.bind_eq_some_iff.mp hj
      refine r_aldR cx hP (k := 3) rfl g_v8 dX5_reading_18 ?_
      obtain ⟨b9, e_b9, hj⟩ := Option.bind_eq_some_iff.mp hj
      subst e_b9
      obtain ⟨v10, g_v10, hj⟩ := Option.bind_eq_some_iff.mp hj
      refine r_getR cx hP g_v10 iX3 rfl (by decide) mF_X5_149 dX5_reading_19 ?_
      refine lv_iload_n hx hb dX5_reading_22 rfl (lv_at hl 2 rfl) ?_
      obtain ⟨b11, e_b11, hj⟩ := Option.bind_eq_some_iff.mp hj
      subst e_b11
      obtain ⟨v12, g_v12, hj⟩ := Option.bind_eq_some_iff.mp hj
      refine r_aldD cx hP g_v12 dX5_reading_23 ?_
      refine lv_goto (tgt := 28) hx hb dX5_reading_24 (by decide) ?_
      exact J_28 M2 v12 H locs ls hj hP hS (lv_sub hl [] rfl)
  exact hgo _ _ hP hS
set_option maxHeartbeats 4000000 in
set_option maxRecDepth 100000 in
theorem c_X5_ring (l : Launch) (X : hX) (g : Nat) (M : hm) (a0 : Nat) (RR : hm × Int32) (hj : j_X5_ring g M a0 = some RR) : Ct l X yX5_ring cX5_ring 4 (some .int) { frames := 6, cells := 0, slots := 0, locals := 157 } [.ref a0] M (qI X RR) := by
  refine h_enter (own := RX5) (by decide) rfl (Nat.le_of_ble_eq_true rfl) ?_
  intro p e s m below meth c ls cx hr hlocks hnm hP hS hl
  have hx := cx.1
  have hb := cx.2.1
  have hl : lv_has ls 4 [(0, .ref a0)] := hl
  unfold j_X5_ring at hj
  have hgo : ∀ (H : Heap) (locs : List Loc), hp X M H → va_S (hA X) s.heap H locs → W p l e ({ frames := 6, cells := 0, slots := 0, locals := 157 } : Room) s m _ below meth c H locs 0 0 (MQ below (qI X RR) _ s 0 0 (hA X)) (F0 m 0 ls []) := by
    have J_66 : ∀ (M : hm) (p1 : Int32) (H : Heap) (locs : List Loc) (ls : Array Slot), j_X5_ring_66 g M p1 = some RR → hp X M H → va_S (hA X) s.heap H locs → lv_has ls 4 [(1, .int p1)] → W p l e ({ frames := 6, cells := 0, slots := 0, locals := 157 } : Room) s m _ below meth c H locs 0 0 (MQ below (qI X RR) _ s 0 0 (hA X)) (F0 m 66 ls []) := by
      intro M p1 H locs ls hj hP hS hl
      unfold j_X5_ring_66 at hj
      refine lv_iload_n hx hb dX5_ring_66 rfl (lv_at hl 0 rfl) ?_
      exact t_I cx hr hlocks hP hS (Option.some.inj hj) (Nat.le_of_ble_eq_true rfl) (Nat.le_of_ble_eq_true rfl) dX5_ring_67
    have L_18 : ∀ (n18 : Nat) (M : hm) (p0 : Nat) (p1 : Int32) (p2 : Int32) (H : Heap) (locs : List Loc) (ls : Array Slot), j_X5_ring_18 g n18 M p0 p1 p2 = some RR → hp X M H → va_S (hA X) s.heap H locs → lv_has ls 4 [(0, .ref p0), (1, .int p1), (2, .int p2)] → W p l e ({ frames := 6, cells := 0, slots := 0, locals := 157 } : Room) s m _ below meth c H locs 0 0 (MQ below (qI X RR) _ s 0 0 (hA X)) (F0 m 18 ls []) := by
      intro n18
      induction n18 with
      | zero =>
        intro M p0 p1 p2 H locs ls hj
        exact no_zero hj
      | succ n18 ih_18 =>
        have J_60 : ∀ (M : hm) (p0 : Nat) (p1 : Int32) (p2 : Int32) (H : Heap) (locs : List Loc) (ls : Array Slot), j_X5_ring_60 g (fun M p0 p1 p2 => j_X5_ring_18 g n18 M p0 p1 p2) M p0 p1 p2 = some RR → hp X M H → va_S (hA X) s.heap H locs → lv_has ls 4 [(0, .ref p0), (1, .int p1), (2, .int p2)] → W p l e ({ frames := 6, cells := 0, slots := 0, locals := 157 } : Room) s m _ below meth c H locs 0 0 (MQ below (qI X RR) _ s 0 0 (hA X)) (F0 m 60 ls []) := by
          intro M p0 p1 p2 H locs ls hj hP hS hl
          unfold j_X5_ring_60 at hj
          refine lv_iinc (v := (p2 + (1 : Int32))) (lv' := [(2, .int (p2 + (1 : Int32))), (0, .ref p0), (1, .int p1)]) hx hb dX5_ring_60 hl (k := 2) rfl rfl (by decide) rfl (fun ls hl => ?_)
          refine lv_goto (tgt := 18) hx hb dX5_ring_63 (by decide) ?_
          exact ih_18 M p0 p1 (p2 + (1 : Int32)) H locs ls hj hP hS (lv_sub hl [1, 2, 0] rfl)
        intro M p0 p1 p2 H locs ls hj hP hS hl
        rw [j_X5_ring_18_s] at hj
        refine lv_iload_n hx hb dX5_ring_18 rfl (lv_at hl 2 rfl) ?_
        refine lv_aload_n hx hb dX5_ring_19 rfl (lv_at hl 0 rfl) ?_
        obtain ⟨v1, g_v1, hj⟩ := Option.bind_eq_some_iff.mp hj
        refine r_getI cx hP g_v1 iX5 rfl (by decide) mF_X5_37 dX5_ring_20 ?_
        refine lv_icmp_ge (tgt := 66) hx hb dX5_ring_23 (by decide) (fun c2 => ?_) (fun c2 => ?_)
        · have hj := if_t c2 hj
          exact J_66 M p1 H locs ls hj hP hS (lv_sub hl [1] rfl)
        · have hj := if_f c2 hj
          refine lv_aload_n hx hb dX5_ring_26 rfl (lv_at hl 0 rfl) ?_
          obtain ⟨v3, g_v3, hj⟩ := Option.bind_eq_some_iff.mp hj
          refine r_getR cx hP g_v3 iX5 rfl (by decide) mF_X5_18 dX5_ring_27 ?_
          refine lv_iload_n hx hb dX5_ring_30 rfl (lv_at hl 2 rfl) ?_
          obtain ⟨b4, e_b4, hj⟩ := Option.bind_eq_some_iff.mp hj
          subst e_b4
          obtain ⟨v5, g_v5, hj⟩ := Option.bind_eq_some_iff.mp hj
          refine r_aldR cx hP (k := 4) rfl g_v5 dX5_ring_31 ?_
          refine h_astore_n (lv' := [(3, va_rf v5), (0, .ref p0), (1, .int p1), (2, .int p2)]) hx hb dX5_ring_32 rfl hl (by decide) rfl (fun ls hl => ?_)
          refine h_aload_n hx hb dX5_ring_33 rfl (lv_at hl 0 rfl) ?_
          cases v5 with
          | none =>
            refine lv_ifnullN (tgt := 60) hx hb dX5_ring_34 (by decide) ?_
            exact J_60 M p0 p1 p2 H locs ls hj hP hS (lv_sub hl [1, 2, 3] rfl)
          | some b6 =>
            refine lv_ifnull hx hb dX5_ring_34 ?_
            refine lv_iload_n hx hb dX5_ring_37 rfl (lv_at hl 2 rfl) ?_
            refine lv_aload_n hx hb dX5_ring_38 rfl (lv_at hl 0 rfl) ?_
            refine lv_aload_n hx hb dX5_ring_39 rfl (lv_at hl 1 rfl) ?_
            refine lv_aload_n hx hb dX5_ring_40 rfl (lv_at hl 0 rfl) ?_
            obtain ⟨v7, g_v7, hj⟩ := Option.bind_eq_some_iff.mp hj
            refine r_getI cx hP g_v7 iX0 rfl (by decide) mF_X5_133 dX5_ring_41 ?_
            refine lv_aload_n hx hb dX5_ring_44 rfl (lv_at hl 0 rfl) ?_
            obtain ⟨v8, g_v8, hj⟩ := Option.bind_eq_some_iff.mp hj
            refine r_getI cx hP g_v8 iX0 rfl (by decide) mF_X5_136 dX5_ring_45 ?_
            refine lv_aload_n hx hb dX5_ring_48 rfl (lv_at hl 0 rfl) ?_
            obtain ⟨v9, g_v9, hj⟩ := Option.bind_eq_some_iff.mp hj
            refine r_getI cx hP g_v9 iX0 rfl (by decide) mF_X5_137 dX5_ring_49 ?_
            obtain ⟨_, o10, hj⟩ := Option.bind_eq_some_iff.mp hj
            obtain ⟨v11, g_v11, hj⟩ := Option.bind_eq_some_iff.mp hj
            refine f_I (k_V (b := p0) (As := [.int v7, .int v8, .int v9]) (n := 3) (rest := [.ref b6, .int p1]) cx hl.1 hP hS (c_X5_placesWhere l X g M p0 v7 v8 v9 v11 g_v11) o10 rfl mC_X5_placesWhere mM_X5_138 mI_X5_placesWhere mS_X5_placesWhere mZ_X5 (by decide +kernel) ⟨Nat.le_of_ble_eq_true rfl, Nat.le_of_ble_eq_true rfl⟩ rfl rfl (Nat.le_of_ble_eq_true rfl) dX5_ring_52 ⟨Nat.le_of_ble_eq_true rfl, Nat.le_of_ble_eq_true rfl⟩) hS (fun H locs hP hS => ?_)
            have hP : hp X M H := hP
            refine W.eq (g2 := F0 m 55 ls [.int v11, .ref b6, .int p1]) rfl ?_
            refine W.widen (k := 0) (n := 0) (Nat.le_of_ble_eq_true rfl) (Nat.le_of_ble_eq_true rfl) ?_
            obtain ⟨_, o12, hj⟩ := Option.bind_eq_some_iff.mp hj
            obtain ⟨⟨Mq13, vq13⟩, g_q13, hj⟩ := Option.bind_eq_some_iff.mp hj
            refine f_I (k_V (b := b6) (As := [.int v11]) (n := 1) (rest := [.int p1]) cx hl.1 hP hS (c_X0_look l X g M b6 v11 (Mq13, vq13) g_q13) o12 rfl mC_X0_look mM_X5_142 mI_X0_look mS_X0_look mZ_X0 (by decide +kernel) ⟨Nat.le_of_ble_eq_true rfl, Nat.le_of_ble_eq_true rfl⟩ rfl rfl (Nat.le_of_ble_eq_true rfl) dX5_ring_55 ⟨Nat.le_of_ble_eq_true rfl, Nat.le_of_ble_eq_true rfl⟩) hS (fun H locs hP hS => ?_)
            have hP : hp X Mq13 H := hP
            refine W.eq (g2 := F0 m 58 ls [.int vq13, .int p1]) rfl ?_
            refine W.widen (k := 0) (n := 0) (Nat.le_of_ble_eq_true rfl) (Nat.le_of_ble_eq_true rfl) ?_
            refine lv_iadd hx hb dX5_ring_58 ?_
            refine lv_istore_n (lv' := [(1, .int (p1 + vq13)), (3, .ref b6), (0, .ref p0), (2, .int p2)]) hx hb dX5_ring_59 rfl hl (by decide) rfl (fun ls hl => ?_)
            exact J_60 Mq13 p0 (p1 + vq13) p2 H locs ls hj hP hS (lv_sub hl [2, 0, 3] rfl)
    intro H locs hP hS
    refine lv_aload_n hx hb dX5_ring_0 rfl (lv_at hl 0 rfl) ?_
    obtain ⟨_, o14, hj⟩ := Option.bind_eq_some_iff.mp hj
    obtain ⟨M15, g_M15, hj⟩ := Option.bind_eq_some_iff.mp hj
    refine f_V (k_V (b := a0) (As := []) (n := 0) (rest := []) cx hl.1 hP hS (c_X5_settle l X g M a0 M15 g_M15) o14 rfl mC_X5_settle mM_X5_107 mI_X5_settle mS_X5_settle mZ_X5 (by decide +kernel) ⟨Nat.le_of_ble_eq_true rfl, Nat.le_of_ble_eq_true rfl⟩ rfl rfl (Nat.le_of_ble_eq_true rfl) dX5_ring_1 ⟨Nat.le_of_ble_eq_true rfl, Nat.le_of_ble_eq_true rfl⟩) hS (fun H locs hP hS => ?_)
    have hP : hp X M15 H := hP
    refine W.eq (g2 := F0 m 4 ls []) rfl ?_
    refine W.widen (k := 0) (n := 0) (Nat.le_of_ble_eq_true rfl) (Nat.le_of_ble_eq_true rfl) ?_
    refine lv_aload_n hx hb dX5_ring_4 rfl (lv_at hl 0 rfl) ?_
    refine lv_dup hx hb dX5_ring_5 rfl ?_
    obtain ⟨v16, g_v16, hj⟩ := Option.bind_eq_some_iff.mp hj
    refine r_getI cx hP g_v16 iX5 rfl (by decide) mF_X5_40 dX5_ring_6 ?_
    refine lv_iconst (v := 1) hx hb dX5_ring_9 (by decide) ?_
    refine lv_iadd hx hb dX5_ring_10 ?_
    obtain ⟨M17, g_M17, hj⟩ := Option.bind_eq_some_iff.mp hj
    refine r_put cx hP hS g_M17 iX5 tyX5 tyX5_ok nmX5 rfl (by decide) mF_X5_40 rfl rfl rfl dX5_ring_11 (fun H locs hP hS => ?_)
    refine lv_iconst (v := 0) hx hb dX5_ring_14 (by decide) ?_
    refine lv_istore_n (lv' := [(1, .int (0 : Int32)), (0, .ref a0)]) hx hb dX5_ring_15 rfl hl (by decide) rfl (fun ls hl => ?_)
    refine lv_iconst (v := 0) hx hb dX5_ring_16 (by decide) ?_
    refine lv_istore_n (lv' := [(2, .int (0 : Int32)), (1, .int (0 : Int32)), (0, .ref a0)]) hx hb dX5_ring_17 rfl hl (by decide) rfl (fun ls hl => ?_)
    exact L_18 g M17 a0 (0 : Int32) (0 : Int32) H locs ls hj hP hS (lv_sub hl [2, 1, 0] rfl)
  exact hgo _ _ hP hS
set_option maxHeartbeats 4000000 in
set_option maxRecDepth 100000 in
theorem c_X5_takesReading (l : Launch) (X : hX) (g : Nat) (M : hm) (a0 : Nat) (a1 : Int32) (a2 : Int32) (RR : Int32) (hj : j_X5_takesReading g M a0 a1 a2 = some RR) : Ct l X yX5_takesReading cX5_takesReading 3 (some .boolean) { frames := 1, cells := 0, slots := 0, locals := 20 } [.ref a0, .int a1, .int a2] M (qI X (M, RR)) := by
  refine h_enter (own := RX5) (by decide) rfl (Nat.le_of_ble_eq_true rfl) ?_
  intro p e s m below meth c ls cx hr hlocks hnm hP hS hl
  have hx := cx.1
  have hb := cx.2.1
  have hl : lv_has ls 3 [(0, .ref a0), (1, .int a1), (2, .int a2)] := hl
  unfold j_X5_takesReading at hj
  have hgo : ∀ (H : Heap) (locs : List Loc), hp X M H → va_S (hA X) s.heap H locs → W p l e ({ frames := 1, cells := 0, slots := 0, locals := 20 } : Room) s m _ below meth c H locs 0 0 (MQ below (qI X (M, RR)) _ s 0 0 (hA X)) (F0 m 0 ls []) := by
    have J_38 : ∀ (s0 : Int32) (H : Heap) (locs : List Loc) (ls : Array Slot), j_X5_takesReading_38 g M s0 = some RR → hp X M H → va_S (hA X) s.heap H locs → lv_has ls 3 [] → W p l e ({ frames := 1, cells := 0, slots := 0, locals := 20 } : Room) s m _ below meth c H locs 0 0 (MQ below (qI X (M, RR)) _ s 0 0 (hA X)) (F0 m 38 ls [.int s0]) := by
      intro s0 H locs ls hj hP hS hl
      unfold j_X5_takesReading_38 at hj
      obtain ⟨z1, g_z1, hj⟩ := Option.bind_eq_some_iff.mp hj
      exact t_Z cx hr hlocks hP hS (zb_eq g_z1).1 (congrArg (Prod.mk M) (Option.some.inj hj)) (Nat.le_of_ble_eq_true rfl) (Nat.le_of_ble_eq_true rfl) dX5_takesReading_38
    have J_37 : ∀ (H : Heap) (locs : List Loc) (ls : Array Slot), j_X5_takesReading_37 g M  = some RR → hp X M H → va_S (hA X) s.heap H locs → lv_has ls 3 [] → W p l e ({ frames := 1, cells := 0, slots := 0, locals := 20 } : Room) s m _ below meth c H locs 0 0 (MQ below (qI X (M, RR)) _ s 0 0 (hA X)) (F0 m 37 ls []) := by
      intro  H locs ls hj hP hS hl
      unfold j_X5_takesReading_37 at hj
      refine lv_iconst (v := 0) hx hb dX5_takesReading_37 (by decide) ?_
      exact J_38 (0 : Int32) H locs ls hj hP hS (lv_sub hl [] rfl)
    intro H locs hP hS
    refine lv_iload_n hx hb dX5_takesReading_0 rfl (lv_at hl 1 rfl) ?_
    obtain ⟨v2, g_v2, hj⟩ := Option.bind_eq_some_iff.mp hj
    refine f_I (k_S (As := [.int a1]) (n := 1) (rest := []) cx hl.1 hP hS (c_X5_isColumn l X g M a1 v2 g_v2) mC_X5_isColumn mM_X5_86 mT_X5_isColumn mZ_X5 (by decide +kernel) ⟨Nat.le_of_ble_eq_true rfl, Nat.le_of_ble_eq_true rfl⟩ rfl rfl (Nat.le_of_ble_eq_true rfl) dX5_takesReading_1 ⟨Nat.le_of_ble_eq_true rfl, Nat.le_of_ble_eq_true rfl⟩) hS (fun H locs hP hS => ?_)
    have hP : hp X M H := hP
    refine W.eq (g2 := F0 m 4 ls [.int v2]) rfl ?_
    refine W.widen (k := 0) (n := 0) (Nat.le_of_ble_eq_true rfl) (Nat.le_of_ble_eq_true rfl) ?_
    refine lv_if_eq (tgt := 37) hx hb dX5_takesReading_4 (by decide) (fun c3 => ?_) (fun c3 => ?_)
    · have hj := if_t c3 hj
      exact J_37  H locs ls hj hP hS (lv_sub hl [] rfl)
    · have hj := if_f c3 hj
      refine lv_iload_n hx hb dX5_takesReading_7 rfl (lv_at hl 2 rfl) ?_
      obtain ⟨v4, g_v4, hj⟩ := Option.bind_eq_some_iff.mp hj
      refine f_I (k_S (As := [.int a2]) (n := 1) (rest := []) cx hl.1 hP hS (c_X5_isPlace l X g M a2 v4 g_v4) mC_X5_isPlace mM_X5_153 mT_X5_isPlace mZ_X5 (by decide +kernel) ⟨Nat.le_of_ble_eq_true rfl, Nat.le_of_ble_eq_true rfl⟩ rfl rfl (Nat.le_of_ble_eq_true rfl) dX5_takesReading_8 ⟨Nat.le_of_ble_eq_true rfl, Nat.le_of_ble_eq_true rfl⟩) hS (fun H locs hP hS => ?_)
      have hP : hp X M H := hP
      refine W.eq (g2 := F0 m 11 ls [.int v4]) rfl ?_
      refine W.widen (k := 0) (n := 0) (Nat.le_of_ble_eq_true rfl) (Nat.le_of_ble_eq_true rfl) ?_
      refine lv_if_eq (tgt := 37) hx hb dX5_takesReading_11 (by decide) (fun c5 => ?_) (fun c5 => ?_)
      · have hj := if_t c5 hj
        exact J_37  H locs ls hj hP hS (lv_sub hl [] rfl)
      · have hj := if_f c5 hj
        refine lv_aload_n hx hb dX5_takesReading_14 rfl (lv_at hl 0 rfl) ?_
        obtain ⟨v6, g_v6, hj⟩ := Option.bind_eq_some_iff.mp hj
        refine r_getR cx hP g_v6 iX5 rfl (by decide) mF_X5_11 dX5_takesReading_15 ?_
        refine lv_iload_n hx hb dX5_takesReading_18 rfl (lv_at hl 1 rfl) ?_
        obtain ⟨b7, e_b7, hj⟩ := Option.bind_eq_some_iff.mp hj
        subst e_b7
        obtain ⟨v8, g_v8, hj⟩ := Option.bind_eq_some_iff.mp hj
        refine r_aldR cx hP (k := 3) rfl g_v8 dX5_takesReading_19 ?_
        obtain ⟨b9, e_b9, hj⟩ := Option.bind_eq_some_iff.mp hj
        subst e_b9
        obtain ⟨_, o10, hj⟩ := Option.bind_eq_some_iff.mp hj
        obtain ⟨v11, g_v11, hj⟩ := Option.bind_eq_some_iff.mp hj
        refine f_I (k_V (b := b9) (As := []) (n := 0) (rest := []) cx hl.1 hP hS (c_X3_hasFormula l X g M b9 v11 g_v11) o10 rfl mC_X3_hasFormula mM_X5_104 mI_X3_hasFormula mS_X3_hasFormula mZ_X3 (by decide +kernel) ⟨Nat.le_of_ble_eq_true rfl, Nat.le_of_ble_eq_true rfl⟩ rfl rfl (Nat.le_of_ble_eq_true rfl) dX5_takesReading_20 ⟨Nat.le_of_ble_eq_true rfl, Nat.le_of_ble_eq_true rfl⟩) hS (fun H locs hP hS => ?_)
        have hP : hp X M H := hP
        refine W.eq (g2 := F0 m 23 ls [.int v11]) rfl ?_
        refine W.widen (k := 0) (n := 0) (Nat.le_of_ble_eq_true rfl) (Nat.le_of_ble_eq_true rfl) ?_
        refine lv_if_ne (tgt := 37) hx hb dX5_takesReading_23 (by decide) (fun c12 => ?_) (fun c12 => ?_)
        · have hj := if_f c12 hj
          exact J_37  H locs ls hj hP hS (lv_sub hl [] rfl)
        · have hj := if_t c12 hj
          refine lv_aload_n hx hb dX5_takesReading_26 rfl (lv_at hl 0 rfl) ?_
          obtain ⟨_, o13, hj⟩ := Option.bind_eq_some_iff.mp hj
          obtain ⟨v14, g_v14, hj⟩ := Option.bind_eq_some_iff.mp hj
          refine f_I (k_V (b := a0) (As := []) (n := 0) (rest := []) cx hl.1 hP hS (c_X5_isFull l X g M a0 v14 g_v14) o13 rfl mC_X5_isFull mM_X5_82 mI_X5_isFull mS_X5_isFull mZ_X5 (by decide +kernel) ⟨Nat.le_of_ble_eq_true rfl, Nat.le_of_ble_eq_true rfl⟩ rfl rfl (Nat.le_of_ble_eq_true rfl) dX5_takesReading_27 ⟨Nat.le_of_ble_eq_true rfl, Nat.le_of_ble_eq_true rfl⟩) hS (fun H locs hP hS => ?_)
          have hP : hp X M H := hP
          refine W.eq (g2 := F0 m 30 ls [.int v14]) rfl ?_
          refine W.widen (k := 0) (n := 0) (Nat.le_of_ble_eq_true rfl) (Nat.le_of_ble_eq_true rfl) ?_
          refine lv_if_ne (tgt := 37) hx hb dX5_takesReading_30 (by decide) (fun c15 => ?_) (fun c15 => ?_)
          · have hj := if_f c15 hj
            exact J_37  H locs ls hj hP hS (lv_sub hl [] rfl)
          · have hj := if_t c15 hj
            refine lv_iconst (v := 1) hx hb dX5_takesReading_33 (by decide) ?_
            refine lv_goto (tgt := 38) hx hb dX5_takesReading_34 (by decide) ?_
            exact J_38 (1 : Int32) H locs ls hj hP hS (lv_sub hl [] rfl)
  exact hgo _ _ hP hS
set_option maxHeartbeats 4000000 in
set_option maxRecDepth 100000 in
theorem c_X5_set (l : Launch) (X : hX) (g : Nat) (M : hm) (a0 : Nat) (a1 : Int32) (a2 : Int32) (a3 : Int32) (a4 : Int32) (RR : hm × Int32) (hj : j_X5_set g M a0 a1 a2 a3 a4 = some RR) : Ct l X yX5_set cX5_set 5 (some .int) { frames := 4, cells := 3, slots := 26, locals := 76 } [.ref a0, .int a1, .int a2, .int a3, .int a4] M (qI X RR) := by
  refine h_enter (own := RX5) (by decide) rfl (Nat.le_of_ble_eq_true rfl) ?_
  intro p e s m below meth c ls cx hr hlocks hnm hP hS hl
  have hx := cx.1
  have hb := cx.2.1
  have hl : lv_has ls 5 [(0, .ref a0), (1, .int a1), (2, .int a2), (3, .int a3), (4, .int a4)] := hl
  unfold j_X5_set at hj
  have hgo : ∀ (H : Heap) (locs : List Loc), hp X M H → va_S (hA X) s.heap H locs → W p l e ({ frames := 4, cells := 3, slots := 26, locals := 76 } : Room) s m _ below meth c H locs 0 0 (MQ below (qI X RR) _ s 3 26 (hA X)) (F0 m 0 ls []) := by
    have J_17 : ∀ (M : hm) (H : Heap) (locs : List Loc) (ls : Array Slot), j_X5_set_17 g M = some RR → hp X M H → va_S (hA X) s.heap H locs → lv_has ls 5 [] → W p l e ({ frames := 4, cells := 3, slots := 26, locals := 76 } : Room) s m _ below meth c H locs 0 0 (MQ below (qI X RR) _ s 3 26 (hA X)) (F0 m 17 ls []) := by
      intro M H locs ls hj hP hS hl
      unfold j_X5_set_17 at hj
      refine lv_iconst (v := 0) hx hb dX5_set_17 (by decide) ?_
      exact t_I cx hr hlocks hP hS (Option.some.inj hj) (Nat.le_of_ble_eq_true rfl) (Nat.le_of_ble_eq_true rfl) dX5_set_18
    intro H locs hP hS
    refine lv_aload_n hx hb dX5_set_0 rfl (lv_at hl 0 rfl) ?_
    refine lv_iload_n hx hb dX5_set_1 rfl (lv_at hl 1 rfl) ?_
    refine lv_iload_n hx hb dX5_set_2 rfl (lv_at hl 2 rfl) ?_
    obtain ⟨_, o1, hj⟩ := Option.bind_eq_some_iff.mp hj
    obtain ⟨v2, g_v2, hj⟩ := Option.bind_eq_some_iff.mp hj
    refine f_I (k_V (b := a0) (As := [.int a1, .int a2]) (n := 2) (rest := []) cx hl.1 hP hS (c_X5_takesReading l X g M a0 a1 a2 v2 g_v2) o1 rfl mC_X5_takesReading mM_X5_46 mI_X5_takesReading mS_X5_takesReading mZ_X5 (by decide +kernel) ⟨Nat.le_of_ble_eq_true rfl, Nat.le_of_ble_eq_true rfl⟩ rfl rfl (Nat.le_of_ble_eq_true rfl) dX5_set_3 ⟨Nat.le_of_ble_eq_true rfl, Nat.le_of_ble_eq_true rfl⟩) hS (fun H locs hP hS => ?_)
    have hP : hp X M H := hP
    refine W.eq (g2 := F0 m 6 ls [.int v2]) rfl ?_
    refine W.widen (k := 0) (n := 0) (Nat.le_of_ble_eq_true rfl) (Nat.le_of_ble_eq_true rfl) ?_
    refine lv_if_eq (tgt := 17) hx hb dX5_set_6 (by decide) (fun c3 => ?_) (fun c3 => ?_)
    · have hj := if_t c3 hj
      exact J_17 M H locs ls hj hP hS (lv_sub hl [] rfl)
    · have hj := if_f c3 hj
      refine lv_iload hx hb dX5_set_9 (lv_at hl 4 rfl) ?_
      obtain ⟨v4, g_v4, hj⟩ := Option.bind_eq_some_iff.mp hj
      refine f_I (k_S (As := [.int a4]) (n := 1) (rest := []) cx hl.1 hP hS (c_X5_isExponent l X g M a4 v4 g_v4) mC_X5_isExponent mM_X5_50 mT_X5_isExponent mZ_X5 (by decide +kernel) ⟨Nat.le_of_ble_eq_true rfl, Nat.le_of_ble_eq_true rfl⟩ rfl rfl (Nat.le_of_ble_eq_true rfl) dX5_set_11 ⟨Nat.le_of_ble_eq_true rfl, Nat.le_of_ble_eq_true rfl⟩) hS (fun H locs hP hS => ?_)
      have hP : hp X M H := hP
      refine W.eq (g2 := F0 m 14 ls [.int v4]) rfl ?_
      refine W.widen (k := 0) (n := 0) (Nat.le_of_ble_eq_true rfl) (Nat.le_of_ble_eq_true rfl) ?_
      refine lv_if_ne (tgt := 19) hx hb dX5_set_14 (by decide) (fun c5 => ?_) (fun c5 => ?_)
      · have hj := if_f c5 hj
        refine lv_aload_n hx hb dX5_set_19 rfl (lv_at hl 0 rfl) ?_
        refine lv_iload_n hx hb dX5_set_20 rfl (lv_at hl 1 rfl) ?_
        obtain ⟨_, o6, hj⟩ := Option.bind_eq_some_iff.mp hj
        obtain ⟨⟨Mq7, vq7⟩, g_q7, hj⟩ := Option.bind_eq_some_iff.mp hj
        refine f_R (k_V (b := a0) (As := [.int a1]) (n := 1) (rest := []) cx hl.1 hP hS (c_X5_changed l X g M a0 a1 (Mq7, vq7) g_q7) o6 rfl mC_X5_changed mM_X5_54 mI_X5_changed mS_X5_changed mZ_X5 (by decide +kernel) ⟨Nat.le_of_ble_eq_true rfl, Nat.le_of_ble_eq_true rfl⟩ rfl rfl (Nat.le_of_ble_eq_true rfl) dX5_set_21 ⟨Nat.le_of_ble_eq_true rfl, Nat.le_of_ble_eq_true rfl⟩) hS (fun H locs hP hS => ?_)
        have hP : hp X Mq7 H := hP
        refine W.eq (g2 := F0 m 24 ls [va_rf vq7]) rfl ?_
        refine W.widen (k := 3) (n := 26) (Nat.le_of_ble_eq_true rfl) (Nat.le_of_ble_eq_true rfl) ?_
        refine lv_iload_n hx hb dX5_set_24 rfl (lv_at hl 2 rfl) ?_
        refine lv_aload_n hx hb dX5_set_25 rfl (lv_at hl 0 rfl) ?_
        obtain ⟨v8, g_v8, hj⟩ := Option.bind_eq_some_iff.mp hj
        refine r_getR cx hP g_v8 iX5 rfl (by decide) mF_X5_25 dX5_set_26 ?_
        obtain ⟨b9, e_b9, hj⟩ := Option.bind_eq_some_iff.mp hj
        subst e_b9
        obtain ⟨v10, g_v10, hj⟩ := Option.bind_eq_some_iff.mp hj
        refine r_getR cx hP g_v10 iX2 rfl (by decide) mF_X5_58 dX5_set_29 ?_
        refine lv_iload_n hx hb dX5_set_32 rfl (lv_at hl 3 rfl) ?_
        refine lv_i2d hx hb dX5_set_33 ?_
        refine lv_iload hx hb dX5_set_34 (lv_at hl 4 rfl) ?_
        obtain ⟨b11, e_b11, hj⟩ := Option.bind_eq_some_iff.mp hj
        subst e_b11
        obtain ⟨_, o12, hj⟩ := Option.bind_eq_some_iff.mp hj
        obtain ⟨v13, g_v13, hj⟩ := Option.bind_eq_some_iff.mp hj
        refine f_D (k_V (b := b11) (As := [.double (FP.i2d a3), .int a4]) (n := 2) (rest := [.int a2, va_rf vq7]) cx hl.1 hP hS (c_X4_times l X g Mq7 b11 (FP.i2d a3) a4 v13 g_v13) o12 rfl mC_X4_times mM_X5_62 mI_X4_times mS_X4_times mZ_X4 (by decide +kernel) ⟨Nat.le_of_ble_eq_true rfl, Nat.le_of_ble_eq_true rfl⟩ rfl rfl (by simp [cat_rf, Value.category]) dX5_set_36 ⟨Nat.le_of_ble_eq_true rfl, Nat.le_of_ble_eq_true rfl⟩) hS (fun H locs hP hS => ?_)
        have hP : hp X Mq7 H := hP
        refine W.eq (g2 := F0 m 39 ls [.double v13, .int a2, va_rf vq7]) rfl ?_
        refine W.widen (k := 3) (n := 26) (Nat.le_of_ble_eq_true rfl) (Nat.le_of_ble_eq_true rfl) ?_
        obtain ⟨b14, e_b14, hj⟩ := Option.bind_eq_some_iff.mp hj
        subst e_b14
        obtain ⟨_, o15, hj⟩ := Option.bind_eq_some_iff.mp hj
        obtain ⟨M16, g_M16, hj⟩ := Option.bind_eq_some_iff.mp hj
        refine f_V (k_V (b := b14) (As := [.int a2, .double v13]) (n := 2) (rest := []) cx hl.1 hP hS (c_X3_put l X g Mq7 b14 a2 v13 M16 g_M16) o15 rfl mC_X3_put mM_X5_68 mI_X3_put mS_X3_put mZ_X3 (by decide +kernel) ⟨Nat.le_of_ble_eq_true rfl, Nat.le_of_ble_eq_true rfl⟩ rfl rfl (Nat.le_of_ble_eq_true rfl) dX5_set_39 ⟨Nat.le_of_ble_eq_true rfl, Nat.le_of_ble_eq_true rfl⟩) hS (fun H locs hP hS => ?_)
        have hP : hp X M16 H := hP
        refine W.eq (g2 := F0 m 42 ls []) rfl ?_
        refine W.widen (k := 3) (n := 26) (Nat.le_of_ble_eq_true rfl) (Nat.le_of_ble_eq_true rfl) ?_
        refine lv_iconst (v := 1) hx hb dX5_set_42 (by decide) ?_
        exact t_I cx hr hlocks hP hS (Option.some.inj hj) (Nat.le_of_ble_eq_true rfl) (Nat.le_of_ble_eq_true rfl) dX5_set_43
      · have hj := if_t c5 hj
        exact J_17 M H locs ls hj hP hS (lv_sub hl [] rfl)
  exact hgo _ _ hP hS
set_option maxHeartbeats 4000000 in
set_option maxRecDepth 100000 in
theorem c_X5_special (l : Launch) (X : hX) (g : Nat) (M : hm) (a0 : Nat) (a1 : Int32) (a2 : Int32) (a3 : Int32) (RR : hm × Int32) (hj : j_X5_special g M a0 a1 a2 a3 = some RR) : Ct l X yX5_special cX5_special 4 (some .int) { frames := 4, cells := 3, slots := 26, locals := 76 } [.ref a0, .int a1, .int a2, .int a3] M (qI X RR) := by
  refine h_enter (own := RX5) (by decide) rfl (Nat.le_of_ble_eq_true rfl) ?_
  intro p e s m below meth c ls cx hr hlocks hnm hP hS hl
  have hx := cx.1
  have hb := cx.2.1
  have hl : lv_has ls 4 [(0, .ref a0), (1, .int a1), (2, .int a2), (3, .int a3)] := hl
  unfold j_X5_special at hj
  have hgo : ∀ (H : Heap) (locs : List Loc), hp X M H → va_S (hA X) s.heap H locs → W p l e ({ frames := 4, cells := 3, slots := 26, locals := 76 } : Room) s m _ below meth c H locs 0 0 (MQ below (qI X RR) _ s 3 26 (hA X)) (F0 m 0 ls []) := by
    have J_16 : ∀ (M : hm) (H : Heap) (locs : List Loc) (ls : Array Slot), j_X5_special_16 g M = some RR → hp X M H → va_S (hA X) s.heap H locs → lv_has ls 4 [] → W p l e ({ frames := 4, cells := 3, slots := 26, locals := 76 } : Room) s m _ below meth c H locs 0 0 (MQ below (qI X RR) _ s 3 26 (hA X)) (F0 m 16 ls []) := by
      intro M H locs ls hj hP hS hl
      unfold j_X5_special_16 at hj
      refine lv_iconst (v := 0) hx hb dX5_special_16 (by decide) ?_
      exact t_I cx hr hlocks hP hS (Option.some.inj hj) (Nat.le_of_ble_eq_true rfl) (Nat.le_of_ble_eq_true rfl) dX5_special_17
    intro H locs hP hS
    refine lv_aload_n hx hb dX5_special_0 rfl (lv_at hl 0 rfl) ?_
    refine lv_iload_n hx hb dX5_special_1 rfl (lv_at hl 1 rfl) ?_
    refine lv_iload_n hx hb dX5_special_2 rfl (lv_at hl 2 rfl) ?_
    obtain ⟨_, o1, hj⟩ := Option.bind_eq_some_iff.mp hj
    obtain ⟨v2, g_v2, hj⟩ := Option.bind_eq_some_iff.mp hj
    refine f_I (k_V (b := a0) (As := [.int a1, .int a2]) (n := 2) (rest := []) cx hl.1 hP hS (c_X5_takesReading l X g M a0 a1 a2 v2 g_v2) o1 rfl mC_X5_takesReading mM_X5_46 mI_X5_takesReading mS_X5_takesReading mZ_X5 (by decide +kernel) ⟨Nat.le_of_ble_eq_true rfl, Nat.le_of_ble_eq_true rfl⟩ rfl rfl (Nat.le_of_ble_eq_true rfl) dX5_special_3 ⟨Nat.le_of_ble_eq_true rfl, Nat.le_of_ble_eq_true rfl⟩) hS (fun H locs hP hS => ?_)
    have hP : hp X M H := hP
    refine W.eq (g2 := F0 m 6 ls [.int v2]) rfl ?_
    refine W.widen (k := 0) (n := 0) (Nat.le_of_ble_eq_true rfl) (Nat.le_of_ble_eq_true rfl) ?_
    refine lv_if_eq (tgt := 16) hx hb dX5_special_6 (by decide) (fun c3 => ?_) (fun c3 => ?_)
    · have hj := if_t c3 hj
      exact J_16 M H locs ls hj hP hS (lv_sub hl [] rfl)
    · have hj := if_f c3 hj
      refine lv_iload_n hx hb dX5_special_9 rfl (lv_at hl 3 rfl) ?_
      obtain ⟨v4, g_v4, hj⟩ := Option.bind_eq_some_iff.mp hj
      refine f_I (k_S (As := [.int a3]) (n := 1) (rest := []) cx hl.1 hP hS (c_X5_isSpecial l X g M a3 v4 g_v4) mC_X5_isSpecial mM_X5_72 mT_X5_isSpecial mZ_X5 (by decide +kernel) ⟨Nat.le_of_ble_eq_true rfl, Nat.le_of_ble_eq_true rfl⟩ rfl rfl (Nat.le_of_ble_eq_true rfl) dX5_special_10 ⟨Nat.le_of_ble_eq_true rfl, Nat.le_of_ble_eq_true rfl⟩) hS (fun H locs hP hS => ?_)
      have hP : hp X M H := hP
      refine W.eq (g2 := F0 m 13 ls [.int v4]) rfl ?_
      refine W.widen (k := 0) (n := 0) (Nat.le_of_ble_eq_true rfl) (Nat.le_of_ble_eq_true rfl) ?_
      refine lv_if_ne (tgt := 18) hx hb dX5_special_13 (by decide) (fun c5 => ?_) (fun c5 => ?_)
      · have hj := if_f c5 hj
        refine lv_aload_n hx hb dX5_special_18 rfl (lv_at hl 0 rfl) ?_
        refine lv_iload_n hx hb dX5_special_19 rfl (lv_at hl 1 rfl) ?_
        obtain ⟨_, o6, hj⟩ := Option.bind_eq_some_iff.mp hj
        obtain ⟨⟨Mq7, vq7⟩, g_q7, hj⟩ := Option.bind_eq_some_iff.mp hj
        refine f_R (k_V (b := a0) (As := [.int a1]) (n := 1) (rest := []) cx hl.1 hP hS (c_X5_changed l X g M a0 a1 (Mq7, vq7) g_q7) o6 rfl mC_X5_changed mM_X5_54 mI_X5_changed mS_X5_changed mZ_X5 (by decide +kernel) ⟨Nat.le_of_ble_eq_true rfl, Nat.le_of_ble_eq_true rfl⟩ rfl rfl (Nat.le_of_ble_eq_true rfl) dX5_special_20 ⟨Nat.le_of_ble_eq_true rfl, Nat.le_of_ble_eq_true rfl⟩) hS (fun H locs hP hS => ?_)
        have hP : hp X Mq7 H := hP
        refine W.eq (g2 := F0 m 23 ls [va_rf vq7]) rfl ?_
        refine W.widen (k := 3) (n := 26) (Nat.le_of_ble_eq_true rfl) (Nat.le_of_ble_eq_true rfl) ?_
        refine lv_iload_n hx hb dX5_special_23 rfl (lv_at hl 2 rfl) ?_
        refine lv_iload_n hx hb dX5_special_24 rfl (lv_at hl 3 rfl) ?_
        obtain ⟨M8, g_M8, hj⟩ := Option.bind_eq_some_iff.mp hj
        refine f_V (k_S (As := [va_rf vq7, .int a2, .int a3]) (n := 3) (rest := []) cx hl.1 hP hS (c_X5_putSpecial l X g Mq7 vq7 a2 a3 M8 g_M8) mC_X5_putSpecial mM_X5_75 mT_X5_putSpecial mZ_X5 (by decide +kernel) ⟨Nat.le_of_ble_eq_true rfl, Nat.le_of_ble_eq_true rfl⟩ rfl rfl (Nat.le_of_ble_eq_true rfl) dX5_special_25 ⟨Nat.le_of_ble_eq_true rfl, Nat.le_of_ble_eq_true rfl⟩) hS (fun H locs hP hS => ?_)
        have hP : hp X M8 H := hP
        refine W.eq (g2 := F0 m 28 ls []) rfl ?_
        refine W.widen (k := 3) (n := 26) (Nat.le_of_ble_eq_true rfl) (Nat.le_of_ble_eq_true rfl) ?_
        refine lv_iconst (v := 1) hx hb dX5_special_28 (by decide) ?_
        exact t_I cx hr hlocks hP hS (Option.some.inj hj) (Nat.le_of_ble_eq_true rfl) (Nat.le_of_ble_eq_true rfl) dX5_special_29
      · have hj := if_t c5 hj
        exact J_16 M H locs ls hj hP hS (lv_sub hl [] rfl)
  exact hgo _ _ hP hS
set_option maxHeartbeats 4000000 in
set_option maxRecDepth 100000 in
theorem c_X5_toldOfBook (l : Launch) (X : hX) (g : Nat) (M : hm) (a0 : Nat) (a1 : Int32) (RR : Int32) (hj : j_X5_toldOfBook g M a0 a1 = some RR) : Ct l X yX5_toldOfBook cX5_toldOfBook 2 (some .int) { frames := 0, cells := 0, slots := 0, locals := 0 } [.ref a0, .int a1] M (qI X (M, RR)) := by
  refine h_enter (own := RX5) (by decide) rfl (Nat.le_of_ble_eq_true rfl) ?_
  intro p e s m below meth c ls cx hr hlocks hnm hP hS hl
  have hx := cx.1
  have hb := cx.2.1
  have hl : lv_has ls 2 [(0, .ref a0), (1, .int a1)] := hl
  unfold j_X5_toldOfBook at hj
  have hgo : ∀ (H : Heap) (locs : List Loc), hp X M H → va_S (hA X) s.heap H locs → W p l e ({ frames := 0, cells := 0, slots := 0, locals := 0 } : Room) s m _ below meth c H locs 0 0 (MQ below (qI X (M, RR)) _ s 0 0 (hA X)) (F0 m 0 ls []) := by
    intro H locs hP hS
    refine lv_iload_n hx hb dX5_toldOfBook_0 rfl (lv_at hl 1 rfl) ?_
    by_cases c1 : a1 = (0 : Int32)
    · have hj := if_t c1 hj
      refine lv_tableIn (off := 27) (tgt := 28) hx hb dX5_toldOfBook_1 (by rw [c1]; decide) (by rw [c1]; decide) (by rw [c1]; decide) (by decide) ?_
      refine lv_aload_n hx hb dX5_toldOfBook_28 rfl (lv_at hl 0 rfl) ?_
      obtain ⟨v4, g_v4, hj⟩ := Option.bind_eq_some_iff.mp hj
      refine r_getI cx hP g_v4 iX5 rfl (by decide) mF_X5_33 dX5_toldOfBook_29 ?_
      exact t_I cx hr hlocks hP hS (congrArg (Prod.mk M) (Option.some.inj hj)) (Nat.le_of_ble_eq_true rfl) (Nat.le_of_ble_eq_true rfl) dX5_toldOfBook_32
    have hj := if_f c1 hj
    by_cases c2 : a1 = (1 : Int32)
    · have hj := if_t c2 hj
      refine lv_tableIn (off := 32) (tgt := 33) hx hb dX5_toldOfBook_1 (by rw [c2]; decide) (by rw [c2]; decide) (by rw [c2]; decide) (by decide) ?_
      refine lv_aload_n hx hb dX5_toldOfBook_33 rfl (lv_at hl 0 rfl) ?_
      obtain ⟨v5, g_v5, hj⟩ := Option.bind_eq_some_iff.mp hj
      refine r_getI cx hP g_v5 iX5 rfl (by decide) mF_X5_37 dX5_toldOfBook_34 ?_
      exact t_I cx hr hlocks hP hS (congrArg (Prod.mk M) (Option.some.inj hj)) (Nat.le_of_ble_eq_true rfl) (Nat.le_of_ble_eq_true rfl) dX5_toldOfBook_37
    have hj := if_f c2 hj
    by_cases c3 : a1 = (2 : Int32)
    · have hj := if_t c3 hj
      refine lv_tableIn (off := 37) (tgt := 38) hx hb dX5_toldOfBook_1 (by rw [c3]; decide) (by rw [c3]; decide) (by rw [c3]; decide) (by decide) ?_
      refine lv_aload_n hx hb dX5_toldOfBook_38 rfl (lv_at hl 0 rfl) ?_
      obtain ⟨v6, g_v6, hj⟩ := Option.bind_eq_some_iff.mp hj
      refine r_getI cx hP g_v6 iX5 rfl (by decide) mF_X5_40 dX5_toldOfBook_39 ?_
      exact t_I cx hr hlocks hP hS (congrArg (Prod.mk M) (Option.some.inj hj)) (Nat.le_of_ble_eq_true rfl) (Nat.le_of_ble_eq_true rfl) dX5_toldOfBook_42
    have hj := if_f c3 hj
    have sw : a1.toInt < 0 ∨ 2 < a1.toInt := by
      rcases Int.lt_or_ge a1.toInt 0 with q | q
      · exact Or.inl q
      have q := sw_step q (sw_ne c1 (by decide))
      have q := sw_step q (sw_ne c2 (by decide))
      have q := sw_step q (sw_ne c3 (by decide))
      exact Or.inr (by omega)
    refine lv_tableOut (tgt := 43) hx hb dX5_toldOfBook_1 sw (by decide) ?_
    refine lv_iconst (v := -1) hx hb dX5_toldOfBook_43 (by decide) ?_
    exact t_I cx hr hlocks hP hS (congrArg (Prod.mk M) (Option.some.inj hj)) (Nat.le_of_ble_eq_true rfl) (Nat.le_of_ble_eq_true rfl) dX5_toldOfBook_44
  exact hgo _ _ hP hS
set_option maxHeartbeats 4000000 in
set_option maxRecDepth 100000 in
theorem c_X5_toldOfColumn (l : Launch) (X : hX) (g : Nat) (M : hm) (a0 : Option Nat) (a1 : Int32) (RR : Int32) (hj : j_X5_toldOfColumn g M a0 a1 = some RR) : Ct l X yX5_toldOfColumn cX5_toldOfColumn 2 (some .int) { frames := 1, cells := 0, slots := 0, locals := 20 } [va_rf a0, .int a1] M (qI X (M, RR)) := by
  refine h_enter (own := RX5) (by decide) rfl (Nat.le_of_ble_eq_true rfl) ?_
  intro p e s m below meth c ls cx hr hlocks hnm hP hS hl
  have hx := cx.1
  have hb := cx.2.1
  have hl : lv_has ls 2 [(0, va_rf a0), (1, .int a1)] := hl
  unfold j_X5_toldOfColumn at hj
  have hgo : ∀ (H : Heap) (locs : List Loc), hp X M H → va_S (hA X) s.heap H locs → W p l e ({ frames := 1, cells := 0, slots := 0, locals := 20 } : Room) s m _ below meth c H locs 0 0 (MQ below (qI X (M, RR)) _ s 0 0 (hA X)) (F0 m 0 ls []) := by
    have J_57 : ∀ (s0 : Int32) (H : Heap) (locs : List Loc) (ls : Array Slot), j_X5_toldOfColumn_57 g M s0 = some RR → hp X M H → va_S (hA X) s.heap H locs → lv_has ls 2 [] → W p l e ({ frames := 1, cells := 0, slots := 0, locals := 20 } : Room) s m _ below meth c H locs 0 0 (MQ below (qI X (M, RR)) _ s 0 0 (hA X)) (F0 m 57 ls [.int s0]) := by
      intro s0 H locs ls hj hP hS hl
      unfold j_X5_toldOfColumn_57 at hj
      exact t_I cx hr hlocks hP hS (congrArg (Prod.mk M) (Option.some.inj hj)) (Nat.le_of_ble_eq_true rfl) (Nat.le_of_ble_eq_true rfl) dX5_toldOfColumn_57
    have J_44 : ∀ (s0 : Int32) (H : Heap) (locs : List Loc) (ls : Array Slot), j_X5_toldOfColumn_44 g M s0 = some RR → hp X M H → va_S (hA X) s.heap H locs → lv_has ls 2 [] → W p l e ({ frames := 1, cells := 0, slots := 0, locals := 20 } : Room) s m _ below meth c H locs 0 0 (MQ below (qI X (M, RR)) _ s 0 0 (hA X)) (F0 m 44 ls [.int s0]) := by
      intro s0 H locs ls hj hP hS hl
      unfold j_X5_toldOfColumn_44 at hj
      exact t_I cx hr hlocks hP hS (congrArg (Prod.mk M) (Option.some.inj hj)) (Nat.le_of_ble_eq_true rfl) (Nat.le_of_ble_eq_true rfl) dX5_toldOfColumn_44
    intro H locs hP hS
    refine lv_iload_n hx hb dX5_toldOfColumn_0 rfl (lv_at hl 1 rfl) ?_
    by_cases c1 : a1 = (0 : Int32)
    · have hj := if_t c1 hj
      refine lv_tableIn (off := 31) (tgt := 32) hx hb dX5_toldOfColumn_1 (by rw [c1]; decide) (by rw [c1]; decide) (by rw [c1]; decide) (by decide) ?_
      refine h_aload_n hx hb dX5_toldOfColumn_32 rfl (lv_at hl 0 rfl) ?_
      obtain ⟨b5, e_b5, hj⟩ := Option.bind_eq_some_iff.mp hj
      subst e_b5
      obtain ⟨_, o6, hj⟩ := Option.bind_eq_some_iff.mp hj
      obtain ⟨v7, g_v7, hj⟩ := Option.bind_eq_some_iff.mp hj
      refine f_I (k_V (b := b5) (As := []) (n := 0) (rest := []) cx hl.1 hP hS (c_X3_hasFormula l X g M b5 v7 g_v7) o6 rfl mC_X3_hasFormula mM_X5_104 mI_X3_hasFormula mS_X3_hasFormula mZ_X3 (by decide +kernel) ⟨Nat.le_of_ble_eq_true rfl, Nat.le_of_ble_eq_true rfl⟩ rfl rfl (Nat.le_of_ble_eq_true rfl) dX5_toldOfColumn_33 ⟨Nat.le_of_ble_eq_true rfl, Nat.le_of_ble_eq_true rfl⟩) hS (fun H locs hP hS => ?_)
      have hP : hp X M H := hP
      refine W.eq (g2 := F0 m 36 ls [.int v7]) rfl ?_
      refine W.widen (k := 0) (n := 0) (Nat.le_of_ble_eq_true rfl) (Nat.le_of_ble_eq_true rfl) ?_
      refine lv_if_eq (tgt := 43) hx hb dX5_toldOfColumn_36 (by decide) (fun c8 => ?_) (fun c8 => ?_)
      · have hj := if_t c8 hj
        refine lv_iconst (v := 0) hx hb dX5_toldOfColumn_43 (by decide) ?_
        exact J_44 (0 : Int32) H locs ls hj hP hS (lv_sub hl [] rfl)
      · have hj := if_f c8 hj
        refine lv_iconst (v := 1) hx hb dX5_toldOfColumn_39 (by decide) ?_
        refine lv_goto (tgt := 44) hx hb dX5_toldOfColumn_40 (by decide) ?_
        exact J_44 (1 : Int32) H locs ls hj hP hS (lv_sub hl [] rfl)
    have hj := if_f c1 hj
    by_cases c2 : a1 = (1 : Int32)
    · have hj := if_t c2 hj
      refine lv_tableIn (off := 44) (tgt := 45) hx hb dX5_toldOfColumn_1 (by rw [c2]; decide) (by rw [c2]; decide) (by rw [c2]; decide) (by decide) ?_
      refine h_aload_n hx hb dX5_toldOfColumn_45 rfl (lv_at hl 0 rfl) ?_
      obtain ⟨b9, e_b9, hj⟩ := Option.bind_eq_some_iff.mp hj
      subst e_b9
      obtain ⟨v10, g_v10, hj⟩ := Option.bind_eq_some_iff.mp hj
      refine r_getI cx hP g_v10 iX3 rfl (by decide) mF_X5_110 dX5_toldOfColumn_46 ?_
      refine lv_if_eq (tgt := 56) hx hb dX5_toldOfColumn_49 (by decide) (fun c11 => ?_) (fun c11 => ?_)
      · have hj := if_t c11 hj
        refine lv_iconst (v := 0) hx hb dX5_toldOfColumn_56 (by decide) ?_
        exact J_57 (0 : Int32) H locs ls hj hP hS (lv_sub hl [] rfl)
      · have hj := if_f c11 hj
        refine lv_iconst (v := 1) hx hb dX5_toldOfColumn_52 (by decide) ?_
        refine lv_goto (tgt := 57) hx hb dX5_toldOfColumn_53 (by decide) ?_
        exact J_57 (1 : Int32) H locs ls hj hP hS (lv_sub hl [] rfl)
    have hj := if_f c2 hj
    by_cases c3 : a1 = (2 : Int32)
    · have hj := if_t c3 hj
      refine lv_tableIn (off := 57) (tgt := 58) hx hb dX5_toldOfColumn_1 (by rw [c3]; decide) (by rw [c3]; decide) (by rw [c3]; decide) (by decide) ?_
      refine h_aload_n hx hb dX5_toldOfColumn_58 rfl (lv_at hl 0 rfl) ?_
      obtain ⟨b12, e_b12, hj⟩ := Option.bind_eq_some_iff.mp hj
      subst e_b12
      obtain ⟨v13, g_v13, hj⟩ := Option.bind_eq_some_iff.mp hj
      refine r_getI cx hP g_v13 iX3 rfl (by decide) mF_X5_182 dX5_toldOfColumn_59 ?_
      obtain ⟨v14, g_v14, hj⟩ := Option.bind_eq_some_iff.mp hj
      refine f_I (k_S (As := [.int v13]) (n := 1) (rest := []) cx hl.1 hP hS (c_J6_bitCount_0f7a4 l X g M v13 v14 g_v14) mC_J6_bitCount_0f7a4 mM_X5_167 mT_J6_bitCount_0f7a4 mZ_J6 (by decide +kernel) ⟨Nat.le_of_ble_eq_true rfl, Nat.le_of_ble_eq_true rfl⟩ rfl rfl (Nat.le_of_ble_eq_true rfl) dX5_toldOfColumn_62 ⟨Nat.le_of_ble_eq_true rfl, Nat.le_of_ble_eq_true rfl⟩) hS (fun H locs hP hS => ?_)
      have hP : hp X M H := hP
      refine W.eq (g2 := F0 m 65 ls [.int v14]) rfl ?_
      refine W.widen (k := 0) (n := 0) (Nat.le_of_ble_eq_true rfl) (Nat.le_of_ble_eq_true rfl) ?_
      exact t_I cx hr hlocks hP hS (congrArg (Prod.mk M) (Option.some.inj hj)) (Nat.le_of_ble_eq_true rfl) (Nat.le_of_ble_eq_true rfl) dX5_toldOfColumn_65
    have hj := if_f c3 hj
    by_cases c4 : a1 = (3 : Int32)
    · have hj := if_t c4 hj
      refine lv_tableIn (off := 65) (tgt := 66) hx hb dX5_toldOfColumn_1 (by rw [c4]; decide) (by rw [c4]; decide) (by rw [c4]; decide) (by decide) ?_
      refine h_aload_n hx hb dX5_toldOfColumn_66 rfl (lv_at hl 0 rfl) ?_
      obtain ⟨b15, e_b15, hj⟩ := Option.bind_eq_some_iff.mp hj
      subst e_b15
      obtain ⟨v16, g_v16, hj⟩ := Option.bind_eq_some_iff.mp hj
      refine r_getI cx hP g_v16 iX3 rfl (by decide) mF_X5_92 dX5_toldOfColumn_67 ?_
      exact t_I cx hr hlocks hP hS (congrArg (Prod.mk M) (Option.some.inj hj)) (Nat.le_of_ble_eq_true rfl) (Nat.le_of_ble_eq_true rfl) dX5_toldOfColumn_70
    have hj := if_f c4 hj
    have sw : a1.toInt < 0 ∨ 3 < a1.toInt := by
      rcases Int.lt_or_ge a1.toInt 0 with q | q
      · exact Or.inl q
      have q := sw_step q (sw_ne c1 (by decide))
      have q := sw_step q (sw_ne c2 (by decide))
      have q := sw_step q (sw_ne c3 (by decide))
      have q := sw_step q (sw_ne c4 (by decide))
      exact Or.inr (by omega)
    refine lv_tableOut (tgt := 71) hx hb dX5_toldOfColumn_1 sw (by decide) ?_
    refine lv_iconst (v := -1) hx hb dX5_toldOfColumn_71 (by decide) ?_
    exact t_I cx hr hlocks hP hS (congrArg (Prod.mk M) (Option.some.inj hj)) (Nat.le_of_ble_eq_true rfl) (Nat.le_of_ble_eq_true rfl) dX5_toldOfColumn_72
  exact hgo _ _ hP hS
set_option maxHeartbeats 4000000 in
set_option maxRecDepth 100000 in
theorem c_X5_told (l : Launch) (X : hX) (g : Nat) (M : hm) (a0 : Nat) (a1 : Int32) (a2 : Int32) (RR : hm × Int32) (hj : j_X5_told g M a0 a1 a2 = some RR) : Ct l X yX5_told cX5_told 3 (some .int) { frames := 6, cells := 0, slots := 0, locals := 157 } [.ref a0, .int a1, .int a2] M (qI X RR) := by
  refine h_enter (own := RX5) (by decide) rfl (Nat.le_of_ble_eq_true rfl) ?_
  intro p e s m below meth c ls cx hr hlocks hnm hP hS hl
  have hx := cx.1
  have hb := cx.2.1
  have hl : lv_has ls 3 [(0, .ref a0), (1, .int a1), (2, .int a2)] := hl
  unfold j_X5_told at hj
  have hgo : ∀ (H : Heap) (locs : List Loc), hp X M H → va_S (hA X) s.heap H locs → W p l e ({ frames := 6, cells := 0, slots := 0, locals := 157 } : Room) s m _ below meth c H locs 0 0 (MQ below (qI X RR) _ s 0 0 (hA X)) (F0 m 0 ls []) := by
    have J_37 : ∀ (M : hm) (s0 : Int32) (H : Heap) (locs : List Loc) (ls : Array Slot), j_X5_told_37 g M s0 = some RR → hp X M H → va_S (hA X) s.heap H locs → lv_has ls 3 [] → W p l e ({ frames := 6, cells := 0, slots := 0, locals := 157 } : Room) s m _ below meth c H locs 0 0 (MQ below (qI X RR) _ s 0 0 (hA X)) (F0 m 37 ls [.int s0]) := by
      intro M s0 H locs ls hj hP hS hl
      unfold j_X5_told_37 at hj
      exact t_I cx hr hlocks hP hS (Option.some.inj hj) (Nat.le_of_ble_eq_true rfl) (Nat.le_of_ble_eq_true rfl) dX5_told_37
    intro H locs hP hS
    refine lv_iload_n hx hb dX5_told_0 rfl (lv_at hl 1 rfl) ?_
    refine lv_bipush (v := 12) hx hb dX5_told_1 (by decide) ?_
    refine lv_icmp_ne (tgt := 12) hx hb dX5_told_3 (by decide) (fun c1 => ?_) (fun c1 => ?_)
    · have hj := if_f c1 hj
      refine lv_aload_n hx hb dX5_told_12 rfl (lv_at hl 0 rfl) ?_
      obtain ⟨_, o2, hj⟩ := Option.bind_eq_some_iff.mp hj
      obtain ⟨M3, g_M3, hj⟩ := Option.bind_eq_some_iff.mp hj
      refine f_V (k_V (b := a0) (As := []) (n := 0) (rest := []) cx hl.1 hP hS (c_X5_settle l X g M a0 M3 g_M3) o2 rfl mC_X5_settle mM_X5_107 mI_X5_settle mS_X5_settle mZ_X5 (by decide +kernel) ⟨Nat.le_of_ble_eq_true rfl, Nat.le_of_ble_eq_true rfl⟩ rfl rfl (Nat.le_of_ble_eq_true rfl) dX5_told_13 ⟨Nat.le_of_ble_eq_true rfl, Nat.le_of_ble_eq_true rfl⟩) hS (fun H locs hP hS => ?_)
      have hP : hp X M3 H := hP
      refine W.eq (g2 := F0 m 16 ls []) rfl ?_
      refine W.widen (k := 0) (n := 0) (Nat.le_of_ble_eq_true rfl) (Nat.le_of_ble_eq_true rfl) ?_
      refine lv_iload_n hx hb dX5_told_16 rfl (lv_at hl 1 rfl) ?_
      obtain ⟨v4, g_v4, hj⟩ := Option.bind_eq_some_iff.mp hj
      refine f_I (k_S (As := [.int a1]) (n := 1) (rest := []) cx hl.1 hP hS (c_X5_isColumn l X g M3 a1 v4 g_v4) mC_X5_isColumn mM_X5_86 mT_X5_isColumn mZ_X5 (by decide +kernel) ⟨Nat.le_of_ble_eq_true rfl, Nat.le_of_ble_eq_true rfl⟩ rfl rfl (Nat.le_of_ble_eq_true rfl) dX5_told_17 ⟨Nat.le_of_ble_eq_true rfl, Nat.le_of_ble_eq_true rfl⟩) hS (fun H locs hP hS => ?_)
      have hP : hp X M3 H := hP
      refine W.eq (g2 := F0 m 20 ls [.int v4]) rfl ?_
      refine W.widen (k := 0) (n := 0) (Nat.le_of_ble_eq_true rfl) (Nat.le_of_ble_eq_true rfl) ?_
      refine lv_if_eq (tgt := 36) hx hb dX5_told_20 (by decide) (fun c5 => ?_) (fun c5 => ?_)
      · have hj := if_t c5 hj
        refine lv_iconst (v := -1) hx hb dX5_told_36 (by decide) ?_
        exact J_37 M3 (-1 : Int32) H locs ls hj hP hS (lv_sub hl [] rfl)
      · have hj := if_f c5 hj
        refine lv_aload_n hx hb dX5_told_23 rfl (lv_at hl 0 rfl) ?_
        obtain ⟨v6, g_v6, hj⟩ := Option.bind_eq_some_iff.mp hj
        refine r_getR cx hP g_v6 iX5 rfl (by decide) mF_X5_11 dX5_told_24 ?_
        refine lv_iload_n hx hb dX5_told_27 rfl (lv_at hl 1 rfl) ?_
        obtain ⟨b7, e_b7, hj⟩ := Option.bind_eq_some_iff.mp hj
        subst e_b7
        obtain ⟨v8, g_v8, hj⟩ := Option.bind_eq_some_iff.mp hj
        refine r_aldR cx hP (k := 3) rfl g_v8 dX5_told_28 ?_
        refine lv_iload_n hx hb dX5_told_29 rfl (lv_at hl 2 rfl) ?_
        obtain ⟨v9, g_v9, hj⟩ := Option.bind_eq_some_iff.mp hj
        refine f_I (k_S (As := [va_rf v8, .int a2]) (n := 2) (rest := []) cx hl.1 hP hS (c_X5_toldOfColumn l X g M3 v8 a2 v9 g_v9) mC_X5_toldOfColumn mM_X5_178 mT_X5_toldOfColumn mZ_X5 (by decide +kernel) ⟨Nat.le_of_ble_eq_true rfl, Nat.le_of_ble_eq_true rfl⟩ rfl rfl (Nat.le_of_ble_eq_true rfl) dX5_told_30 ⟨Nat.le_of_ble_eq_true rfl, Nat.le_of_ble_eq_true rfl⟩) hS (fun H locs hP hS => ?_)
        have hP : hp X M3 H := hP
        refine W.eq (g2 := F0 m 33 ls [.int v9]) rfl ?_
        refine W.widen (k := 0) (n := 0) (Nat.le_of_ble_eq_true rfl) (Nat.le_of_ble_eq_true rfl) ?_
        refine lv_goto (tgt := 37) hx hb dX5_told_33 (by decide) ?_
        exact J_37 M3 v9 H locs ls hj hP hS (lv_sub hl [] rfl)
    · have hj := if_t c1 hj
      refine lv_aload_n hx hb dX5_told_6 rfl (lv_at hl 0 rfl) ?_
      refine lv_iload_n hx hb dX5_told_7 rfl (lv_at hl 2 rfl) ?_
      obtain ⟨_, o10, hj⟩ := Option.bind_eq_some_iff.mp hj
      obtain ⟨v11, g_v11, hj⟩ := Option.bind_eq_some_iff.mp hj
      refine f_I (k_V (b := a0) (As := [.int a2]) (n := 1) (rest := []) cx hl.1 hP hS (c_X5_toldOfBook l X g M a0 a2 v11 g_v11) o10 rfl mC_X5_toldOfBook mM_X5_175 mI_X5_toldOfBook mS_X5_toldOfBook mZ_X5 (by decide +kernel) ⟨Nat.le_of_ble_eq_true rfl, Nat.le_of_ble_eq_true rfl⟩ rfl rfl (Nat.le_of_ble_eq_true rfl) dX5_told_8 ⟨Nat.le_of_ble_eq_true rfl, Nat.le_of_ble_eq_true rfl⟩) hS (fun H locs hP hS => ?_)
      have hP : hp X M H := hP
      refine W.eq (g2 := F0 m 11 ls [.int v11]) rfl ?_
      refine W.widen (k := 0) (n := 0) (Nat.le_of_ble_eq_true rfl) (Nat.le_of_ble_eq_true rfl) ?_
      exact t_I cx hr hlocks hP hS (Option.some.inj hj) (Nat.le_of_ble_eq_true rfl) (Nat.le_of_ble_eq_true rfl) dX5_told_11
  exact hgo _ _ hP hS
set_option maxHeartbeats 4000000 in
set_option maxRecDepth 100000 in
theorem c_X5_width (l : Launch) (X : hX) (g : Nat) (M : hm) (a0 : Nat) (a1 : Int32) (a2 : Int32) (RR : hm × Int32) (hj : j_X5_width g M a0 a1 a2 = some RR) : Ct l X yX5_width cX5_width 3 (some .int) { frames := 4, cells := 3, slots := 26, locals := 76 } [.ref a0, .int a1, .int a2] M (qI X RR) := by
  refine h_enter (own := RX5) (by decide) rfl (Nat.le_of_ble_eq_true rfl) ?_
  intro p e s m below meth c ls cx hr hlocks hnm hP hS hl
  have hx := cx.1
  have hb := cx.2.1
  have hl : lv_has ls 3 [(0, .ref a0), (1, .int a1), (2, .int a2)] := hl
  unfold j_X5_width at hj
  have hgo : ∀ (H : Heap) (locs : List Loc), hp X M H → va_S (hA X) s.heap H locs → W p l e ({ frames := 4, cells := 3, slots := 26, locals := 76 } : Room) s m _ below meth c H locs 0 0 (MQ below (qI X RR) _ s 3 26 (hA X)) (F0 m 0 ls []) := by
    have J_27 : ∀ (M : hm) (H : Heap) (locs : List Loc) (ls : Array Slot), j_X5_width_27 g M = some RR → hp X M H → va_S (hA X) s.heap H locs → lv_has ls 3 [] → W p l e ({ frames := 4, cells := 3, slots := 26, locals := 76 } : Room) s m _ below meth c H locs 0 0 (MQ below (qI X RR) _ s 3 26 (hA X)) (F0 m 27 ls []) := by
      intro M H locs ls hj hP hS hl
      unfold j_X5_width_27 at hj
      refine lv_iconst (v := 0) hx hb dX5_width_27 (by decide) ?_
      exact t_I cx hr hlocks hP hS (Option.some.inj hj) (Nat.le_of_ble_eq_true rfl) (Nat.le_of_ble_eq_true rfl) dX5_width_28
    intro H locs hP hS
    refine lv_iload_n hx hb dX5_width_0 rfl (lv_at hl 1 rfl) ?_
    obtain ⟨v1, g_v1, hj⟩ := Option.bind_eq_some_iff.mp hj
    refine f_I (k_S (As := [.int a1]) (n := 1) (rest := []) cx hl.1 hP hS (c_X5_isColumn l X g M a1 v1 g_v1) mC_X5_isColumn mM_X5_86 mT_X5_isColumn mZ_X5 (by decide +kernel) ⟨Nat.le_of_ble_eq_true rfl, Nat.le_of_ble_eq_true rfl⟩ rfl rfl (Nat.le_of_ble_eq_true rfl) dX5_width_1 ⟨Nat.le_of_ble_eq_true rfl, Nat.le_of_ble_eq_true rfl⟩) hS (fun H locs hP hS => ?_)
    have hP : hp X M H := hP
    refine W.eq (g2 := F0 m 4 ls [.int v1]) rfl ?_
    refine W.widen (k := 0) (n := 0) (Nat.le_of_ble_eq_true rfl) (Nat.le_of_ble_eq_true rfl) ?_
    refine lv_if_eq (tgt := 27) hx hb dX5_width_4 (by decide) (fun c2 => ?_) (fun c2 => ?_)
    · have hj := if_t c2 hj
      exact J_27 M H locs ls hj hP hS (lv_sub hl [] rfl)
    · have hj := if_f c2 hj
      refine lv_aload_n hx hb dX5_width_7 rfl (lv_at hl 0 rfl) ?_
      obtain ⟨v3, g_v3, hj⟩ := Option.bind_eq_some_iff.mp hj
      refine r_getR cx hP g_v3 iX5 rfl (by decide) mF_X5_11 dX5_width_8 ?_
      refine lv_iload_n hx hb dX5_width_11 rfl (lv_at hl 1 rfl) ?_
      obtain ⟨b4, e_b4, hj⟩ := Option.bind_eq_some_iff.mp hj
      subst e_b4
      obtain ⟨v5, g_v5, hj⟩ := Option.bind_eq_some_iff.mp hj
      refine r_aldR cx hP (k := 3) rfl g_v5 dX5_width_12 ?_
      obtain ⟨b6, e_b6, hj⟩ := Option.bind_eq_some_iff.mp hj
      subst e_b6
      obtain ⟨v7, g_v7, hj⟩ := Option.bind_eq_some_iff.mp hj
      refine r_getI cx hP g_v7 iX3 rfl (by decide) mF_X5_110 dX5_width_13 ?_
      refine lv_iload_n hx hb dX5_width_16 rfl (lv_at hl 2 rfl) ?_
      refine lv_icmp_eq (tgt := 27) hx hb dX5_width_17 (by decide) (fun c8 => ?_) (fun c8 => ?_)
      · have hj := if_t c8 hj
        exact J_27 M H locs ls hj hP hS (lv_sub hl [] rfl)
      · have hj := if_f c8 hj
        refine lv_aload_n hx hb dX5_width_20 rfl (lv_at hl 0 rfl) ?_
        obtain ⟨_, o9, hj⟩ := Option.bind_eq_some_iff.mp hj
        obtain ⟨v10, g_v10, hj⟩ := Option.bind_eq_some_iff.mp hj
        refine f_I (k_V (b := a0) (As := []) (n := 0) (rest := []) cx hl.1 hP hS (c_X5_isFull l X g M a0 v10 g_v10) o9 rfl mC_X5_isFull mM_X5_82 mI_X5_isFull mS_X5_isFull mZ_X5 (by decide +kernel) ⟨Nat.le_of_ble_eq_true rfl, Nat.le_of_ble_eq_true rfl⟩ rfl rfl (Nat.le_of_ble_eq_true rfl) dX5_width_21 ⟨Nat.le_of_ble_eq_true rfl, Nat.le_of_ble_eq_true rfl⟩) hS (fun H locs hP hS => ?_)
        have hP : hp X M H := hP
        refine W.eq (g2 := F0 m 24 ls [.int v10]) rfl ?_
        refine W.widen (k := 0) (n := 0) (Nat.le_of_ble_eq_true rfl) (Nat.le_of_ble_eq_true rfl) ?_
        refine lv_if_eq (tgt := 29) hx hb dX5_width_24 (by decide) (fun c11 => ?_) (fun c11 => ?_)
        · have hj := if_t c11 hj
          refine lv_aload_n hx hb dX5_width_29 rfl (lv_at hl 0 rfl) ?_
          refine lv_iload_n hx hb dX5_width_30 rfl (lv_at hl 1 rfl) ?_
          obtain ⟨_, o12, hj⟩ := Option.bind_eq_some_iff.mp hj
          obtain ⟨⟨Mq13, vq13⟩, g_q13, hj⟩ := Option.bind_eq_some_iff.mp hj
          refine f_R (k_V (b := a0) (As := [.int a1]) (n := 1) (rest := []) cx hl.1 hP hS (c_X5_changed l X g M a0 a1 (Mq13, vq13) g_q13) o12 rfl mC_X5_changed mM_X5_54 mI_X5_changed mS_X5_changed mZ_X5 (by decide +kernel) ⟨Nat.le_of_ble_eq_true rfl, Nat.le_of_ble_eq_true rfl⟩ rfl rfl (Nat.le_of_ble_eq_true rfl) dX5_width_31 ⟨Nat.le_of_ble_eq_true rfl, Nat.le_of_ble_eq_true rfl⟩) hS (fun H locs hP hS => ?_)
          have hP : hp X Mq13 H := hP
          refine W.eq (g2 := F0 m 34 ls [va_rf vq13]) rfl ?_
          refine W.widen (k := 3) (n := 26) (Nat.le_of_ble_eq_true rfl) (Nat.le_of_ble_eq_true rfl) ?_
          refine lv_iload_n hx hb dX5_width_34 rfl (lv_at hl 2 rfl) ?_
          obtain ⟨b14, e_b14, hj⟩ := Option.bind_eq_some_iff.mp hj
          subst e_b14
          obtain ⟨_, o15, hj⟩ := Option.bind_eq_some_iff.mp hj
          obtain ⟨M16, g_M16, hj⟩ := Option.bind_eq_some_iff.mp hj
          refine f_V (k_V (b := b14) (As := [.int a2]) (n := 1) (rest := []) cx hl.1 hP hS (c_X3_bringTo l X g Mq13 b14 a2 M16 g_M16) o15 rfl mC_X3_bringTo mM_X5_114 mI_X3_bringTo mS_X3_bringTo mZ_X3 (by decide +kernel) ⟨Nat.le_of_ble_eq_true rfl, Nat.le_of_ble_eq_true rfl⟩ rfl rfl (Nat.le_of_ble_eq_true rfl) dX5_width_35 ⟨Nat.le_of_ble_eq_true rfl, Nat.le_of_ble_eq_true rfl⟩) hS (fun H locs hP hS => ?_)
          have hP : hp X M16 H := hP
          refine W.eq (g2 := F0 m 38 ls []) rfl ?_
          refine W.widen (k := 3) (n := 26) (Nat.le_of_ble_eq_true rfl) (Nat.le_of_ble_eq_true rfl) ?_
          refine lv_iconst (v := 1) hx hb dX5_width_38 (by decide) ?_
          exact t_I cx hr hlocks hP hS (Option.some.inj hj) (Nat.le_of_ble_eq_true rfl) (Nat.le_of_ble_eq_true rfl) dX5_width_39
        · have hj := if_f c11 hj
          exact J_27 M H locs ls hj hP hS (lv_sub hl [] rfl)
  exact hgo _ _ hP hS
