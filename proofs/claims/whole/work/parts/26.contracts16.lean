set_option maxHeartbeats 4000000 in
set_option maxRecDepth 100000 in
theorem c_X6_isMinus (l : Launch) (X : hX) (g : Nat) (M : hm) (a0 : Nat) (a1 : Int32) (a2 : Int32) (RR : hm × Int32) (hj : j_X6_isMinus g M a0 a1 a2 = some RR) : Ct l X yX6_isMinus cX6_isMinus 3 (some .boolean) { frames := 8, cells := 0, slots := 0, locals := 190 } [.ref a0, .int a1, .int a2] M (qI X RR) := by
  refine h_enter (own := RX6) (by decide) rfl (Nat.le_of_ble_eq_true rfl) ?_
  intro p e s m below meth c ls cx hr hlocks hnm hP hS hl
  have hx := cx.1
  have hb := cx.2.1
  have hl : lv_has ls 3 [(0, .ref a0), (1, .int a1), (2, .int a2)] := hl
  unfold j_X6_isMinus at hj
  have hgo : ∀ (H : Heap) (locs : List Loc), hp X M H → va_S (hA X) s.heap H locs → W p l e ({ frames := 8, cells := 0, slots := 0, locals := 190 } : Room) s m _ below meth c H locs 0 0 (MQ below (qI X RR) _ s 0 0 (hA X)) (F0 m 0 ls []) := by
    have J_45 : ∀ (M : hm) (s0 : Int32) (H : Heap) (locs : List Loc) (ls : Array Slot), j_X6_isMinus_45 g M s0 = some RR → hp X M H → va_S (hA X) s.heap H locs → lv_has ls 3 [] → W p l e ({ frames := 8, cells := 0, slots := 0, locals := 190 } : Room) s m _ below meth c H locs 0 0 (MQ below (qI X RR) _ s 0 0 (hA X)) (F0 m 45 ls [.int s0]) := by
      intro M s0 H locs ls hj hP hS hl
      unfold j_X6_isMinus_45 at hj
      obtain ⟨z1, g_z1, hj⟩ := Option.bind_eq_some_iff.mp hj
      exact t_Z cx hr hlocks hP hS (zb_eq g_z1).1 (Option.some.inj hj) (Nat.le_of_ble_eq_true rfl) (Nat.le_of_ble_eq_true rfl) dX6_isMinus_45
    have J_44 : ∀ (M : hm) (H : Heap) (locs : List Loc) (ls : Array Slot), j_X6_isMinus_44 g M = some RR → hp X M H → va_S (hA X) s.heap H locs → lv_has ls 3 [] → W p l e ({ frames := 8, cells := 0, slots := 0, locals := 190 } : Room) s m _ below meth c H locs 0 0 (MQ below (qI X RR) _ s 0 0 (hA X)) (F0 m 44 ls []) := by
      intro M H locs ls hj hP hS hl
      unfold j_X6_isMinus_44 at hj
      refine lv_iconst (v := 0) hx hb dX6_isMinus_44 (by decide) ?_
      exact J_45 M (0 : Int32) H locs ls hj hP hS (lv_sub hl [] rfl)
    intro H locs hP hS
    refine lv_aload_n hx hb dX6_isMinus_0 rfl (lv_at hl 0 rfl) ?_
    refine lv_iload_n hx hb dX6_isMinus_1 rfl (lv_at hl 1 rfl) ?_
    refine lv_iload_n hx hb dX6_isMinus_2 rfl (lv_at hl 2 rfl) ?_
    obtain ⟨_, o2, hj⟩ := Option.bind_eq_some_iff.mp hj
    obtain ⟨⟨Mq3, vq3⟩, g_q3, hj⟩ := Option.bind_eq_some_iff.mp hj
    refine f_I (k_V (b := a0) (As := [.int a1, .int a2]) (n := 2) (rest := []) cx hl.1 hP hS (c_X6_isThere l X g M a0 a1 a2 (Mq3, vq3) g_q3) o2 rfl mC_X6_isThere mM_X6_242 mI_X6_isThere mS_X6_isThere mZ_X6 (by decide +kernel) ⟨Nat.le_of_ble_eq_true rfl, Nat.le_of_ble_eq_true rfl⟩ rfl rfl (Nat.le_of_ble_eq_true rfl) dX6_isMinus_3 ⟨Nat.le_of_ble_eq_true rfl, Nat.le_of_ble_eq_true rfl⟩) hS (fun H locs hP hS => ?_)
    have hP : hp X Mq3 H := hP
    refine W.eq (g2 := F0 m 6 ls [.int vq3]) rfl ?_
    refine W.widen (k := 0) (n := 0) (Nat.le_of_ble_eq_true rfl) (Nat.le_of_ble_eq_true rfl) ?_
    refine lv_if_eq (tgt := 44) hx hb dX6_isMinus_6 (by decide) (fun c4 => ?_) (fun c4 => ?_)
    · have hj := if_t c4 hj
      exact J_44 Mq3 H locs ls hj hP hS (lv_sub hl [] rfl)
    · have hj := if_f c4 hj
      refine lv_aload_n hx hb dX6_isMinus_9 rfl (lv_at hl 0 rfl) ?_
      obtain ⟨v5, g_v5, hj⟩ := Option.bind_eq_some_iff.mp hj
      refine r_getR cx hP g_v5 iX6 rfl (by decide) mF_X6_29 dX6_isMinus_10 ?_
      refine lv_bipush (v := 16) hx hb dX6_isMinus_13 (by decide) ?_
      refine lv_iload_n hx hb dX6_isMinus_15 rfl (lv_at hl 1 rfl) ?_
      refine lv_imul hx hb dX6_isMinus_16 ?_
      refine lv_iload_n hx hb dX6_isMinus_17 rfl (lv_at hl 2 rfl) ?_
      refine lv_iadd hx hb dX6_isMinus_18 ?_
      obtain ⟨b6, e_b6, hj⟩ := Option.bind_eq_some_iff.mp hj
      subst e_b6
      obtain ⟨v7, g_v7, hj⟩ := Option.bind_eq_some_iff.mp hj
      refine r_aldZ cx hP g_v7 dX6_isMinus_19 ?_
      refine lv_if_ne (tgt := 44) hx hb dX6_isMinus_20 (by decide) (fun c8 => ?_) (fun c8 => ?_)
      · have hj := if_f c8 hj
        exact J_44 Mq3 H locs ls hj hP hS (lv_sub hl [] rfl)
      · have hj := if_t c8 hj
        refine lv_aload_n hx hb dX6_isMinus_23 rfl (lv_at hl 0 rfl) ?_
        obtain ⟨v9, g_v9, hj⟩ := Option.bind_eq_some_iff.mp hj
        refine r_getR cx hP g_v9 iX6 rfl (by decide) mF_X6_26 dX6_isMinus_24 ?_
        refine lv_bipush (v := 16) hx hb dX6_isMinus_27 (by decide) ?_
        refine lv_iload_n hx hb dX6_isMinus_29 rfl (lv_at hl 1 rfl) ?_
        refine lv_imul hx hb dX6_isMinus_30 ?_
        refine lv_iload_n hx hb dX6_isMinus_31 rfl (lv_at hl 2 rfl) ?_
        refine lv_iadd hx hb dX6_isMinus_32 ?_
        obtain ⟨b10, e_b10, hj⟩ := Option.bind_eq_some_iff.mp hj
        subst e_b10
        obtain ⟨v11, g_v11, hj⟩ := Option.bind_eq_some_iff.mp hj
        refine r_aldD cx hP g_v11 dX6_isMinus_33 ?_
        obtain ⟨v12, g_v12, hj⟩ := Option.bind_eq_some_iff.mp hj
        refine f_I (k_S (As := [.double v11]) (n := 1) (rest := []) cx hl.1 hP hS (c_X6_hasMinus l X g Mq3 v11 v12 g_v12) mC_X6_hasMinus mM_X6_67 mT_X6_hasMinus mZ_X6 (by decide +kernel) ⟨Nat.le_of_ble_eq_true rfl, Nat.le_of_ble_eq_true rfl⟩ rfl rfl (Nat.le_of_ble_eq_true rfl) dX6_isMinus_34 ⟨Nat.le_of_ble_eq_true rfl, Nat.le_of_ble_eq_true rfl⟩) hS (fun H locs hP hS => ?_)
        have hP : hp X Mq3 H := hP
        refine W.eq (g2 := F0 m 37 ls [.int v12]) rfl ?_
        refine W.widen (k := 0) (n := 0) (Nat.le_of_ble_eq_true rfl) (Nat.le_of_ble_eq_true rfl) ?_
        refine lv_if_eq (tgt := 44) hx hb dX6_isMinus_37 (by decide) (fun c13 => ?_) (fun c13 => ?_)
        · have hj := if_t c13 hj
          exact J_44 Mq3 H locs ls hj hP hS (lv_sub hl [] rfl)
        · have hj := if_f c13 hj
          refine lv_iconst (v := 1) hx hb dX6_isMinus_40 (by decide) ?_
          refine lv_goto (tgt := 45) hx hb dX6_isMinus_41 (by decide) ?_
          exact J_45 Mq3 (1 : Int32) H locs ls hj hP hS (lv_sub hl [] rfl)
  exact hgo _ _ hP hS
set_option maxHeartbeats 4000000 in
set_option maxRecDepth 100000 in
theorem c_X6_reading (l : Launch) (X : hX) (g : Nat) (M : hm) (a0 : Nat) (a1 : Int32) (a2 : Int32) (RR : hm × UInt64) (hj : j_X6_reading g M a0 a1 a2 = some RR) : Ct l X yX6_reading cX6_reading 3 (some .double) { frames := 8, cells := 0, slots := 0, locals := 190 } [.ref a0, .int a1, .int a2] M (qD X RR) := by
  refine h_enter (own := RX6) (by decide) rfl (Nat.le_of_ble_eq_true rfl) ?_
  intro p e s m below meth c ls cx hr hlocks hnm hP hS hl
  have hx := cx.1
  have hb := cx.2.1
  have hl : lv_has ls 3 [(0, .ref a0), (1, .int a1), (2, .int a2)] := hl
  unfold j_X6_reading at hj
  have hgo : ∀ (H : Heap) (locs : List Loc), hp X M H → va_S (hA X) s.heap H locs → W p l e ({ frames := 8, cells := 0, slots := 0, locals := 190 } : Room) s m _ below meth c H locs 0 0 (MQ below (qD X RR) _ s 0 0 (hA X)) (F0 m 0 ls []) := by
    have J_38 : ∀ (M : hm) (s0 : UInt64) (H : Heap) (locs : List Loc) (ls : Array Slot), j_X6_reading_38 g M s0 = some RR → hp X M H → va_S (hA X) s.heap H locs → lv_has ls 3 [] → W p l e ({ frames := 8, cells := 0, slots := 0, locals := 190 } : Room) s m _ below meth c H locs 0 0 (MQ below (qD X RR) _ s 0 0 (hA X)) (F0 m 38 ls [.double s0]) := by
      intro M s0 H locs ls hj hP hS hl
      unfold j_X6_reading_38 at hj
      exact t_D cx hr hlocks hP hS (Option.some.inj hj) (Nat.le_of_ble_eq_true rfl) (Nat.le_of_ble_eq_true rfl) dX6_reading_38
    have J_37 : ∀ (M : hm) (H : Heap) (locs : List Loc) (ls : Array Slot), j_X6_reading_37 g M = some RR → hp X M H → va_S (hA X) s.heap H locs → lv_has ls 3 [] → W p l e ({ frames := 8, cells := 0, slots := 0, locals := 190 } : Room) s m _ below meth c H locs 0 0 (MQ below (qD X RR) _ s 0 0 (hA X)) (F0 m 37 ls []) := by
      intro M H locs ls hj hP hS hl
      unfold j_X6_reading_37 at hj
      refine lv_dconst0 hx hb dX6_reading_37 ?_
      exact J_38 M FP.dconst0 H locs ls hj hP hS (lv_sub hl [] rfl)
    intro H locs hP hS
    refine lv_aload_n hx hb dX6_reading_0 rfl (lv_at hl 0 rfl) ?_
    refine lv_iload_n hx hb dX6_reading_1 rfl (lv_at hl 1 rfl) ?_
    refine lv_iload_n hx hb dX6_reading_2 rfl (lv_at hl 2 rfl) ?_
    obtain ⟨_, o1, hj⟩ := Option.bind_eq_some_iff.mp hj
    obtain ⟨⟨Mq2, vq2⟩, g_q2, hj⟩ := Option.bind_eq_some_iff.mp hj
    refine f_I (k_V (b := a0) (As := [.int a1, .int a2]) (n := 2) (rest := []) cx hl.1 hP hS (c_X6_isThere l X g M a0 a1 a2 (Mq2, vq2) g_q2) o1 rfl mC_X6_isThere mM_X6_242 mI_X6_isThere mS_X6_isThere mZ_X6 (by decide +kernel) ⟨Nat.le_of_ble_eq_true rfl, Nat.le_of_ble_eq_true rfl⟩ rfl rfl (Nat.le_of_ble_eq_true rfl) dX6_reading_3 ⟨Nat.le_of_ble_eq_true rfl, Nat.le_of_ble_eq_true rfl⟩) hS (fun H locs hP hS => ?_)
    have hP : hp X Mq2 H := hP
    refine W.eq (g2 := F0 m 6 ls [.int vq2]) rfl ?_
    refine W.widen (k := 0) (n := 0) (Nat.le_of_ble_eq_true rfl) (Nat.le_of_ble_eq_true rfl) ?_
    refine lv_if_eq (tgt := 37) hx hb dX6_reading_6 (by decide) (fun c3 => ?_) (fun c3 => ?_)
    · have hj := if_t c3 hj
      exact J_37 Mq2 H locs ls hj hP hS (lv_sub hl [] rfl)
    · have hj := if_f c3 hj
      refine lv_aload_n hx hb dX6_reading_9 rfl (lv_at hl 0 rfl) ?_
      obtain ⟨v4, g_v4, hj⟩ := Option.bind_eq_some_iff.mp hj
      refine r_getR cx hP g_v4 iX6 rfl (by decide) mF_X6_29 dX6_reading_10 ?_
      refine lv_bipush (v := 16) hx hb dX6_reading_13 (by decide) ?_
      refine lv_iload_n hx hb dX6_reading_15 rfl (lv_at hl 1 rfl) ?_
      refine lv_imul hx hb dX6_reading_16 ?_
      refine lv_iload_n hx hb dX6_reading_17 rfl (lv_at hl 2 rfl) ?_
      refine lv_iadd hx hb dX6_reading_18 ?_
      obtain ⟨b5, e_b5, hj⟩ := Option.bind_eq_some_iff.mp hj
      subst e_b5
      obtain ⟨v6, g_v6, hj⟩ := Option.bind_eq_some_iff.mp hj
      refine r_aldZ cx hP g_v6 dX6_reading_19 ?_
      refine lv_if_ne (tgt := 37) hx hb dX6_reading_20 (by decide) (fun c7 => ?_) (fun c7 => ?_)
      · have hj := if_f c7 hj
        exact J_37 Mq2 H locs ls hj hP hS (lv_sub hl [] rfl)
      · have hj := if_t c7 hj
        refine lv_aload_n hx hb dX6_reading_23 rfl (lv_at hl 0 rfl) ?_
        obtain ⟨v8, g_v8, hj⟩ := Option.bind_eq_some_iff.mp hj
        refine r_getR cx hP g_v8 iX6 rfl (by decide) mF_X6_26 dX6_reading_24 ?_
        refine lv_bipush (v := 16) hx hb dX6_reading_27 (by decide) ?_
        refine lv_iload_n hx hb dX6_reading_29 rfl (lv_at hl 1 rfl) ?_
        refine lv_imul hx hb dX6_reading_30 ?_
        refine lv_iload_n hx hb dX6_reading_31 rfl (lv_at hl 2 rfl) ?_
        refine lv_iadd hx hb dX6_reading_32 ?_
        obtain ⟨b9, e_b9, hj⟩ := Option.bind_eq_some_iff.mp hj
        subst e_b9
        obtain ⟨v10, g_v10, hj⟩ := Option.bind_eq_some_iff.mp hj
        refine r_aldD cx hP g_v10 dX6_reading_33 ?_
        refine lv_goto (tgt := 38) hx hb dX6_reading_34 (by decide) ?_
        exact J_38 Mq2 v10 H locs ls hj hP hS (lv_sub hl [] rfl)
  exact hgo _ _ hP hS
set_option maxHeartbeats 4000000 in
set_option maxRecDepth 100000 in
theorem c_X6_ring (l : Launch) (X : hX) (g : Nat) (M : hm) (a0 : Nat) (RR : hm × Int32) (hj : j_X6_ring g M a0 = some RR) : Ct l X yX6_ring cX6_ring 5 (some .int) { frames := 7, cells := 0, slots := 0, locals := 168 } [.ref a0] M (qI X RR) := by
  refine h_enter (own := RX6) (by decide) rfl (Nat.le_of_ble_eq_true rfl) ?_
  intro p e s m below meth c ls cx hr hlocks hnm hP hS hl
  have hx := cx.1
  have hb := cx.2.1
  have hl : lv_has ls 5 [(0, .ref a0)] := hl
  unfold j_X6_ring at hj
  have hgo : ∀ (H : Heap) (locs : List Loc), hp X M H → va_S (hA X) s.heap H locs → W p l e ({ frames := 7, cells := 0, slots := 0, locals := 168 } : Room) s m _ below meth c H locs 0 0 (MQ below (qI X RR) _ s 0 0 (hA X)) (F0 m 0 ls []) := by
    have J_103 : ∀ (M : hm) (p0 : Nat) (p1 : Int32) (H : Heap) (locs : List Loc) (ls : Array Slot), j_X6_ring_103 g M p0 p1 = some RR → hp X M H → va_S (hA X) s.heap H locs → lv_has ls 5 [(0, .ref p0), (1, .int p1)] → W p l e ({ frames := 7, cells := 0, slots := 0, locals := 168 } : Room) s m _ below meth c H locs 0 0 (MQ below (qI X RR) _ s 0 0 (hA X)) (F0 m 103 ls []) := by
      intro M p0 p1 H locs ls hj hP hS hl
      unfold j_X6_ring_103 at hj
      refine lv_aload_n hx hb dX6_ring_103 rfl (lv_at hl 0 rfl) ?_
      refine lv_dup hx hb dX6_ring_104 rfl ?_
      obtain ⟨v1, g_v1, hj⟩ := Option.bind_eq_some_iff.mp hj
      refine r_getI cx hP g_v1 iX6 rfl (by decide) mF_X6_239 dX6_ring_105 ?_
      refine lv_iconst (v := 1) hx hb dX6_ring_108 (by decide) ?_
      refine lv_iadd hx hb dX6_ring_109 ?_
      obtain ⟨M2, g_M2, hj⟩ := Option.bind_eq_some_iff.mp hj
      refine r_put cx hP hS g_M2 iX6 tyX6 tyX6_ok nmX6 rfl (by decide) mF_X6_239 rfl rfl rfl dX6_ring_110 (fun H locs hP hS => ?_)
      refine lv_iload_n hx hb dX6_ring_113 rfl (lv_at hl 1 rfl) ?_
      exact t_I cx hr hlocks hP hS (Option.some.inj hj) (Nat.le_of_ble_eq_true rfl) (Nat.le_of_ble_eq_true rfl) dX6_ring_114
    have L_8 : ∀ (n8 : Nat) (M : hm) (p0 : Nat) (p1 : Int32) (p2 : Int32) (H : Heap) (locs : List Loc) (ls : Array Slot), j_X6_ring_8 g n8 M p0 p1 p2 = some RR → hp X M H → va_S (hA X) s.heap H locs → lv_has ls 5 [(0, .ref p0), (1, .int p1), (2, .int p2)] → W p l e ({ frames := 7, cells := 0, slots := 0, locals := 168 } : Room) s m _ below meth c H locs 0 0 (MQ below (qI X RR) _ s 0 0 (hA X)) (F0 m 8 ls []) := by
      intro n8
      induction n8 with
      | zero =>
        intro M p0 p1 p2 H locs ls hj
        exact no_zero hj
      | succ n8 ih_8 =>
        have J_55 : ∀ (M : hm) (p0 : Nat) (p1 : Int32) (p2 : Int32) (p3 : Int32) (H : Heap) (locs : List Loc) (ls : Array Slot), j_X6_ring_55 g (fun M p0 p1 p2 => j_X6_ring_8 g n8 M p0 p1 p2) M p0 p1 p2 p3 = some RR → hp X M H → va_S (hA X) s.heap H locs → lv_has ls 5 [(0, .ref p0), (1, .int p1), (2, .int p2), (3, .int p3)] → W p l e ({ frames := 7, cells := 0, slots := 0, locals := 168 } : Room) s m _ below meth c H locs 0 0 (MQ below (qI X RR) _ s 0 0 (hA X)) (F0 m 55 ls []) := by
          intro M p0 p1 p2 p3 H locs ls hj hP hS hl
          unfold j_X6_ring_55 at hj
          refine lv_aload_n hx hb dX6_ring_55 rfl (lv_at hl 0 rfl) ?_
          obtain ⟨v3, g_v3, hj⟩ := Option.bind_eq_some_iff.mp hj
          refine r_getR cx hP g_v3 iX6 rfl (by decide) mF_X6_51 dX6_ring_56 ?_
          refine lv_iload_n hx hb dX6_ring_59 rfl (lv_at hl 2 rfl) ?_
          refine lv_iload_n hx hb dX6_ring_60 rfl (lv_at hl 3 rfl) ?_
          refine lv_aload_n hx hb dX6_ring_61 rfl (lv_at hl 0 rfl) ?_
          obtain ⟨v4, g_v4, hj⟩ := Option.bind_eq_some_iff.mp hj
          refine r_getR cx hP g_v4 iX6 rfl (by decide) mF_X6_48 dX6_ring_62 ?_
          refine lv_iload_n hx hb dX6_ring_65 rfl (lv_at hl 2 rfl) ?_
          obtain ⟨b5, e_b5, hj⟩ := Option.bind_eq_some_iff.mp hj
          subst e_b5
          obtain ⟨v6, g_v6, hj⟩ := Option.bind_eq_some_iff.mp hj
          refine r_aldI cx hP g_v6 dX6_ring_66 ?_
          refine lv_iconst (v := -1) hx hb dX6_ring_67 (by decide) ?_
          refine lv_ixor hx hb dX6_ring_68 ?_
          refine lv_iand hx hb dX6_ring_69 ?_
          obtain ⟨b7, e_b7, hj⟩ := Option.bind_eq_some_iff.mp hj
          subst e_b7
          obtain ⟨M8, g_M8, hj⟩ := Option.bind_eq_some_iff.mp hj
          refine r_astI cx hP hS g_M8 dX6_ring_70 (fun H locs hP hS => ?_)
          refine lv_aload_n hx hb dX6_ring_71 rfl (lv_at hl 0 rfl) ?_
          obtain ⟨v9, g_v9, hj⟩ := Option.bind_eq_some_iff.mp hj
          refine r_getR cx hP g_v9 iX6 rfl (by decide) mF_X6_48 dX6_ring_72 ?_
          refine lv_iload_n hx hb dX6_ring_75 rfl (lv_at hl 2 rfl) ?_
          refine lv_iload_n hx hb dX6_ring_76 rfl (lv_at hl 3 rfl) ?_
          obtain ⟨b10, e_b10, hj⟩ := Option.bind_eq_some_iff.mp hj
          subst e_b10
          obtain ⟨M11, g_M11, hj⟩ := Option.bind_eq_some_iff.mp hj
          refine r_astI cx hP hS g_M11 dX6_ring_77 (fun H locs hP hS => ?_)
          refine lv_aload_n hx hb dX6_ring_78 rfl (lv_at hl 0 rfl) ?_
          obtain ⟨v12, g_v12, hj⟩ := Option.bind_eq_some_iff.mp hj
          refine r_getR cx hP g_v12 iX6 rfl (by decide) mF_X6_54 dX6_ring_79 ?_
          refine lv_iload_n hx hb dX6_ring_82 rfl (lv_at hl 2 rfl) ?_
          refine lv_iconst (v := 1) hx hb dX6_ring_83 (by decide) ?_
          obtain ⟨b13, e_b13, hj⟩ := Option.bind_eq_some_iff.mp hj
          subst e_b13
          obtain ⟨M14, g_M14, hj⟩ := Option.bind_eq_some_iff.mp hj
          refine r_astZ cx hP hS g_M14 dX6_ring_84 (fun H locs hP hS => ?_)
          refine lv_iload_n hx hb dX6_ring_85 rfl (lv_at hl 1 rfl) ?_
          refine lv_aload_n hx hb dX6_ring_86 rfl (lv_at hl 0 rfl) ?_
          obtain ⟨v15, g_v15, hj⟩ := Option.bind_eq_some_iff.mp hj
          refine r_getR cx hP g_v15 iX6 rfl (by decide) mF_X6_51 dX6_ring_87 ?_
          refine lv_iload_n hx hb dX6_ring_90 rfl (lv_at hl 2 rfl) ?_
          obtain ⟨b16, e_b16, hj⟩ := Option.bind_eq_some_iff.mp hj
          subst e_b16
          obtain ⟨v17, g_v17, hj⟩ := Option.bind_eq_some_iff.mp hj
          refine r_aldI cx hP g_v17 dX6_ring_91 ?_
          obtain ⟨v18, g_v18, hj⟩ := Option.bind_eq_some_iff.mp hj
          refine f_I (k_S (As := [.int v17]) (n := 1) (rest := [.int p1]) cx hl.1 hP hS (c_X6_manyBits l X g M14 v17 v18 g_v18) mC_X6_manyBits mM_X6_235 mT_X6_manyBits mZ_X6 (by decide +kernel) ⟨Nat.le_of_ble_eq_true rfl, Nat.le_of_ble_eq_true rfl⟩ rfl rfl (Nat.le_of_ble_eq_true rfl) dX6_ring_92 ⟨Nat.le_of_ble_eq_true rfl, Nat.le_of_ble_eq_true rfl⟩) hS (fun H locs hP hS => ?_)
          have hP : hp X M14 H := hP
          refine W.eq (g2 := F0 m 95 ls [.int v18, .int p1]) rfl ?_
          refine W.widen (k := 0) (n := 0) (Nat.le_of_ble_eq_true rfl) (Nat.le_of_ble_eq_true rfl) ?_
          refine lv_iadd hx hb dX6_ring_95 ?_
          refine lv_istore_n (lv' := [(1, .int (p1 + v18)), (0, .ref p0), (2, .int p2), (3, .int p3)]) hx hb dX6_ring_96 rfl hl (by decide) rfl (fun ls hl => ?_)
          refine lv_iinc (v := (p2 + (1 : Int32))) (lv' := [(2, .int (p2 + (1 : Int32))), (1, .int (p1 + v18)), (0, .ref p0), (3, .int p3)]) hx hb dX6_ring_97 hl (k := 2) rfl rfl (by decide) rfl (fun ls hl => ?_)
          refine lv_goto (tgt := 8) hx hb dX6_ring_100 (by decide) ?_
          exact ih_8 M14 p0 (p1 + v18) (p2 + (1 : Int32)) H locs ls hj hP hS (lv_sub hl [2, 1, 0] rfl)
        have L_21 : ∀ (n21 : Nat) (M : hm) (p0 : Nat) (p1 : Int32) (p2 : Int32) (p3 : Int32) (p4 : Int32) (H : Heap) (locs : List Loc) (ls : Array Slot), j_X6_ring_21 g (fun M p0 p1 p2 => j_X6_ring_8 g n8 M p0 p1 p2) n21 M p0 p1 p2 p3 p4 = some RR → hp X M H → va_S (hA X) s.heap H locs → lv_has ls 5 [(0, .ref p0), (1, .int p1), (2, .int p2), (3, .int p3), (4, .int p4)] → W p l e ({ frames := 7, cells := 0, slots := 0, locals := 168 } : Room) s m _ below meth c H locs 0 0 (MQ below (qI X RR) _ s 0 0 (hA X)) (F0 m 21 ls []) := by
          intro n21
          induction n21 with
          | zero =>
            intro M p0 p1 p2 p3 p4 H locs ls hj
            exact no_zero hj
          | succ n21 ih_21 =>
            have J_47 : ∀ (M : hm) (p0 : Nat) (p1 : Int32) (p2 : Int32) (p4 : Int32) (s0 : Int32) (s1 : Int32) (H : Heap) (locs : List Loc) (ls : Array Slot), j_X6_ring_47 g (fun M p0 p1 p2 => j_X6_ring_8 g n8 M p0 p1 p2) (fun M p0 p1 p2 p3 p4 => j_X6_ring_21 g (fun M p0 p1 p2 => j_X6_ring_8 g n8 M p0 p1 p2) n21 M p0 p1 p2 p3 p4) M p0 p1 p2 p4 s0 s1 = some RR → hp X M H → va_S (hA X) s.heap H locs → lv_has ls 5 [(0, .ref p0), (1, .int p1), (2, .int p2), (4, .int p4)] → W p l e ({ frames := 7, cells := 0, slots := 0, locals := 168 } : Room) s m _ below meth c H locs 0 0 (MQ below (qI X RR) _ s 0 0 (hA X)) (F0 m 47 ls [.int s0, .int s1]) := by
              intro M p0 p1 p2 p4 s0 s1 H locs ls hj hP hS hl
              unfold j_X6_ring_47 at hj
              refine lv_ior hx hb dX6_ring_47 ?_
              refine lv_istore_n (lv' := [(3, .int (s1 ||| s0)), (0, .ref p0), (1, .int p1), (2, .int p2), (4, .int p4)]) hx hb dX6_ring_48 rfl hl (by decide) rfl (fun ls hl => ?_)
              refine lv_iinc (v := (p4 + (1 : Int32))) (lv' := [(4, .int (p4 + (1 : Int32))), (3, .int (s1 ||| s0)), (0, .ref p0), (1, .int p1), (2, .int p2)]) hx hb dX6_ring_49 hl (k := 4) rfl rfl (by decide) rfl (fun ls hl => ?_)
              refine lv_goto (tgt := 21) hx hb dX6_ring_52 (by decide) ?_
              exact ih_21 M p0 p1 p2 (s1 ||| s0) (p4 + (1 : Int32)) H locs ls hj hP hS (lv_sub hl [2, 3, 4, 1, 0] rfl)
            intro M p0 p1 p2 p3 p4 H locs ls hj hP hS hl
            rw [j_X6_ring_21_s] at hj
            refine lv_iload hx hb dX6_ring_21 (lv_at hl 4 rfl) ?_
            refine lv_bipush (v := 16) hx hb dX6_ring_23 (by decide) ?_
            refine lv_icmp_ge (tgt := 55) hx hb dX6_ring_25 (by decide) (fun c19 => ?_) (fun c19 => ?_)
            · have hj := if_t c19 hj
              exact J_55 M p0 p1 p2 p3 H locs ls hj hP hS (lv_sub hl [0, 1, 2, 3] rfl)
            · have hj := if_f c19 hj
              refine lv_iload_n hx hb dX6_ring_28 rfl (lv_at hl 3 rfl) ?_
              refine lv_aload_n hx hb dX6_ring_29 rfl (lv_at hl 0 rfl) ?_
              refine lv_iload_n hx hb dX6_ring_30 rfl (lv_at hl 2 rfl) ?_
              refine lv_iload hx hb dX6_ring_31 (lv_at hl 4 rfl) ?_
              obtain ⟨_, o20, hj⟩ := Option.bind_eq_some_iff.mp hj
              obtain ⟨v21, g_v21, hj⟩ := Option.bind_eq_some_iff.mp hj
              refine f_I (k_V (b := p0) (As := [.int p2, .int p4]) (n := 2) (rest := [.int p3]) cx hl.1 hP hS (c_X6_holds l X g M p0 p2 p4 v21 g_v21) o20 rfl mC_X6_holds mM_X6_232 mI_X6_holds mS_X6_holds mZ_X6 (by decide +kernel) ⟨Nat.le_of_ble_eq_true rfl, Nat.le_of_ble_eq_true rfl⟩ rfl rfl (Nat.le_of_ble_eq_true rfl) dX6_ring_33 ⟨Nat.le_of_ble_eq_true rfl, Nat.le_of_ble_eq_true rfl⟩) hS (fun H locs hP hS => ?_)
              have hP : hp X M H := hP
              refine W.eq (g2 := F0 m 36 ls [.int v21, .int p3]) rfl ?_
              refine W.widen (k := 0) (n := 0) (Nat.le_of_ble_eq_true rfl) (Nat.le_of_ble_eq_true rfl) ?_
              refine lv_if_eq (tgt := 46) hx hb dX6_ring_36 (by decide) (fun c22 => ?_) (fun c22 => ?_)
              · have hj := if_t c22 hj
                refine lv_iconst (v := 0) hx hb dX6_ring_46 (by decide) ?_
                exact J_47 M p0 p1 p2 p4 (0 : Int32) p3 H locs ls hj hP hS (lv_sub hl [0, 1, 2, 4] rfl)
              · have hj := if_f c22 hj
                refine lv_iconst (v := 1) hx hb dX6_ring_39 (by decide) ?_
                refine lv_iload hx hb dX6_ring_40 (lv_at hl 4 rfl) ?_
                refine lv_ishl hx hb dX6_ring_42 ?_
                refine lv_goto (tgt := 47) hx hb dX6_ring_43 (by decide) ?_
                exact J_47 M p0 p1 p2 p4 ((1 : Int32) <<< (p4 &&& 31)) p3 H locs ls hj hP hS (lv_sub hl [0, 1, 2, 4] rfl)
        intro M p0 p1 p2 H locs ls hj hP hS hl
        rw [j_X6_ring_8_s] at hj
        refine lv_iload_n hx hb dX6_ring_8 rfl (lv_at hl 2 rfl) ?_
        refine lv_aload_n hx hb dX6_ring_9 rfl (lv_at hl 0 rfl) ?_
        obtain ⟨v23, g_v23, hj⟩ := Option.bind_eq_some_iff.mp hj
        refine r_getI cx hP g_v23 iX6 rfl (by decide) mF_X6_229 dX6_ring_10 ?_
        refine lv_icmp_ge (tgt := 103) hx hb dX6_ring_13 (by decide) (fun c24 => ?_) (fun c24 => ?_)
        · have hj := if_t c24 hj
          exact J_103 M p0 p1 H locs ls hj hP hS (lv_sub hl [0, 1] rfl)
        · have hj := if_f c24 hj
          refine lv_iconst (v := 0) hx hb dX6_ring_16 (by decide) ?_
          refine lv_istore_n (lv' := [(3, .int (0 : Int32)), (0, .ref p0), (1, .int p1), (2, .int p2)]) hx hb dX6_ring_17 rfl hl (by decide) rfl (fun ls hl => ?_)
          refine lv_iconst (v := 0) hx hb dX6_ring_18 (by decide) ?_
          refine lv_istore (lv' := [(4, .int (0 : Int32)), (3, .int (0 : Int32)), (0, .ref p0), (1, .int p1), (2, .int p2)]) hx hb dX6_ring_19 hl (by decide) rfl (fun ls hl => ?_)
          exact L_21 g M p0 p1 p2 (0 : Int32) (0 : Int32) H locs ls hj hP hS (lv_sub hl [2, 3, 4, 1, 0] rfl)
    intro H locs hP hS
    refine lv_aload_n hx hb dX6_ring_0 rfl (lv_at hl 0 rfl) ?_
    obtain ⟨_, o25, hj⟩ := Option.bind_eq_some_iff.mp hj
    obtain ⟨M26, g_M26, hj⟩ := Option.bind_eq_some_iff.mp hj
    refine f_V (k_V (b := a0) (As := []) (n := 0) (rest := []) cx hl.1 hP hS (c_X6_reckonAll l X g M a0 M26 g_M26) o25 rfl mC_X6_reckonAll mM_X6_226 mI_X6_reckonAll mS_X6_reckonAll mZ_X6 (by decide +kernel) ⟨Nat.le_of_ble_eq_true rfl, Nat.le_of_ble_eq_true rfl⟩ rfl rfl (Nat.le_of_ble_eq_true rfl) dX6_ring_1 ⟨Nat.le_of_ble_eq_true rfl, Nat.le_of_ble_eq_true rfl⟩) hS (fun H locs hP hS => ?_)
    have hP : hp X M26 H := hP
    refine W.eq (g2 := F0 m 4 ls []) rfl ?_
    refine W.widen (k := 0) (n := 0) (Nat.le_of_ble_eq_true rfl) (Nat.le_of_ble_eq_true rfl) ?_
    refine lv_iconst (v := 0) hx hb dX6_ring_4 (by decide) ?_
    refine lv_istore_n (lv' := [(1, .int (0 : Int32)), (0, .ref a0)]) hx hb dX6_ring_5 rfl hl (by decide) rfl (fun ls hl => ?_)
    refine lv_iconst (v := 0) hx hb dX6_ring_6 (by decide) ?_
    refine lv_istore_n (lv' := [(2, .int (0 : Int32)), (1, .int (0 : Int32)), (0, .ref a0)]) hx hb dX6_ring_7 rfl hl (by decide) rfl (fun ls hl => ?_)
    exact L_8 g M26 a0 (0 : Int32) (0 : Int32) H locs ls hj hP hS (lv_sub hl [2, 1, 0] rfl)
  exact hgo _ _ hP hS
set_option maxHeartbeats 4000000 in
set_option maxRecDepth 100000 in
theorem c_X6_set (l : Launch) (X : hX) (g : Nat) (M : hm) (a0 : Nat) (a1 : Int32) (a2 : Int32) (a3 : Int32) (a4 : Int32) (RR : hm × Int32) (hj : j_X6_set g M a0 a1 a2 a3 a4 = some RR) : Ct l X yX6_set cX6_set 5 (some .int) { frames := 2, cells := 0, slots := 0, locals := 44 } [.ref a0, .int a1, .int a2, .int a3, .int a4] M (qI X RR) := by
  refine h_enter (own := RX6) (by decide) rfl (Nat.le_of_ble_eq_true rfl) ?_
  intro p e s m below meth c ls cx hr hlocks hnm hP hS hl
  have hx := cx.1
  have hb := cx.2.1
  have hl : lv_has ls 5 [(0, .ref a0), (1, .int a1), (2, .int a2), (3, .int a3), (4, .int a4)] := hl
  unfold j_X6_set at hj
  have hgo : ∀ (H : Heap) (locs : List Loc), hp X M H → va_S (hA X) s.heap H locs → W p l e ({ frames := 2, cells := 0, slots := 0, locals := 44 } : Room) s m _ below meth c H locs 0 0 (MQ below (qI X RR) _ s 0 0 (hA X)) (F0 m 0 ls []) := by
    have J_23 : ∀ (M : hm) (H : Heap) (locs : List Loc) (ls : Array Slot), j_X6_set_23 g M = some RR → hp X M H → va_S (hA X) s.heap H locs → lv_has ls 5 [] → W p l e ({ frames := 2, cells := 0, slots := 0, locals := 44 } : Room) s m _ below meth c H locs 0 0 (MQ below (qI X RR) _ s 0 0 (hA X)) (F0 m 23 ls []) := by
      intro M H locs ls hj hP hS hl
      unfold j_X6_set_23 at hj
      refine lv_iconst (v := 0) hx hb dX6_set_23 (by decide) ?_
      exact t_I cx hr hlocks hP hS (Option.some.inj hj) (Nat.le_of_ble_eq_true rfl) (Nat.le_of_ble_eq_true rfl) dX6_set_24
    intro H locs hP hS
    refine lv_aload_n hx hb dX6_set_0 rfl (lv_at hl 0 rfl) ?_
    refine lv_iload_n hx hb dX6_set_1 rfl (lv_at hl 1 rfl) ?_
    refine lv_iload_n hx hb dX6_set_2 rfl (lv_at hl 2 rfl) ?_
    obtain ⟨_, o1, hj⟩ := Option.bind_eq_some_iff.mp hj
    obtain ⟨v2, g_v2, hj⟩ := Option.bind_eq_some_iff.mp hj
    refine f_I (k_V (b := a0) (As := [.int a1, .int a2]) (n := 2) (rest := []) cx hl.1 hP hS (c_X6_canSet l X g M a0 a1 a2 v2 g_v2) o1 rfl mC_X6_canSet mM_X6_209 mI_X6_canSet mS_X6_canSet mZ_X6 (by decide +kernel) ⟨Nat.le_of_ble_eq_true rfl, Nat.le_of_ble_eq_true rfl⟩ rfl rfl (Nat.le_of_ble_eq_true rfl) dX6_set_3 ⟨Nat.le_of_ble_eq_true rfl, Nat.le_of_ble_eq_true rfl⟩) hS (fun H locs hP hS => ?_)
    have hP : hp X M H := hP
    refine W.eq (g2 := F0 m 6 ls [.int v2]) rfl ?_
    refine W.widen (k := 0) (n := 0) (Nat.le_of_ble_eq_true rfl) (Nat.le_of_ble_eq_true rfl) ?_
    refine lv_if_eq (tgt := 23) hx hb dX6_set_6 (by decide) (fun c3 => ?_) (fun c3 => ?_)
    · have hj := if_t c3 hj
      exact J_23 M H locs ls hj hP hS (lv_sub hl [] rfl)
    · have hj := if_f c3 hj
      refine lv_iload hx hb dX6_set_9 (lv_at hl 4 rfl) ?_
      refine lv_sipush (v := -1000) hx hb dX6_set_11 (by decide) ?_
      refine lv_sipush (v := 900) hx hb dX6_set_14 (by decide) ?_
      obtain ⟨v4, g_v4, hj⟩ := Option.bind_eq_some_iff.mp hj
      refine f_I (k_S (As := [.int a4, .int (-1000 : Int32), .int (900 : Int32)]) (n := 3) (rest := []) cx hl.1 hP hS (c_X6_isIn l X g M a4 (-1000 : Int32) (900 : Int32) v4 g_v4) mC_X6_isIn mM_X6_191 mT_X6_isIn mZ_X6 (by decide +kernel) ⟨Nat.le_of_ble_eq_true rfl, Nat.le_of_ble_eq_true rfl⟩ rfl rfl (Nat.le_of_ble_eq_true rfl) dX6_set_17 ⟨Nat.le_of_ble_eq_true rfl, Nat.le_of_ble_eq_true rfl⟩) hS (fun H locs hP hS => ?_)
      have hP : hp X M H := hP
      refine W.eq (g2 := F0 m 20 ls [.int v4]) rfl ?_
      refine W.widen (k := 0) (n := 0) (Nat.le_of_ble_eq_true rfl) (Nat.le_of_ble_eq_true rfl) ?_
      refine lv_if_ne (tgt := 25) hx hb dX6_set_20 (by decide) (fun c5 => ?_) (fun c5 => ?_)
      · have hj := if_f c5 hj
        refine lv_aload_n hx hb dX6_set_25 rfl (lv_at hl 0 rfl) ?_
        obtain ⟨_, o6, hj⟩ := Option.bind_eq_some_iff.mp hj
        obtain ⟨M7, g_M7, hj⟩ := Option.bind_eq_some_iff.mp hj
        refine f_V (k_V (b := a0) (As := []) (n := 0) (rest := []) cx hl.1 hP hS (c_X6_picture l X g M a0 M7 g_M7) o6 rfl mC_X6_picture mM_X6_212 mI_X6_picture mS_X6_picture mZ_X6 (by decide +kernel) ⟨Nat.le_of_ble_eq_true rfl, Nat.le_of_ble_eq_true rfl⟩ rfl rfl (Nat.le_of_ble_eq_true rfl) dX6_set_26 ⟨Nat.le_of_ble_eq_true rfl, Nat.le_of_ble_eq_true rfl⟩) hS (fun H locs hP hS => ?_)
        have hP : hp X M7 H := hP
        refine W.eq (g2 := F0 m 29 ls []) rfl ?_
        refine W.widen (k := 0) (n := 0) (Nat.le_of_ble_eq_true rfl) (Nat.le_of_ble_eq_true rfl) ?_
        refine lv_aload_n hx hb dX6_set_29 rfl (lv_at hl 0 rfl) ?_
        refine lv_bipush (v := 16) hx hb dX6_set_30 (by decide) ?_
        refine lv_iload_n hx hb dX6_set_32 rfl (lv_at hl 1 rfl) ?_
        refine lv_imul hx hb dX6_set_33 ?_
        refine lv_iload_n hx hb dX6_set_34 rfl (lv_at hl 2 rfl) ?_
        refine lv_iadd hx hb dX6_set_35 ?_
        refine lv_iload_n hx hb dX6_set_36 rfl (lv_at hl 3 rfl) ?_
        refine lv_iload hx hb dX6_set_37 (lv_at hl 4 rfl) ?_
        obtain ⟨v8, g_v8, hj⟩ := Option.bind_eq_some_iff.mp hj
        refine f_D (k_S (As := [.int a3, .int a4]) (n := 2) (rest := [.int (((16 : Int32) * a1) + a2), .ref a0]) cx hl.1 hP hS (c_X6_power l X g M7 a3 a4 v8 g_v8) mC_X6_power mM_X6_215 mT_X6_power mZ_X6 (by decide +kernel) ⟨Nat.le_of_ble_eq_true rfl, Nat.le_of_ble_eq_true rfl⟩ rfl rfl (Nat.le_of_ble_eq_true rfl) dX6_set_39 ⟨Nat.le_of_ble_eq_true rfl, Nat.le_of_ble_eq_true rfl⟩) hS (fun H locs hP hS => ?_)
        have hP : hp X M7 H := hP
        refine W.eq (g2 := F0 m 42 ls [.double v8, .int (((16 : Int32) * a1) + a2), .ref a0]) rfl ?_
        refine W.widen (k := 0) (n := 0) (Nat.le_of_ble_eq_true rfl) (Nat.le_of_ble_eq_true rfl) ?_
        refine lv_aload_n hx hb dX6_set_42 rfl (lv_at hl 0 rfl) ?_
        obtain ⟨v9, g_v9, hj⟩ := Option.bind_eq_some_iff.mp hj
        refine r_getR cx hP g_v9 iX6 rfl (by decide) mF_X6_19 dX6_set_43 ?_
        refine lv_iload_n hx hb dX6_set_46 rfl (lv_at hl 1 rfl) ?_
        obtain ⟨b10, e_b10, hj⟩ := Option.bind_eq_some_iff.mp hj
        subst e_b10
        obtain ⟨v11, g_v11, hj⟩ := Option.bind_eq_some_iff.mp hj
        refine r_aldZ cx hP g_v11 dX6_set_47 ?_
        obtain ⟨v12, g_v12, hj⟩ := Option.bind_eq_some_iff.mp hj
        refine f_D (k_S (As := [.double v8, .int v11]) (n := 2) (rest := [.int (((16 : Int32) * a1) + a2), .ref a0]) cx hl.1 hP hS (c_X6_brought l X g M7 v8 v11 v12 g_v12) mC_X6_brought mM_X6_132 mT_X6_brought mZ_X6 (by decide +kernel) ⟨Nat.le_of_ble_eq_true rfl, Nat.le_of_ble_eq_true rfl⟩ rfl rfl (Nat.le_of_ble_eq_true rfl) dX6_set_48 ⟨Nat.le_of_ble_eq_true rfl, Nat.le_of_ble_eq_true rfl⟩) hS (fun H locs hP hS => ?_)
        have hP : hp X M7 H := hP
        refine W.eq (g2 := F0 m 51 ls [.double v12, .int (((16 : Int32) * a1) + a2), .ref a0]) rfl ?_
        refine W.widen (k := 0) (n := 0) (Nat.le_of_ble_eq_true rfl) (Nat.le_of_ble_eq_true rfl) ?_
        obtain ⟨_, o13, hj⟩ := Option.bind_eq_some_iff.mp hj
        obtain ⟨M14, g_M14, hj⟩ := Option.bind_eq_some_iff.mp hj
        refine f_V (k_V (b := a0) (As := [.int (((16 : Int32) * a1) + a2), .double v12]) (n := 2) (rest := []) cx hl.1 hP hS (c_X6_put l X g M7 a0 (((16 : Int32) * a1) + a2) v12 M14 g_M14) o13 rfl mC_X6_put mM_X6_195 mI_X6_put mS_X6_put mZ_X6 (by decide +kernel) ⟨Nat.le_of_ble_eq_true rfl, Nat.le_of_ble_eq_true rfl⟩ rfl rfl (Nat.le_of_ble_eq_true rfl) dX6_set_51 ⟨Nat.le_of_ble_eq_true rfl, Nat.le_of_ble_eq_true rfl⟩) hS (fun H locs hP hS => ?_)
        have hP : hp X M14 H := hP
        refine W.eq (g2 := F0 m 54 ls []) rfl ?_
        refine W.widen (k := 0) (n := 0) (Nat.le_of_ble_eq_true rfl) (Nat.le_of_ble_eq_true rfl) ?_
        refine lv_aload_n hx hb dX6_set_54 rfl (lv_at hl 0 rfl) ?_
        obtain ⟨_, o15, hj⟩ := Option.bind_eq_some_iff.mp hj
        obtain ⟨⟨Mq16, vq16⟩, g_q16, hj⟩ := Option.bind_eq_some_iff.mp hj
        refine f_I (k_V (b := a0) (As := []) (n := 0) (rest := []) cx hl.1 hP hS (c_X6_changed l X g M14 a0 (Mq16, vq16) g_q16) o15 rfl mC_X6_changed mM_X6_218 mI_X6_changed mS_X6_changed mZ_X6 (by decide +kernel) ⟨Nat.le_of_ble_eq_true rfl, Nat.le_of_ble_eq_true rfl⟩ rfl rfl (Nat.le_of_ble_eq_true rfl) dX6_set_55 ⟨Nat.le_of_ble_eq_true rfl, Nat.le_of_ble_eq_true rfl⟩) hS (fun H locs hP hS => ?_)
        have hP : hp X Mq16 H := hP
        refine W.eq (g2 := F0 m 58 ls [.int vq16]) rfl ?_
        refine W.widen (k := 0) (n := 0) (Nat.le_of_ble_eq_true rfl) (Nat.le_of_ble_eq_true rfl) ?_
        exact t_I cx hr hlocks hP hS (Option.some.inj hj) (Nat.le_of_ble_eq_true rfl) (Nat.le_of_ble_eq_true rfl) dX6_set_58
      · have hj := if_t c5 hj
        exact J_23 M H locs ls hj hP hS (lv_sub hl [] rfl)
  exact hgo _ _ hP hS
set_option maxHeartbeats 4000000 in
set_option maxRecDepth 100000 in
theorem c_X6_special (l : Launch) (X : hX) (g : Nat) (M : hm) (a0 : Nat) (a1 : Int32) (a2 : Int32) (a3 : Int32) (RR : hm × Int32) (hj : j_X6_special g M a0 a1 a2 a3 = some RR) : Ct l X yX6_special cX6_special 4 (some .int) { frames := 2, cells := 0, slots := 0, locals := 46 } [.ref a0, .int a1, .int a2, .int a3] M (qI X RR) := by
  refine h_enter (own := RX6) (by decide) rfl (Nat.le_of_ble_eq_true rfl) ?_
  intro p e s m below meth c ls cx hr hlocks hnm hP hS hl
  have hx := cx.1
  have hb := cx.2.1
  have hl : lv_has ls 4 [(0, .ref a0), (1, .int a1), (2, .int a2), (3, .int a3)] := hl
  unfold j_X6_special at hj
  have hgo : ∀ (H : Heap) (locs : List Loc), hp X M H → va_S (hA X) s.heap H locs → W p l e ({ frames := 2, cells := 0, slots := 0, locals := 46 } : Room) s m _ below meth c H locs 0 0 (MQ below (qI X RR) _ s 0 0 (hA X)) (F0 m 0 ls []) := by
    have J_18 : ∀ (M : hm) (H : Heap) (locs : List Loc) (ls : Array Slot), j_X6_special_18 g M = some RR → hp X M H → va_S (hA X) s.heap H locs → lv_has ls 4 [] → W p l e ({ frames := 2, cells := 0, slots := 0, locals := 46 } : Room) s m _ below meth c H locs 0 0 (MQ below (qI X RR) _ s 0 0 (hA X)) (F0 m 18 ls []) := by
      intro M H locs ls hj hP hS hl
      unfold j_X6_special_18 at hj
      refine lv_iconst (v := 0) hx hb dX6_special_18 (by decide) ?_
      exact t_I cx hr hlocks hP hS (Option.some.inj hj) (Nat.le_of_ble_eq_true rfl) (Nat.le_of_ble_eq_true rfl) dX6_special_19
    intro H locs hP hS
    refine lv_aload_n hx hb dX6_special_0 rfl (lv_at hl 0 rfl) ?_
    refine lv_iload_n hx hb dX6_special_1 rfl (lv_at hl 1 rfl) ?_
    refine lv_iload_n hx hb dX6_special_2 rfl (lv_at hl 2 rfl) ?_
    obtain ⟨_, o1, hj⟩ := Option.bind_eq_some_iff.mp hj
    obtain ⟨v2, g_v2, hj⟩ := Option.bind_eq_some_iff.mp hj
    refine f_I (k_V (b := a0) (As := [.int a1, .int a2]) (n := 2) (rest := []) cx hl.1 hP hS (c_X6_canSet l X g M a0 a1 a2 v2 g_v2) o1 rfl mC_X6_canSet mM_X6_209 mI_X6_canSet mS_X6_canSet mZ_X6 (by decide +kernel) ⟨Nat.le_of_ble_eq_true rfl, Nat.le_of_ble_eq_true rfl⟩ rfl rfl (Nat.le_of_ble_eq_true rfl) dX6_special_3 ⟨Nat.le_of_ble_eq_true rfl, Nat.le_of_ble_eq_true rfl⟩) hS (fun H locs hP hS => ?_)
    have hP : hp X M H := hP
    refine W.eq (g2 := F0 m 6 ls [.int v2]) rfl ?_
    refine W.widen (k := 0) (n := 0) (Nat.le_of_ble_eq_true rfl) (Nat.le_of_ble_eq_true rfl) ?_
    refine lv_if_eq (tgt := 18) hx hb dX6_special_6 (by decide) (fun c3 => ?_) (fun c3 => ?_)
    · have hj := if_t c3 hj
      exact J_18 M H locs ls hj hP hS (lv_sub hl [] rfl)
    · have hj := if_f c3 hj
      refine lv_iload_n hx hb dX6_special_9 rfl (lv_at hl 3 rfl) ?_
      refine lv_iconst (v := 0) hx hb dX6_special_10 (by decide) ?_
      refine lv_iconst (v := 5) hx hb dX6_special_11 (by decide) ?_
      obtain ⟨v4, g_v4, hj⟩ := Option.bind_eq_some_iff.mp hj
      refine f_I (k_S (As := [.int a3, .int (0 : Int32), .int (5 : Int32)]) (n := 3) (rest := []) cx hl.1 hP hS (c_X6_isIn l X g M a3 (0 : Int32) (5 : Int32) v4 g_v4) mC_X6_isIn mM_X6_191 mT_X6_isIn mZ_X6 (by decide +kernel) ⟨Nat.le_of_ble_eq_true rfl, Nat.le_of_ble_eq_true rfl⟩ rfl rfl (Nat.le_of_ble_eq_true rfl) dX6_special_12 ⟨Nat.le_of_ble_eq_true rfl, Nat.le_of_ble_eq_true rfl⟩) hS (fun H locs hP hS => ?_)
      have hP : hp X M H := hP
      refine W.eq (g2 := F0 m 15 ls [.int v4]) rfl ?_
      refine W.widen (k := 0) (n := 0) (Nat.le_of_ble_eq_true rfl) (Nat.le_of_ble_eq_true rfl) ?_
      refine lv_if_ne (tgt := 20) hx hb dX6_special_15 (by decide) (fun c5 => ?_) (fun c5 => ?_)
      · have hj := if_f c5 hj
        refine lv_aload_n hx hb dX6_special_20 rfl (lv_at hl 0 rfl) ?_
        obtain ⟨_, o6, hj⟩ := Option.bind_eq_some_iff.mp hj
        obtain ⟨M7, g_M7, hj⟩ := Option.bind_eq_some_iff.mp hj
        refine f_V (k_V (b := a0) (As := []) (n := 0) (rest := []) cx hl.1 hP hS (c_X6_picture l X g M a0 M7 g_M7) o6 rfl mC_X6_picture mM_X6_212 mI_X6_picture mS_X6_picture mZ_X6 (by decide +kernel) ⟨Nat.le_of_ble_eq_true rfl, Nat.le_of_ble_eq_true rfl⟩ rfl rfl (Nat.le_of_ble_eq_true rfl) dX6_special_21 ⟨Nat.le_of_ble_eq_true rfl, Nat.le_of_ble_eq_true rfl⟩) hS (fun H locs hP hS => ?_)
        have hP : hp X M7 H := hP
        refine W.eq (g2 := F0 m 24 ls []) rfl ?_
        refine W.widen (k := 0) (n := 0) (Nat.le_of_ble_eq_true rfl) (Nat.le_of_ble_eq_true rfl) ?_
        refine lv_aload_n hx hb dX6_special_24 rfl (lv_at hl 0 rfl) ?_
        refine lv_bipush (v := 16) hx hb dX6_special_25 (by decide) ?_
        refine lv_iload_n hx hb dX6_special_27 rfl (lv_at hl 1 rfl) ?_
        refine lv_imul hx hb dX6_special_28 ?_
        refine lv_iload_n hx hb dX6_special_29 rfl (lv_at hl 2 rfl) ?_
        refine lv_iadd hx hb dX6_special_30 ?_
        refine lv_iload_n hx hb dX6_special_31 rfl (lv_at hl 3 rfl) ?_
        refine lv_aload_n hx hb dX6_special_32 rfl (lv_at hl 0 rfl) ?_
        obtain ⟨v8, g_v8, hj⟩ := Option.bind_eq_some_iff.mp hj
        refine r_getR cx hP g_v8 iX6 rfl (by decide) mF_X6_19 dX6_special_33 ?_
        refine lv_iload_n hx hb dX6_special_36 rfl (lv_at hl 1 rfl) ?_
        obtain ⟨b9, e_b9, hj⟩ := Option.bind_eq_some_iff.mp hj
        subst e_b9
        obtain ⟨v10, g_v10, hj⟩ := Option.bind_eq_some_iff.mp hj
        refine r_aldZ cx hP g_v10 dX6_special_37 ?_
        obtain ⟨_, o11, hj⟩ := Option.bind_eq_some_iff.mp hj
        obtain ⟨M12, g_M12, hj⟩ := Option.bind_eq_some_iff.mp hj
        refine f_V (k_V (b := a0) (As := [.int (((16 : Int32) * a1) + a2), .int a3, .int v10]) (n := 3) (rest := []) cx hl.1 hP hS (c_X6_putSpecial l X g M7 a0 (((16 : Int32) * a1) + a2) a3 v10 M12 g_M12) o11 rfl mC_X6_putSpecial mM_X6_222 mI_X6_putSpecial mS_X6_putSpecial mZ_X6 (by decide +kernel) ⟨Nat.le_of_ble_eq_true rfl, Nat.le_of_ble_eq_true rfl⟩ rfl rfl (Nat.le_of_ble_eq_true rfl) dX6_special_38 ⟨Nat.le_of_ble_eq_true rfl, Nat.le_of_ble_eq_true rfl⟩) hS (fun H locs hP hS => ?_)
        have hP : hp X M12 H := hP
        refine W.eq (g2 := F0 m 41 ls []) rfl ?_
        refine W.widen (k := 0) (n := 0) (Nat.le_of_ble_eq_true rfl) (Nat.le_of_ble_eq_true rfl) ?_
        refine lv_aload_n hx hb dX6_special_41 rfl (lv_at hl 0 rfl) ?_
        obtain ⟨_, o13, hj⟩ := Option.bind_eq_some_iff.mp hj
        obtain ⟨⟨Mq14, vq14⟩, g_q14, hj⟩ := Option.bind_eq_some_iff.mp hj
        refine f_I (k_V (b := a0) (As := []) (n := 0) (rest := []) cx hl.1 hP hS (c_X6_changed l X g M12 a0 (Mq14, vq14) g_q14) o13 rfl mC_X6_changed mM_X6_218 mI_X6_changed mS_X6_changed mZ_X6 (by decide +kernel) ⟨Nat.le_of_ble_eq_true rfl, Nat.le_of_ble_eq_true rfl⟩ rfl rfl (Nat.le_of_ble_eq_true rfl) dX6_special_42 ⟨Nat.le_of_ble_eq_true rfl, Nat.le_of_ble_eq_true rfl⟩) hS (fun H locs hP hS => ?_)
        have hP : hp X Mq14 H := hP
        refine W.eq (g2 := F0 m 45 ls [.int vq14]) rfl ?_
        refine W.widen (k := 0) (n := 0) (Nat.le_of_ble_eq_true rfl) (Nat.le_of_ble_eq_true rfl) ?_
        exact t_I cx hr hlocks hP hS (Option.some.inj hj) (Nat.le_of_ble_eq_true rfl) (Nat.le_of_ble_eq_true rfl) dX6_special_45
      · have hj := if_t c5 hj
        exact J_18 M H locs ls hj hP hS (lv_sub hl [] rfl)
  exact hgo _ _ hP hS
set_option maxHeartbeats 4000000 in
set_option maxRecDepth 100000 in
theorem c_X6_told (l : Launch) (X : hX) (g : Nat) (M : hm) (a0 : Nat) (a1 : Int32) (a2 : Int32) (RR : hm × Int32) (hj : j_X6_told g M a0 a1 a2 = some RR) : Ct l X yX6_told cX6_told 5 (some .int) { frames := 9, cells := 0, slots := 0, locals := 212 } [.ref a0, .int a1, .int a2] M (qI X RR) := by
  refine h_enter (own := RX6) (by decide) rfl (Nat.le_of_ble_eq_true rfl) ?_
  intro p e s m below meth c ls cx hr hlocks hnm hP hS hl
  have hx := cx.1
  have hb := cx.2.1
  have hl : lv_has ls 5 [(0, .ref a0), (1, .int a1), (2, .int a2)] := hl
  unfold j_X6_told at hj
  have hgo : ∀ (H : Heap) (locs : List Loc), hp X M H → va_S (hA X) s.heap H locs → W p l e ({ frames := 9, cells := 0, slots := 0, locals := 212 } : Room) s m _ below meth c H locs 0 0 (MQ below (qI X RR) _ s 0 0 (hA X)) (F0 m 0 ls []) := by
    have J_156 : ∀ (M : hm) (p3 : Int32) (H : Heap) (locs : List Loc) (ls : Array Slot), j_X6_told_156 g M p3 = some RR → hp X M H → va_S (hA X) s.heap H locs → lv_has ls 5 [(3, .int p3)] → W p l e ({ frames := 9, cells := 0, slots := 0, locals := 212 } : Room) s m _ below meth c H locs 0 0 (MQ below (qI X RR) _ s 0 0 (hA X)) (F0 m 156 ls []) := by
      intro M p3 H locs ls hj hP hS hl
      unfold j_X6_told_156 at hj
      refine lv_iload_n hx hb dX6_told_156 rfl (lv_at hl 0 rfl) ?_
      exact t_I cx hr hlocks hP hS (Option.some.inj hj) (Nat.le_of_ble_eq_true rfl) (Nat.le_of_ble_eq_true rfl) dX6_told_157
    have L_125 : ∀ (n125 : Nat) (M : hm) (p0 : Nat) (p1 : Int32) (p3 : Int32) (p4 : Int32) (H : Heap) (locs : List Loc) (ls : Array Slot), j_X6_told_125 g n125 M p0 p1 p3 p4 = some RR → hp X M H → va_S (hA X) s.heap H locs → lv_has ls 5 [(0, .ref p0), (1, .int p1), (3, .int p3), (4, .int p4)] → W p l e ({ frames := 9, cells := 0, slots := 0, locals := 212 } : Room) s m _ below meth c H locs 0 0 (MQ below (qI X RR) _ s 0 0 (hA X)) (F0 m 125 ls []) := by
      intro n125
      induction n125 with
      | zero =>
        intro M p0 p1 p3 p4 H locs ls hj
        exact no_zero hj
      | succ n125 ih_125 =>
        have J_148 : ∀ (M : hm) (p0 : Nat) (p1 : Int32) (p4 : Int32) (s0 : Int32) (s1 : Int32) (H : Heap) (locs : List Loc) (ls : Array Slot), j_X6_told_148 g (fun M p0 p1 p3 p4 => j_X6_told_125 g n125 M p0 p1 p3 p4) M p0 p1 p4 s0 s1 = some RR → hp X M H → va_S (hA X) s.heap H locs → lv_has ls 5 [(0, .ref p0), (1, .int p1), (4, .int p4)] → W p l e ({ frames := 9, cells := 0, slots := 0, locals := 212 } : Room) s m _ below meth c H locs 0 0 (MQ below (qI X RR) _ s 0 0 (hA X)) (F0 m 148 ls [.int s0, .int s1]) := by
          intro M p0 p1 p4 s0 s1 H locs ls hj hP hS hl
          unfold j_X6_told_148 at hj
          refine lv_iadd hx hb dX6_told_148 ?_
          refine lv_istore_n (lv' := [(3, .int (s1 + s0)), (0, .ref p0), (1, .int p1), (4, .int p4)]) hx hb dX6_told_149 rfl hl (by decide) rfl (fun ls hl => ?_)
          refine lv_iinc (v := (p4 + (1 : Int32))) (lv' := [(4, .int (p4 + (1 : Int32))), (3, .int (s1 + s0)), (0, .ref p0), (1, .int p1)]) hx hb dX6_told_150 hl (k := 3) rfl rfl (by decide) rfl (fun ls hl => ?_)
          refine lv_goto (tgt := 125) hx hb dX6_told_153 (by decide) ?_
          exact ih_125 M p0 p1 (s1 + s0) (p4 + (1 : Int32)) H locs ls hj hP hS (lv_sub hl [2, 3, 1, 0] rfl)
        intro M p0 p1 p3 p4 H locs ls hj hP hS hl
        rw [j_X6_told_125_s] at hj
        refine lv_iload hx hb dX6_told_125 (lv_at hl 3 rfl) ?_
        refine lv_bipush (v := 16) hx hb dX6_told_127 (by decide) ?_
        refine lv_icmp_ge (tgt := 156) hx hb dX6_told_129 (by decide) (fun c1 => ?_) (fun c1 => ?_)
        · have hj := if_t c1 hj
          exact J_156 M p3 H locs ls hj hP hS (lv_sub hl [2] rfl)
        · have hj := if_f c1 hj
          refine lv_iload_n hx hb dX6_told_132 rfl (lv_at hl 2 rfl) ?_
          refine lv_aload_n hx hb dX6_told_133 rfl (lv_at hl 0 rfl) ?_
          refine lv_iload_n hx hb dX6_told_134 rfl (lv_at hl 1 rfl) ?_
          refine lv_iload hx hb dX6_told_135 (lv_at hl 3 rfl) ?_
          obtain ⟨_, o2, hj⟩ := Option.bind_eq_some_iff.mp hj
          obtain ⟨⟨Mq3, vq3⟩, g_q3, hj⟩ := Option.bind_eq_some_iff.mp hj
          refine f_I (k_V (b := p0) (As := [.int p1, .int p4]) (n := 2) (rest := [.int p3]) cx hl.1 hP hS (c_X6_isBlank l X g M p0 p1 p4 (Mq3, vq3) g_q3) o2 rfl mC_X6_isBlank mM_X6_254 mI_X6_isBlank mS_X6_isBlank mZ_X6 (by decide +kernel) ⟨Nat.le_of_ble_eq_true rfl, Nat.le_of_ble_eq_true rfl⟩ rfl rfl (Nat.le_of_ble_eq_true rfl) dX6_told_137 ⟨Nat.le_of_ble_eq_true rfl, Nat.le_of_ble_eq_true rfl⟩) hS (fun H locs hP hS => ?_)
          have hP : hp X Mq3 H := hP
          refine W.eq (g2 := F0 m 140 ls [.int vq3, .int p3]) rfl ?_
          refine W.widen (k := 0) (n := 0) (Nat.le_of_ble_eq_true rfl) (Nat.le_of_ble_eq_true rfl) ?_
          refine lv_if_eq (tgt := 147) hx hb dX6_told_140 (by decide) (fun c4 => ?_) (fun c4 => ?_)
          · have hj := if_t c4 hj
            refine lv_iconst (v := 0) hx hb dX6_told_147 (by decide) ?_
            exact J_148 Mq3 p0 p1 p4 (0 : Int32) p3 H locs ls hj hP hS (lv_sub hl [0, 1, 3] rfl)
          · have hj := if_f c4 hj
            refine lv_iconst (v := 1) hx hb dX6_told_143 (by decide) ?_
            refine lv_goto (tgt := 148) hx hb dX6_told_144 (by decide) ?_
            exact J_148 Mq3 p0 p1 p4 (1 : Int32) p3 H locs ls hj hP hS (lv_sub hl [0, 1, 3] rfl)
    have J_119 : ∀ (M : hm) (s0 : Int32) (H : Heap) (locs : List Loc) (ls : Array Slot), j_X6_told_119 g M s0 = some RR → hp X M H → va_S (hA X) s.heap H locs → lv_has ls 5 [] → W p l e ({ frames := 9, cells := 0, slots := 0, locals := 212 } : Room) s m _ below meth c H locs 0 0 (MQ below (qI X RR) _ s 0 0 (hA X)) (F0 m 119 ls [.int s0]) := by
      intro M s0 H locs ls hj hP hS hl
      unfold j_X6_told_119 at hj
      exact t_I cx hr hlocks hP hS (Option.some.inj hj) (Nat.le_of_ble_eq_true rfl) (Nat.le_of_ble_eq_true rfl) dX6_told_119
    have J_104 : ∀ (M : hm) (s0 : Int32) (H : Heap) (locs : List Loc) (ls : Array Slot), j_X6_told_104 g M s0 = some RR → hp X M H → va_S (hA X) s.heap H locs → lv_has ls 5 [] → W p l e ({ frames := 9, cells := 0, slots := 0, locals := 212 } : Room) s m _ below meth c H locs 0 0 (MQ below (qI X RR) _ s 0 0 (hA X)) (F0 m 104 ls [.int s0]) := by
      intro M s0 H locs ls hj hP hS hl
      unfold j_X6_told_104 at hj
      exact t_I cx hr hlocks hP hS (Option.some.inj hj) (Nat.le_of_ble_eq_true rfl) (Nat.le_of_ble_eq_true rfl) dX6_told_104
    have J_42 : ∀ (M : hm) (s0 : Int32) (H : Heap) (locs : List Loc) (ls : Array Slot), j_X6_told_42 g M s0 = some RR → hp X M H → va_S (hA X) s.heap H locs → lv_has ls 5 [] → W p l e ({ frames := 9, cells := 0, slots := 0, locals := 212 } : Room) s m _ below meth c H locs 0 0 (MQ below (qI X RR) _ s 0 0 (hA X)) (F0 m 42 ls [.int s0]) := by
      intro M s0 H locs ls hj hP hS hl
      unfold j_X6_told_42 at hj
      exact t_I cx hr hlocks hP hS (Option.some.inj hj) (Nat.le_of_ble_eq_true rfl) (Nat.le_of_ble_eq_true rfl) dX6_told_42
    intro H locs hP hS
    refine lv_iload_n hx hb dX6_told_0 rfl (lv_at hl 1 rfl) ?_
    refine lv_bipush (v := 12) hx hb dX6_told_1 (by decide) ?_
    refine lv_icmp_ne (tgt := 43) hx hb dX6_told_3 (by decide) (fun c5 => ?_) (fun c5 => ?_)
    · have hj := if_f c5 hj
      refine lv_iload_n hx hb dX6_told_43 rfl (lv_at hl 1 rfl) ?_
      refine lv_iconst (v := 0) hx hb dX6_told_44 (by decide) ?_
      refine lv_bipush (v := 11) hx hb dX6_told_45 (by decide) ?_
      obtain ⟨v6, g_v6, hj⟩ := Option.bind_eq_some_iff.mp hj
      refine f_I (k_S (As := [.int a1, .int (0 : Int32), .int (11 : Int32)]) (n := 3) (rest := []) cx hl.1 hP hS (c_X6_isIn l X g M a1 (0 : Int32) (11 : Int32) v6 g_v6) mC_X6_isIn mM_X6_191 mT_X6_isIn mZ_X6 (by decide +kernel) ⟨Nat.le_of_ble_eq_true rfl, Nat.le_of_ble_eq_true rfl⟩ rfl rfl (Nat.le_of_ble_eq_true rfl) dX6_told_47 ⟨Nat.le_of_ble_eq_true rfl, Nat.le_of_ble_eq_true rfl⟩) hS (fun H locs hP hS => ?_)
      have hP : hp X M H := hP
      refine W.eq (g2 := F0 m 50 ls [.int v6]) rfl ?_
      refine W.widen (k := 0) (n := 0) (Nat.le_of_ble_eq_true rfl) (Nat.le_of_ble_eq_true rfl) ?_
      refine lv_if_ne (tgt := 55) hx hb dX6_told_50 (by decide) (fun c7 => ?_) (fun c7 => ?_)
      · have hj := if_f c7 hj
        refine lv_iload_n hx hb dX6_told_55 rfl (lv_at hl 2 rfl) ?_
        by_cases c8 : a2 = (0 : Int32)
        · have hj := if_t c8 hj
          refine lv_tableIn (off := 32) (tgt := 88) hx hb dX6_told_56 (by rw [c8]; decide) (by rw [c8]; decide) (by rw [c8]; decide) (by decide) ?_
          refine lv_aload_n hx hb dX6_told_88 rfl (lv_at hl 0 rfl) ?_
          obtain ⟨v12, g_v12, hj⟩ := Option.bind_eq_some_iff.mp hj
          refine r_getR cx hP g_v12 iX6 rfl (by decide) mF_X6_22 dX6_told_89 ?_
          refine lv_iconst (v := 4) hx hb dX6_told_92 (by decide) ?_
          refine lv_iload_n hx hb dX6_told_93 rfl (lv_at hl 1 rfl) ?_
          refine lv_imul hx hb dX6_told_94 ?_
          obtain ⟨b13, e_b13, hj⟩ := Option.bind_eq_some_iff.mp hj
          subst e_b13
          obtain ⟨v14, g_v14, hj⟩ := Option.bind_eq_some_iff.mp hj
          refine r_aldI cx hP g_v14 dX6_told_95 ?_
          refine lv_if_ge (tgt := 103) hx hb dX6_told_96 (by decide) (fun c15 => ?_) (fun c15 => ?_)
          · have hj := if_t c15 hj
            refine lv_iconst (v := 1) hx hb dX6_told_103 (by decide) ?_
            exact J_104 M (1 : Int32) H locs ls hj hP hS (lv_sub hl [] rfl)
          · have hj := if_f c15 hj
            refine lv_iconst (v := 0) hx hb dX6_told_99 (by decide) ?_
            refine lv_goto (tgt := 104) hx hb dX6_told_100 (by decide) ?_
            exact J_104 M (0 : Int32) H locs ls hj hP hS (lv_sub hl [] rfl)
        have hj := if_f c8 hj
        by_cases c9 : a2 = (1 : Int32)
        · have hj := if_t c9 hj
          refine lv_tableIn (off := 49) (tgt := 105) hx hb dX6_told_56 (by rw [c9]; decide) (by rw [c9]; decide) (by rw [c9]; decide) (by decide) ?_
          refine lv_aload_n hx hb dX6_told_105 rfl (lv_at hl 0 rfl) ?_
          obtain ⟨v16, g_v16, hj⟩ := Option.bind_eq_some_iff.mp hj
          refine r_getR cx hP g_v16 iX6 rfl (by decide) mF_X6_19 dX6_told_106 ?_
          refine lv_iload_n hx hb dX6_told_109 rfl (lv_at hl 1 rfl) ?_
          obtain ⟨b17, e_b17, hj⟩ := Option.bind_eq_some_iff.mp hj
          subst e_b17
          obtain ⟨v18, g_v18, hj⟩ := Option.bind_eq_some_iff.mp hj
          refine r_aldZ cx hP g_v18 dX6_told_110 ?_
          refine lv_if_eq (tgt := 118) hx hb dX6_told_111 (by decide) (fun c19 => ?_) (fun c19 => ?_)
          · have hj := if_t c19 hj
            refine lv_iconst (v := 0) hx hb dX6_told_118 (by decide) ?_
            exact J_119 M (0 : Int32) H locs ls hj hP hS (lv_sub hl [] rfl)
          · have hj := if_f c19 hj
            refine lv_iconst (v := 1) hx hb dX6_told_114 (by decide) ?_
            refine lv_goto (tgt := 119) hx hb dX6_told_115 (by decide) ?_
            exact J_119 M (1 : Int32) H locs ls hj hP hS (lv_sub hl [] rfl)
        have hj := if_f c9 hj
        by_cases c10 : a2 = (2 : Int32)
        · have hj := if_t c10 hj
          refine lv_tableIn (off := 64) (tgt := 120) hx hb dX6_told_56 (by rw [c10]; decide) (by rw [c10]; decide) (by rw [c10]; decide) (by decide) ?_
          refine lv_iconst (v := 0) hx hb dX6_told_120 (by decide) ?_
          refine lv_istore_n (lv' := [(3, .int (0 : Int32)), (0, .ref a0), (1, .int a1), (2, .int a2)]) hx hb dX6_told_121 rfl hl (by decide) rfl (fun ls hl => ?_)
          refine lv_iconst (v := 0) hx hb dX6_told_122 (by decide) ?_
          refine lv_istore (lv' := [(4, .int (0 : Int32)), (3, .int (0 : Int32)), (0, .ref a0), (1, .int a1), (2, .int a2)]) hx hb dX6_told_123 hl (by decide) rfl (fun ls hl => ?_)
          exact L_125 g M a0 a1 (0 : Int32) (0 : Int32) H locs ls hj hP hS (lv_sub hl [2, 3, 1, 0] rfl)
        have hj := if_f c10 hj
        by_cases c11 : a2 = (3 : Int32)
        · have hj := if_t c11 hj
          refine lv_tableIn (off := 102) (tgt := 158) hx hb dX6_told_56 (by rw [c11]; decide) (by rw [c11]; decide) (by rw [c11]; decide) (by decide) ?_
          refine lv_aload_n hx hb dX6_told_158 rfl (lv_at hl 0 rfl) ?_
          obtain ⟨v20, g_v20, hj⟩ := Option.bind_eq_some_iff.mp hj
          refine r_getR cx hP g_v20 iX6 rfl (by decide) mF_X6_22 dX6_told_159 ?_
          refine lv_iconst (v := 4) hx hb dX6_told_162 (by decide) ?_
          refine lv_iload_n hx hb dX6_told_163 rfl (lv_at hl 1 rfl) ?_
          refine lv_imul hx hb dX6_told_164 ?_
          obtain ⟨b21, e_b21, hj⟩ := Option.bind_eq_some_iff.mp hj
          subst e_b21
          obtain ⟨v22, g_v22, hj⟩ := Option.bind_eq_some_iff.mp hj
          refine r_aldI cx hP g_v22 dX6_told_165 ?_
          exact t_I cx hr hlocks hP hS (Option.some.inj hj) (Nat.le_of_ble_eq_true rfl) (Nat.le_of_ble_eq_true rfl) dX6_told_166
        have hj := if_f c11 hj
        have sw : a2.toInt < 0 ∨ 3 < a2.toInt := by
          rcases Int.lt_or_ge a2.toInt 0 with q | q
          · exact Or.inl q
          have q := sw_step q (sw_ne c8 (by decide))
          have q := sw_step q (sw_ne c9 (by decide))
          have q := sw_step q (sw_ne c10 (by decide))
          have q := sw_step q (sw_ne c11 (by decide))
          exact Or.inr (by omega)
        refine lv_tableOut (tgt := 167) hx hb dX6_told_56 sw (by decide) ?_
        refine lv_iconst (v := -1) hx hb dX6_told_167 (by decide) ?_
        exact t_I cx hr hlocks hP hS (Option.some.inj hj) (Nat.le_of_ble_eq_true rfl) (Nat.le_of_ble_eq_true rfl) dX6_told_168
      · have hj := if_t c7 hj
        refine lv_iconst (v := -1) hx hb dX6_told_53 (by decide) ?_
        exact t_I cx hr hlocks hP hS (Option.some.inj hj) (Nat.le_of_ble_eq_true rfl) (Nat.le_of_ble_eq_true rfl) dX6_told_54
    · have hj := if_t c5 hj
      refine lv_iload_n hx hb dX6_told_6 rfl (lv_at hl 2 rfl) ?_
      refine lv_if_ne (tgt := 17) hx hb dX6_told_7 (by decide) (fun c23 => ?_) (fun c23 => ?_)
      · have hj := if_f c23 hj
        refine lv_iload_n hx hb dX6_told_17 rfl (lv_at hl 2 rfl) ?_
        refine lv_iconst (v := 1) hx hb dX6_told_18 (by decide) ?_
        refine lv_icmp_ne (tgt := 29) hx hb dX6_told_19 (by decide) (fun c24 => ?_) (fun c24 => ?_)
        · have hj := if_f c24 hj
          refine lv_iload_n hx hb dX6_told_29 rfl (lv_at hl 2 rfl) ?_
          refine lv_iconst (v := 2) hx hb dX6_told_30 (by decide) ?_
          refine lv_icmp_ne (tgt := 41) hx hb dX6_told_31 (by decide) (fun c25 => ?_) (fun c25 => ?_)
          · have hj := if_f c25 hj
            refine lv_iconst (v := -1) hx hb dX6_told_41 (by decide) ?_
            exact J_42 M (-1 : Int32) H locs ls hj hP hS (lv_sub hl [] rfl)
          · have hj := if_t c25 hj
            refine lv_aload_n hx hb dX6_told_34 rfl (lv_at hl 0 rfl) ?_
            obtain ⟨v26, g_v26, hj⟩ := Option.bind_eq_some_iff.mp hj
            refine r_getI cx hP g_v26 iX6 rfl (by decide) mF_X6_239 dX6_told_35 ?_
            refine lv_goto (tgt := 42) hx hb dX6_told_38 (by decide) ?_
            exact J_42 M v26 H locs ls hj hP hS (lv_sub hl [] rfl)
        · have hj := if_t c24 hj
          refine lv_aload_n hx hb dX6_told_22 rfl (lv_at hl 0 rfl) ?_
          obtain ⟨v27, g_v27, hj⟩ := Option.bind_eq_some_iff.mp hj
          refine r_getI cx hP g_v27 iX6 rfl (by decide) mF_X6_229 dX6_told_23 ?_
          refine lv_goto (tgt := 42) hx hb dX6_told_26 (by decide) ?_
          exact J_42 M v27 H locs ls hj hP hS (lv_sub hl [] rfl)
      · have hj := if_t c23 hj
        refine lv_aload_n hx hb dX6_told_10 rfl (lv_at hl 0 rfl) ?_
        obtain ⟨v28, g_v28, hj⟩ := Option.bind_eq_some_iff.mp hj
        refine r_getI cx hP g_v28 iX6 rfl (by decide) mF_X6_187 dX6_told_11 ?_
        refine lv_goto (tgt := 42) hx hb dX6_told_14 (by decide) ?_
        exact J_42 M v28 H locs ls hj hP hS (lv_sub hl [] rfl)
  exact hgo _ _ hP hS
set_option maxHeartbeats 4000000 in
set_option maxRecDepth 100000 in
theorem c_X6_width (l : Launch) (X : hX) (g : Nat) (M : hm) (a0 : Nat) (a1 : Int32) (a2 : Int32) (RR : hm × Int32) (hj : j_X6_width g M a0 a1 a2 = some RR) : Ct l X yX6_width cX6_width 4 (some .int) { frames := 1, cells := 0, slots := 0, locals := 22 } [.ref a0, .int a1, .int a2] M (qI X RR) := by
  refine h_enter (own := RX6) (by decide) rfl (Nat.le_of_ble_eq_true rfl) ?_
  intro p e s m below meth c ls cx hr hlocks hnm hP hS hl
  have hx := cx.1
  have hb := cx.2.1
  have hl : lv_has ls 4 [(0, .ref a0), (1, .int a1), (2, .int a2)] := hl
  unfold j_X6_width at hj
  have hgo : ∀ (H : Heap) (locs : List Loc), hp X M H → va_S (hA X) s.heap H locs → W p l e ({ frames := 1, cells := 0, slots := 0, locals := 22 } : Room) s m _ below meth c H locs 0 0 (MQ below (qI X RR) _ s 0 0 (hA X)) (F0 m 0 ls []) := by
    have J_71 : ∀ (M : hm) (p0 : Nat) (H : Heap) (locs : List Loc) (ls : Array Slot), j_X6_width_71 g M p0 = some RR → hp X M H → va_S (hA X) s.heap H locs → lv_has ls 4 [(0, .ref p0)] → W p l e ({ frames := 1, cells := 0, slots := 0, locals := 22 } : Room) s m _ below meth c H locs 0 0 (MQ below (qI X RR) _ s 0 0 (hA X)) (F0 m 71 ls []) := by
      intro M p0 H locs ls hj hP hS hl
      unfold j_X6_width_71 at hj
      refine lv_aload_n hx hb dX6_width_71 rfl (lv_at hl 0 rfl) ?_
      obtain ⟨_, o1, hj⟩ := Option.bind_eq_some_iff.mp hj
      obtain ⟨⟨Mq2, vq2⟩, g_q2, hj⟩ := Option.bind_eq_some_iff.mp hj
      refine f_I (k_V (b := p0) (As := []) (n := 0) (rest := []) cx hl.1 hP hS (c_X6_changed l X g M p0 (Mq2, vq2) g_q2) o1 rfl mC_X6_changed mM_X6_218 mI_X6_changed mS_X6_changed mZ_X6 (by decide +kernel) ⟨Nat.le_of_ble_eq_true rfl, Nat.le_of_ble_eq_true rfl⟩ rfl rfl (Nat.le_of_ble_eq_true rfl) dX6_width_72 ⟨Nat.le_of_ble_eq_true rfl, Nat.le_of_ble_eq_true rfl⟩) hS (fun H locs hP hS => ?_)
      have hP : hp X Mq2 H := hP
      refine W.eq (g2 := F0 m 75 ls [.int vq2]) rfl ?_
      refine W.widen (k := 0) (n := 0) (Nat.le_of_ble_eq_true rfl) (Nat.le_of_ble_eq_true rfl) ?_
      exact t_I cx hr hlocks hP hS (Option.some.inj hj) (Nat.le_of_ble_eq_true rfl) (Nat.le_of_ble_eq_true rfl) dX6_width_75
    have L_38 : ∀ (n38 : Nat) (M : hm) (p0 : Nat) (p1 : Int32) (p2 : Int32) (p3 : Int32) (H : Heap) (locs : List Loc) (ls : Array Slot), j_X6_width_38 g n38 M p0 p1 p2 p3 = some RR → hp X M H → va_S (hA X) s.heap H locs → lv_has ls 4 [(0, .ref p0), (1, .int p1), (2, .int p2), (3, .int p3)] → W p l e ({ frames := 1, cells := 0, slots := 0, locals := 22 } : Room) s m _ below meth c H locs 0 0 (MQ below (qI X RR) _ s 0 0 (hA X)) (F0 m 38 ls []) := by
      intro n38
      induction n38 with
      | zero =>
        intro M p0 p1 p2 p3 H locs ls hj
        exact no_zero hj
      | succ n38 ih_38 =>
        intro M p0 p1 p2 p3 H locs ls hj hP hS hl
        rw [j_X6_width_38_s] at hj
        refine lv_iload_n hx hb dX6_width_38 rfl (lv_at hl 3 rfl) ?_
        refine lv_bipush (v := 16) hx hb dX6_width_39 (by decide) ?_
        refine lv_iload_n hx hb dX6_width_41 rfl (lv_at hl 1 rfl) ?_
        refine lv_imul hx hb dX6_width_42 ?_
        refine lv_bipush (v := 16) hx hb dX6_width_43 (by decide) ?_
        refine lv_iadd hx hb dX6_width_45 ?_
        refine lv_icmp_ge (tgt := 71) hx hb dX6_width_46 (by decide) (fun c3 => ?_) (fun c3 => ?_)
        · have hj := if_t c3 hj
          exact J_71 M p0 H locs ls hj hP hS (lv_sub hl [0] rfl)
        · have hj := if_f c3 hj
          refine lv_aload_n hx hb dX6_width_49 rfl (lv_at hl 0 rfl) ?_
          obtain ⟨v4, g_v4, hj⟩ := Option.bind_eq_some_iff.mp hj
          refine r_getR cx hP g_v4 iX6 rfl (by decide) mF_X6_9 dX6_width_50 ?_
          refine lv_iload_n hx hb dX6_width_53 rfl (lv_at hl 3 rfl) ?_
          refine lv_aload_n hx hb dX6_width_54 rfl (lv_at hl 0 rfl) ?_
          obtain ⟨v5, g_v5, hj⟩ := Option.bind_eq_some_iff.mp hj
          refine r_getR cx hP g_v5 iX6 rfl (by decide) mF_X6_9 dX6_width_55 ?_
          refine lv_iload_n hx hb dX6_width_58 rfl (lv_at hl 3 rfl) ?_
          obtain ⟨b6, e_b6, hj⟩ := Option.bind_eq_some_iff.mp hj
          subst e_b6
          obtain ⟨v7, g_v7, hj⟩ := Option.bind_eq_some_iff.mp hj
          refine r_aldD cx hP g_v7 dX6_width_59 ?_
          refine lv_iload_n hx hb dX6_width_60 rfl (lv_at hl 2 rfl) ?_
          obtain ⟨v8, g_v8, hj⟩ := Option.bind_eq_some_iff.mp hj
          refine f_D (k_S (As := [.double v7, .int p2]) (n := 2) (rest := [.int p3, va_rf v4]) cx hl.1 hP hS (c_X6_brought l X g M v7 p2 v8 g_v8) mC_X6_brought mM_X6_132 mT_X6_brought mZ_X6 (by decide +kernel) ⟨Nat.le_of_ble_eq_true rfl, Nat.le_of_ble_eq_true rfl⟩ rfl rfl (by simp [cat_rf, Value.category]) dX6_width_61 ⟨Nat.le_of_ble_eq_true rfl, Nat.le_of_ble_eq_true rfl⟩) hS (fun H locs hP hS => ?_)
          have hP : hp X M H := hP
          refine W.eq (g2 := F0 m 64 ls [.double v8, .int p3, va_rf v4]) rfl ?_
          refine W.widen (k := 0) (n := 0) (Nat.le_of_ble_eq_true rfl) (Nat.le_of_ble_eq_true rfl) ?_
          obtain ⟨b9, e_b9, hj⟩ := Option.bind_eq_some_iff.mp hj
          subst e_b9
          obtain ⟨M10, g_M10, hj⟩ := Option.bind_eq_some_iff.mp hj
          refine r_astD cx hP hS g_M10 dX6_width_64 (fun H locs hP hS => ?_)
          refine lv_iinc (v := (p3 + (1 : Int32))) (lv' := [(3, .int (p3 + (1 : Int32))), (0, .ref p0), (1, .int p1), (2, .int p2)]) hx hb dX6_width_65 hl (k := 3) rfl rfl (by decide) rfl (fun ls hl => ?_)
          refine lv_goto (tgt := 38) hx hb dX6_width_68 (by decide) ?_
          exact ih_38 M10 p0 p1 p2 (p3 + (1 : Int32)) H locs ls hj hP hS (lv_sub hl [1, 2, 3, 0] rfl)
    have J_20 : ∀ (M : hm) (H : Heap) (locs : List Loc) (ls : Array Slot), j_X6_width_20 g M = some RR → hp X M H → va_S (hA X) s.heap H locs → lv_has ls 4 [] → W p l e ({ frames := 1, cells := 0, slots := 0, locals := 22 } : Room) s m _ below meth c H locs 0 0 (MQ below (qI X RR) _ s 0 0 (hA X)) (F0 m 20 ls []) := by
      intro M H locs ls hj hP hS hl
      unfold j_X6_width_20 at hj
      refine lv_iconst (v := 0) hx hb dX6_width_20 (by decide) ?_
      exact t_I cx hr hlocks hP hS (Option.some.inj hj) (Nat.le_of_ble_eq_true rfl) (Nat.le_of_ble_eq_true rfl) dX6_width_21
    intro H locs hP hS
    refine lv_iload_n hx hb dX6_width_0 rfl (lv_at hl 1 rfl) ?_
    refine lv_iconst (v := 0) hx hb dX6_width_1 (by decide) ?_
    refine lv_bipush (v := 11) hx hb dX6_width_2 (by decide) ?_
    obtain ⟨v11, g_v11, hj⟩ := Option.bind_eq_some_iff.mp hj
    refine f_I (k_S (As := [.int a1, .int (0 : Int32), .int (11 : Int32)]) (n := 3) (rest := []) cx hl.1 hP hS (c_X6_isIn l X g M a1 (0 : Int32) (11 : Int32) v11 g_v11) mC_X6_isIn mM_X6_191 mT_X6_isIn mZ_X6 (by decide +kernel) ⟨Nat.le_of_ble_eq_true rfl, Nat.le_of_ble_eq_true rfl⟩ rfl rfl (Nat.le_of_ble_eq_true rfl) dX6_width_4 ⟨Nat.le_of_ble_eq_true rfl, Nat.le_of_ble_eq_true rfl⟩) hS (fun H locs hP hS => ?_)
    have hP : hp X M H := hP
    refine W.eq (g2 := F0 m 7 ls [.int v11]) rfl ?_
    refine W.widen (k := 0) (n := 0) (Nat.le_of_ble_eq_true rfl) (Nat.le_of_ble_eq_true rfl) ?_
    refine lv_if_eq (tgt := 20) hx hb dX6_width_7 (by decide) (fun c12 => ?_) (fun c12 => ?_)
    · have hj := if_t c12 hj
      exact J_20 M H locs ls hj hP hS (lv_sub hl [] rfl)
    · have hj := if_f c12 hj
      refine lv_aload_n hx hb dX6_width_10 rfl (lv_at hl 0 rfl) ?_
      obtain ⟨v13, g_v13, hj⟩ := Option.bind_eq_some_iff.mp hj
      refine r_getR cx hP g_v13 iX6 rfl (by decide) mF_X6_19 dX6_width_11 ?_
      refine lv_iload_n hx hb dX6_width_14 rfl (lv_at hl 1 rfl) ?_
      obtain ⟨b14, e_b14, hj⟩ := Option.bind_eq_some_iff.mp hj
      subst e_b14
      obtain ⟨v15, g_v15, hj⟩ := Option.bind_eq_some_iff.mp hj
      refine r_aldZ cx hP g_v15 dX6_width_15 ?_
      refine lv_iload_n hx hb dX6_width_16 rfl (lv_at hl 2 rfl) ?_
      refine lv_icmp_ne (tgt := 22) hx hb dX6_width_17 (by decide) (fun c16 => ?_) (fun c16 => ?_)
      · have hj := if_f c16 hj
        refine lv_aload_n hx hb dX6_width_22 rfl (lv_at hl 0 rfl) ?_
        obtain ⟨_, o17, hj⟩ := Option.bind_eq_some_iff.mp hj
        obtain ⟨M18, g_M18, hj⟩ := Option.bind_eq_some_iff.mp hj
        refine f_V (k_V (b := a0) (As := []) (n := 0) (rest := []) cx hl.1 hP hS (c_X6_picture l X g M a0 M18 g_M18) o17 rfl mC_X6_picture mM_X6_212 mI_X6_picture mS_X6_picture mZ_X6 (by decide +kernel) ⟨Nat.le_of_ble_eq_true rfl, Nat.le_of_ble_eq_true rfl⟩ rfl rfl (Nat.le_of_ble_eq_true rfl) dX6_width_23 ⟨Nat.le_of_ble_eq_true rfl, Nat.le_of_ble_eq_true rfl⟩) hS (fun H locs hP hS => ?_)
        have hP : hp X M18 H := hP
        refine W.eq (g2 := F0 m 26 ls []) rfl ?_
        refine W.widen (k := 0) (n := 0) (Nat.le_of_ble_eq_true rfl) (Nat.le_of_ble_eq_true rfl) ?_
        refine lv_aload_n hx hb dX6_width_26 rfl (lv_at hl 0 rfl) ?_
        obtain ⟨v19, g_v19, hj⟩ := Option.bind_eq_some_iff.mp hj
        refine r_getR cx hP g_v19 iX6 rfl (by decide) mF_X6_19 dX6_width_27 ?_
        refine lv_iload_n hx hb dX6_width_30 rfl (lv_at hl 1 rfl) ?_
        refine lv_iload_n hx hb dX6_width_31 rfl (lv_at hl 2 rfl) ?_
        obtain ⟨b20, e_b20, hj⟩ := Option.bind_eq_some_iff.mp hj
        subst e_b20
        obtain ⟨M21, g_M21, hj⟩ := Option.bind_eq_some_iff.mp hj
        refine r_astZ cx hP hS g_M21 dX6_width_32 (fun H locs hP hS => ?_)
        refine lv_bipush (v := 16) hx hb dX6_width_33 (by decide) ?_
        refine lv_iload_n hx hb dX6_width_35 rfl (lv_at hl 1 rfl) ?_
        refine lv_imul hx hb dX6_width_36 ?_
        refine lv_istore_n (lv' := [(3, .int ((16 : Int32) * a1)), (0, .ref a0), (1, .int a1), (2, .int a2)]) hx hb dX6_width_37 rfl hl (by decide) rfl (fun ls hl => ?_)
        exact L_38 g M21 a0 a1 a2 ((16 : Int32) * a1) H locs ls hj hP hS (lv_sub hl [1, 2, 3, 0] rfl)
      · have hj := if_t c16 hj
        exact J_20 M H locs ls hj hP hS (lv_sub hl [] rfl)
  exact hgo _ _ hP hS
