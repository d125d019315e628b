set_option maxHeartbeats 4000000 in
set_option maxRecDepth 100000 in
theorem c_X3_takeOne (l : Launch) (X : hX) (g : Nat) (M : hm) (a0 : Nat) (a1 : Int32) (a2 : Option Nat) (a3 : Int32) (RR : hm) (hj : j_X3_takeOne g M a0 a1 a2 a3 = some RR) : Ct l X yX3_takeOne cX3_takeOne 4 none { frames := 1, cells := 0, slots := 0, locals := 23 } [.ref a0, .int a1, va_rf a2, .int a3] M (qV X RR) := by
  refine h_enter (own := RX3) (by decide) rfl (Nat.le_of_ble_eq_true rfl) ?_
  intro p e s m below meth c ls cx hr hlocks hnm hP hS hl
  have hx := cx.1
  have hb := cx.2.1
  have hl : lv_has ls 4 [(0, .ref a0), (1, .int a1), (2, va_rf a2), (3, .int a3)] := hl
  unfold j_X3_takeOne at hj
  have hgo : ∀ (H : Heap) (locs : List Loc), hp X M H → va_S (hA X) s.heap H locs → W p l e ({ frames := 1, cells := 0, slots := 0, locals := 23 } : Room) s m _ below meth c H locs 0 0 (MQ below (qV X RR) _ s 0 0 (hA X)) (F0 m 0 ls []) := by
    have J_27 : ∀ (M : hm) (H : Heap) (locs : List Loc) (ls : Array Slot), j_X3_takeOne_27 g M = some RR → hp X M H → va_S (hA X) s.heap H locs → lv_has ls 4 [] → W p l e ({ frames := 1, cells := 0, slots := 0, locals := 23 } : Room) s m _ below meth c H locs 0 0 (MQ below (qV X RR) _ s 0 0 (hA X)) (F0 m 27 ls []) := by
      intro M H locs ls hj hP hS hl
      unfold j_X3_takeOne_27 at hj
      exact t_V cx hr hlocks hP hS (Option.some.inj hj) (Nat.le_of_ble_eq_true rfl) (Nat.le_of_ble_eq_true rfl) dX3_takeOne_27
    intro H locs hP hS
    refine h_aload_n hx hb dX3_takeOne_0 rfl (lv_at hl 2 rfl) ?_
    refine lv_iload_n hx hb dX3_takeOne_1 rfl (lv_at hl 3 rfl) ?_
    obtain ⟨b1, e_b1, hj⟩ := Option.bind_eq_some_iff.mp hj
    subst e_b1
    obtain ⟨_, o2, hj⟩ := Option.bind_eq_some_iff.mp hj
    obtain ⟨v3, g_v3, hj⟩ := Option.bind_eq_some_iff.mp hj
    refine f_I (k_V (b := b1) (As := [.int a3]) (n := 1) (rest := []) cx hl.1 hP hS (c_X3_blankAt l X g M b1 a3 v3 g_v3) o2 rfl mC_X3_blankAt mM_X3_43 mI_X3_blankAt mS_X3_blankAt mZ_X3 (by decide +kernel) ⟨Nat.le_of_ble_eq_true rfl, Nat.le_of_ble_eq_true rfl⟩ rfl rfl (Nat.le_of_ble_eq_true rfl) dX3_takeOne_2 ⟨Nat.le_of_ble_eq_true rfl, Nat.le_of_ble_eq_true rfl⟩) hS (fun H locs hP hS => ?_)
    have hP : hp X M H := hP
    refine W.eq (g2 := F0 m 5 ls [.int v3]) rfl ?_
    refine W.widen (k := 0) (n := 0) (Nat.le_of_ble_eq_true rfl) (Nat.le_of_ble_eq_true rfl) ?_
    refine lv_if_eq (tgt := 16) hx hb dX3_takeOne_5 (by decide) (fun c4 => ?_) (fun c4 => ?_)
    · have hj := if_t c4 hj
      refine lv_aload_n hx hb dX3_takeOne_16 rfl (lv_at hl 0 rfl) ?_
      refine lv_iload_n hx hb dX3_takeOne_17 rfl (lv_at hl 1 rfl) ?_
      refine lv_aload_n hx hb dX3_takeOne_18 rfl (lv_at hl 2 rfl) ?_
      obtain ⟨v5, g_v5, hj⟩ := Option.bind_eq_some_iff.mp hj
      refine r_getR cx hP g_v5 iX3 rfl (by decide) mF_X3_9 dX3_takeOne_19 ?_
      refine lv_iload_n hx hb dX3_takeOne_22 rfl (lv_at hl 3 rfl) ?_
      obtain ⟨b6, e_b6, hj⟩ := Option.bind_eq_some_iff.mp hj
      subst e_b6
      obtain ⟨v7, g_v7, hj⟩ := Option.bind_eq_some_iff.mp hj
      refine r_aldD cx hP g_v7 dX3_takeOne_23 ?_
      obtain ⟨_, o8, hj⟩ := Option.bind_eq_some_iff.mp hj
      obtain ⟨M9, g_M9, hj⟩ := Option.bind_eq_some_iff.mp hj
      refine f_V (k_V (b := a0) (As := [.int a1, .double v7]) (n := 2) (rest := []) cx hl.1 hP hS (c_X3_put l X g M a0 a1 v7 M9 g_M9) o8 rfl mC_X3_put mM_X3_47 mI_X3_put mS_X3_put mZ_X3 (by decide +kernel) ⟨Nat.le_of_ble_eq_true rfl, Nat.le_of_ble_eq_true rfl⟩ rfl rfl (Nat.le_of_ble_eq_true rfl) dX3_takeOne_24 ⟨Nat.le_of_ble_eq_true rfl, Nat.le_of_ble_eq_true rfl⟩) hS (fun H locs hP hS => ?_)
      have hP : hp X M9 H := hP
      refine W.eq (g2 := F0 m 27 ls []) rfl ?_
      refine W.widen (k := 0) (n := 0) (Nat.le_of_ble_eq_true rfl) (Nat.le_of_ble_eq_true rfl) ?_
      exact J_27 M9 H locs ls hj hP hS (lv_sub hl [] rfl)
    · have hj := if_f c4 hj
      refine lv_aload_n hx hb dX3_takeOne_8 rfl (lv_at hl 0 rfl) ?_
      refine lv_iload_n hx hb dX3_takeOne_9 rfl (lv_at hl 1 rfl) ?_
      obtain ⟨_, o10, hj⟩ := Option.bind_eq_some_iff.mp hj
      obtain ⟨M11, g_M11, hj⟩ := Option.bind_eq_some_iff.mp hj
      refine f_V (k_V (b := a0) (As := [.int a1]) (n := 1) (rest := []) cx hl.1 hP hS (c_X3_clear l X g M a0 a1 M11 g_M11) o10 rfl mC_X3_clear mM_X3_55 mI_X3_clear mS_X3_clear mZ_X3 (by decide +kernel) ⟨Nat.le_of_ble_eq_true rfl, Nat.le_of_ble_eq_true rfl⟩ rfl rfl (Nat.le_of_ble_eq_true rfl) dX3_takeOne_10 ⟨Nat.le_of_ble_eq_true rfl, Nat.le_of_ble_eq_true rfl⟩) hS (fun H locs hP hS => ?_)
      have hP : hp X M11 H := hP
      refine W.eq (g2 := F0 m 13 ls []) rfl ?_
      refine W.widen (k := 0) (n := 0) (Nat.le_of_ble_eq_true rfl) (Nat.le_of_ble_eq_true rfl) ?_
      refine lv_goto (tgt := 27) hx hb dX3_takeOne_13 (by decide) ?_
      exact J_27 M11 H locs ls hj hP hS (lv_sub hl [] rfl)
  exact hgo _ _ hP hS
set_option maxHeartbeats 4000000 in
set_option maxRecDepth 100000 in
theorem c_X3_takeAll (l : Launch) (X : hX) (g : Nat) (M : hm) (a0 : Nat) (a1 : Option Nat) (RR : hm) (hj : j_X3_takeAll g M a0 a1 = some RR) : Ct l X yX3_takeAll cX3_takeAll 3 none { frames := 2, cells := 0, slots := 0, locals := 46 } [.ref a0, va_rf a1] M (qV X RR) := by
  refine h_enter (own := RX3) (by decide) rfl (Nat.le_of_ble_eq_true rfl) ?_
  intro p e s m below meth c ls cx hr hlocks hnm hP hS hl
  have hx := cx.1
  have hb := cx.2.1
  have hl : lv_has ls 3 [(0, .ref a0), (1, va_rf a1)] := hl
  unfold j_X3_takeAll at hj
  have hgo : ∀ (H : Heap) (locs : List Loc), hp X M H → va_S (hA X) s.heap H locs → W p l e ({ frames := 2, cells := 0, slots := 0, locals := 46 } : Room) s m _ below meth c H locs 0 0 (MQ below (qV X RR) _ s 0 0 (hA X)) (F0 m 0 ls []) := by
    have J_21 : ∀ (M : hm) (H : Heap) (locs : List Loc) (ls : Array Slot), j_X3_takeAll_21 g M = some RR → hp X M H → va_S (hA X) s.heap H locs → lv_has ls 3 [] → W p l e ({ frames := 2, cells := 0, slots := 0, locals := 46 } : Room) s m _ below meth c H locs 0 0 (MQ below (qV X RR) _ s 0 0 (hA X)) (F0 m 21 ls []) := by
      intro M H locs ls hj hP hS hl
      unfold j_X3_takeAll_21 at hj
      exact t_V cx hr hlocks hP hS (Option.some.inj hj) (Nat.le_of_ble_eq_true rfl) (Nat.le_of_ble_eq_true rfl) dX3_takeAll_21
    have L_2 : ∀ (n2 : Nat) (M : hm) (p0 : Nat) (p1 : Option Nat) (p2 : Int32) (H : Heap) (locs : List Loc) (ls : Array Slot), j_X3_takeAll_2 g n2 M p0 p1 p2 = some RR → hp X M H → va_S (hA X) s.heap H locs → lv_has ls 3 [(0, .ref p0), (1, va_rf p1), (2, .int p2)] → W p l e ({ frames := 2, cells := 0, slots := 0, locals := 46 } : Room) s m _ below meth c H locs 0 0 (MQ below (qV X RR) _ s 0 0 (hA X)) (F0 m 2 ls []) := by
      intro n2
      induction n2 with
      | zero =>
        intro M p0 p1 p2 H locs ls hj
        exact no_zero hj
      | succ n2 ih_2 =>
        intro M p0 p1 p2 H locs ls hj hP hS hl
        rw [j_X3_takeAll_2_s] at hj
        refine lv_iload_n hx hb dX3_takeAll_2 rfl (lv_at hl 2 rfl) ?_
        refine lv_bipush (v := 16) hx hb dX3_takeAll_3 (by decide) ?_
        refine lv_icmp_ge (tgt := 21) hx hb dX3_takeAll_5 (by decide) (fun c1 => ?_) (fun c1 => ?_)
        · have hj := if_t c1 hj
          exact J_21 M H locs ls hj hP hS (lv_sub hl [] rfl)
        · have hj := if_f c1 hj
          refine lv_aload_n hx hb dX3_takeAll_8 rfl (lv_at hl 0 rfl) ?_
          refine lv_iload_n hx hb dX3_takeAll_9 rfl (lv_at hl 2 rfl) ?_
          refine h_aload_n hx hb dX3_takeAll_10 rfl (lv_at hl 1 rfl) ?_
          refine lv_iload_n hx hb dX3_takeAll_11 rfl (lv_at hl 2 rfl) ?_
          obtain ⟨_, o2, hj⟩ := Option.bind_eq_some_iff.mp hj
          obtain ⟨M3, g_M3, hj⟩ := Option.bind_eq_some_iff.mp hj
          refine f_V (k_V (b := p0) (As := [.int p2, va_rf p1, .int p2]) (n := 3) (rest := []) cx hl.1 hP hS (c_X3_takeOne l X g M p0 p2 p1 p2 M3 g_M3) o2 rfl mC_X3_takeOne mM_X3_51 mI_X3_takeOne mS_X3_takeOne mZ_X3 (by decide +kernel) ⟨Nat.le_of_ble_eq_true rfl, Nat.le_of_ble_eq_true rfl⟩ rfl rfl (Nat.le_of_ble_eq_true rfl) dX3_takeAll_12 ⟨Nat.le_of_ble_eq_true rfl, Nat.le_of_ble_eq_true rfl⟩) hS (fun H locs hP hS => ?_)
          have hP : hp X M3 H := hP
          refine W.eq (g2 := F0 m 15 ls []) rfl ?_
          refine W.widen (k := 0) (n := 0) (Nat.le_of_ble_eq_true rfl) (Nat.le_of_ble_eq_true rfl) ?_
          refine lv_iinc (v := (p2 + (1 : Int32))) (lv' := [(2, .int (p2 + (1 : Int32))), (0, .ref p0), (1, va_rf p1)]) hx hb dX3_takeAll_15 hl (k := 2) rfl rfl (by decide) rfl (fun ls hl => ?_)
          refine lv_goto (tgt := 2) hx hb dX3_takeAll_18 (by decide) ?_
          exact ih_2 M3 p0 p1 (p2 + (1 : Int32)) H locs ls hj hP hS (lv_sub hl [1, 2, 0] rfl)
    intro H locs hP hS
    refine lv_iconst (v := 0) hx hb dX3_takeAll_0 (by decide) ?_
    refine lv_istore_n (lv' := [(2, .int (0 : Int32)), (0, .ref a0), (1, va_rf a1)]) hx hb dX3_takeAll_1 rfl hl (by decide) rfl (fun ls hl => ?_)
    exact L_2 g M a0 a1 (0 : Int32) H locs ls hj hP hS (lv_sub hl [1, 2, 0] rfl)
  exact hgo _ _ hP hS
set_option maxHeartbeats 4000000 in
set_option maxRecDepth 100000 in
theorem c_X2_takeSecond (l : Launch) (X : hX) (g : Nat) (M : hm) (a0 : Nat) (a1 : Int32) (a2 : Option Nat) (RR : hm) (hj : j_X2_takeSecond g M a0 a1 a2 = some RR) : Ct l X yX2_takeSecond cX2_takeSecond 4 none { frames := 3, cells := 0, slots := 0, locals := 68 } [.ref a0, .int a1, va_rf a2] M (qV X RR) := by
  refine h_enter (own := RX2) (by decide) rfl (Nat.le_of_ble_eq_true rfl) ?_
  intro p e s m below meth c ls cx hr hlocks hnm hP hS hl
  have hx := cx.1
  have hb := cx.2.1
  have hl : lv_has ls 4 [(0, .ref a0), (1, .int a1), (2, va_rf a2)] := hl
  unfold j_X2_takeSecond at hj
  have hgo : ∀ (H : Heap) (locs : List Loc), hp X M H → va_S (hA X) s.heap H locs → W p l e ({ frames := 3, cells := 0, slots := 0, locals := 68 } : Room) s m _ below meth c H locs 0 0 (MQ below (qV X RR) _ s 0 0 (hA X)) (F0 m 0 ls []) := by
    have J_47 : ∀ (M : hm) (H : Heap) (locs : List Loc) (ls : Array Slot), j_X2_takeSecond_47 g M = some RR → hp X M H → va_S (hA X) s.heap H locs → lv_has ls 4 [] → W p l e ({ frames := 3, cells := 0, slots := 0, locals := 68 } : Room) s m _ below meth c H locs 0 0 (MQ below (qV X RR) _ s 0 0 (hA X)) (F0 m 47 ls []) := by
      intro M H locs ls hj hP hS hl
      unfold j_X2_takeSecond_47 at hj
      exact t_V cx hr hlocks hP hS (Option.some.inj hj) (Nat.le_of_ble_eq_true rfl) (Nat.le_of_ble_eq_true rfl) dX2_takeSecond_47
    have L_19 : ∀ (n19 : Nat) (M : hm) (p0 : Nat) (p1 : Int32) (p2 : Option Nat) (p3 : Int32) (H : Heap) (locs : List Loc) (ls : Array Slot), j_X2_takeSecond_19 g n19 M p0 p1 p2 p3 = some RR → hp X M H → va_S (hA X) s.heap H locs → lv_has ls 4 [(0, .ref p0), (1, .int p1), (2, va_rf p2), (3, .int p3)] → W p l e ({ frames := 3, cells := 0, slots := 0, locals := 68 } : Room) s m _ below meth c H locs 0 0 (MQ below (qV X RR) _ s 0 0 (hA X)) (F0 m 19 ls []) := by
      intro n19
      induction n19 with
      | zero =>
        intro M p0 p1 p2 p3 H locs ls hj
        exact no_zero hj
      | succ n19 ih_19 =>
        intro M p0 p1 p2 p3 H locs ls hj hP hS hl
        rw [j_X2_takeSecond_19_s] at hj
        refine lv_iload_n hx hb dX2_takeSecond_19 rfl (lv_at hl 3 rfl) ?_
        refine lv_bipush (v := 16) hx hb dX2_takeSecond_20 (by decide) ?_
        refine lv_icmp_ge (tgt := 47) hx hb dX2_takeSecond_22 (by decide) (fun c1 => ?_) (fun c1 => ?_)
        · have hj := if_t c1 hj
          exact J_47 M H locs ls hj hP hS (lv_sub hl [] rfl)
        · have hj := if_f c1 hj
          refine lv_aload_n hx hb dX2_takeSecond_25 rfl (lv_at hl 0 rfl) ?_
          obtain ⟨v2, g_v2, hj⟩ := Option.bind_eq_some_iff.mp hj
          refine r_getR cx hP g_v2 iX2 rfl (by decide) mF_X2_25 dX2_takeSecond_26 ?_
          refine lv_iload_n hx hb dX2_takeSecond_29 rfl (lv_at hl 3 rfl) ?_
          refine h_aload_n hx hb dX2_takeSecond_30 rfl (lv_at hl 2 rfl) ?_
          refine lv_bipush (v := 12) hx hb dX2_takeSecond_31 (by decide) ?_
          obtain ⟨b3, e_b3, hj⟩ := Option.bind_eq_some_iff.mp hj
          subst e_b3
          obtain ⟨v4, g_v4, hj⟩ := Option.bind_eq_some_iff.mp hj
          refine r_aldR cx hP (k := 3) rfl g_v4 dX2_takeSecond_33 ?_
          refine lv_iload_n hx hb dX2_takeSecond_34 rfl (lv_at hl 1 rfl) ?_
          refine lv_bipush (v := 16) hx hb dX2_takeSecond_35 (by decide) ?_
          refine lv_isub hx hb dX2_takeSecond_37 ?_
          obtain ⟨b5, e_b5, hj⟩ := Option.bind_eq_some_iff.mp hj
          subst e_b5
          obtain ⟨_, o6, hj⟩ := Option.bind_eq_some_iff.mp hj
          obtain ⟨M7, g_M7, hj⟩ := Option.bind_eq_some_iff.mp hj
          refine f_V (k_V (b := b5) (As := [.int p3, va_rf v4, .int (p1 - (16 : Int32))]) (n := 3) (rest := []) cx hl.1 hP hS (c_X3_takeOne l X g M b5 p3 v4 (p1 - (16 : Int32)) M7 g_M7) o6 rfl mC_X3_takeOne mM_X2_76 mI_X3_takeOne mS_X3_takeOne mZ_X3 (by decide +kernel) ⟨Nat.le_of_ble_eq_true rfl, Nat.le_of_ble_eq_true rfl⟩ rfl rfl (Nat.le_of_ble_eq_true rfl) dX2_takeSecond_38 ⟨Nat.le_of_ble_eq_true rfl, Nat.le_of_ble_eq_true rfl⟩) hS (fun H locs hP hS => ?_)
          have hP : hp X M7 H := hP
          refine W.eq (g2 := F0 m 41 ls []) rfl ?_
          refine W.widen (k := 0) (n := 0) (Nat.le_of_ble_eq_true rfl) (Nat.le_of_ble_eq_true rfl) ?_
          refine lv_iinc (v := (p3 + (1 : Int32))) (lv' := [(3, .int (p3 + (1 : Int32))), (0, .ref p0), (1, .int p1), (2, .ref b3)]) hx hb dX2_takeSecond_41 hl (k := 3) rfl rfl (by decide) rfl (fun ls hl => ?_)
          refine lv_goto (tgt := 19) hx hb dX2_takeSecond_44 (by decide) ?_
          exact ih_19 M7 p0 p1 (some b3) (p3 + (1 : Int32)) H locs ls hj hP hS (lv_sub hl [1, 2, 3, 0] rfl)
    intro H locs hP hS
    refine lv_iload_n hx hb dX2_takeSecond_0 rfl (lv_at hl 1 rfl) ?_
    refine lv_bipush (v := 16) hx hb dX2_takeSecond_1 (by decide) ?_
    refine lv_icmp_ge (tgt := 17) hx hb dX2_takeSecond_3 (by decide) (fun c8 => ?_) (fun c8 => ?_)
    · have hj := if_t c8 hj
      refine lv_iconst (v := 0) hx hb dX2_takeSecond_17 (by decide) ?_
      refine lv_istore_n (lv' := [(3, .int (0 : Int32)), (0, .ref a0), (1, .int a1), (2, va_rf a2)]) hx hb dX2_takeSecond_18 rfl hl (by decide) rfl (fun ls hl => ?_)
      exact L_19 g M a0 a1 a2 (0 : Int32) H locs ls hj hP hS (lv_sub hl [1, 2, 3, 0] rfl)
    · have hj := if_f c8 hj
      refine lv_aload_n hx hb dX2_takeSecond_6 rfl (lv_at hl 0 rfl) ?_
      obtain ⟨v9, g_v9, hj⟩ := Option.bind_eq_some_iff.mp hj
      refine r_getR cx hP g_v9 iX2 rfl (by decide) mF_X2_25 dX2_takeSecond_7 ?_
      refine h_aload_n hx hb dX2_takeSecond_10 rfl (lv_at hl 2 rfl) ?_
      refine lv_iload_n hx hb dX2_takeSecond_11 rfl (lv_at hl 1 rfl) ?_
      obtain ⟨b10, e_b10, hj⟩ := Option.bind_eq_some_iff.mp hj
      subst e_b10
      obtain ⟨v11, g_v11, hj⟩ := Option.bind_eq_some_iff.mp hj
      refine r_aldR cx hP (k := 3) rfl g_v11 dX2_takeSecond_12 ?_
      obtain ⟨b12, e_b12, hj⟩ := Option.bind_eq_some_iff.mp hj
      subst e_b12
      obtain ⟨_, o13, hj⟩ := Option.bind_eq_some_iff.mp hj
      obtain ⟨M14, g_M14, hj⟩ := Option.bind_eq_some_iff.mp hj
      refine f_V (k_V (b := b12) (As := [va_rf v11]) (n := 1) (rest := []) cx hl.1 hP hS (c_X3_takeAll l X g M b12 v11 M14 g_M14) o13 rfl mC_X3_takeAll mM_X2_43 mI_X3_takeAll mS_X3_takeAll mZ_X3 (by decide +kernel) ⟨Nat.le_of_ble_eq_true rfl, Nat.le_of_ble_eq_true rfl⟩ rfl rfl (Nat.le_of_ble_eq_true rfl) dX2_takeSecond_13 ⟨Nat.le_of_ble_eq_true rfl, Nat.le_of_ble_eq_true rfl⟩) hS (fun H locs hP hS => ?_)
      have hP : hp X M14 H := hP
      refine W.eq (g2 := F0 m 16 ls []) rfl ?_
      refine W.widen (k := 0) (n := 0) (Nat.le_of_ble_eq_true rfl) (Nat.le_of_ble_eq_true rfl) ?_
      exact t_V cx hr hlocks hP hS (Option.some.inj hj) (Nat.le_of_ble_eq_true rfl) (Nat.le_of_ble_eq_true rfl) dX2_takeSecond_16
  exact hgo _ _ hP hS
set_option maxHeartbeats 4000000 in
set_option maxRecDepth 100000 in
theorem c_X2_sort (l : Launch) (X : hX) (g : Nat) (M : hm) (a0 : Nat) (RR : hm) (hj : j_X2_sort g M a0 = some RR) : Ct l X yX2_sort cX2_sort 2 none { frames := 3, cells := 0, slots := 0, locals := 67 } [.ref a0] M (qV X RR) := by
  refine h_enter (own := RX2) (by decide) rfl (Nat.le_of_ble_eq_true rfl) ?_
  intro p e s m below meth c ls cx hr hlocks hnm hP hS hl
  have hx := cx.1
  have hb := cx.2.1
  have hl : lv_has ls 2 [(0, .ref a0)] := hl
  unfold j_X2_sort at hj
  have hgo : ∀ (H : Heap) (locs : List Loc), hp X M H → va_S (hA X) s.heap H locs → W p l e ({ frames := 3, cells := 0, slots := 0, locals := 67 } : Room) s m _ below meth c H locs 0 0 (MQ below (qV X RR) _ s 0 0 (hA X)) (F0 m 0 ls []) := by
    have J_43 : ∀ (M : hm) (H : Heap) (locs : List Loc) (ls : Array Slot), j_X2_sort_43 g M = some RR → hp X M H → va_S (hA X) s.heap H locs → lv_has ls 2 [] → W p l e ({ frames := 3, cells := 0, slots := 0, locals := 67 } : Room) s m _ below meth c H locs 0 0 (MQ below (qV X RR) _ s 0 0 (hA X)) (F0 m 43 ls []) := by
      intro M H locs ls hj hP hS hl
      unfold j_X2_sort_43 at hj
      exact t_V cx hr hlocks hP hS (Option.some.inj hj) (Nat.le_of_ble_eq_true rfl) (Nat.le_of_ble_eq_true rfl) dX2_sort_43
    have L_7 : ∀ (n7 : Nat) (M : hm) (p0 : Nat) (p1 : Int32) (H : Heap) (locs : List Loc) (ls : Array Slot), j_X2_sort_7 g n7 M p0 p1 = some RR → hp X M H → va_S (hA X) s.heap H locs → lv_has ls 2 [(0, .ref p0), (1, .int p1)] → W p l e ({ frames := 3, cells := 0, slots := 0, locals := 67 } : Room) s m _ below meth c H locs 0 0 (MQ below (qV X RR) _ s 0 0 (hA X)) (F0 m 7 ls []) := by
      intro n7
      induction n7 with
      | zero =>
        intro M p0 p1 H locs ls hj
        exact no_zero hj
      | succ n7 ih_7 =>
        have J_37 : ∀ (M : hm) (p0 : Nat) (p1 : Int32) (H : Heap) (locs : List Loc) (ls : Array Slot), j_X2_sort_37 g (fun M p0 p1 => j_X2_sort_7 g n7 M p0 p1) M p0 p1 = some RR → hp X M H → va_S (hA X) s.heap H locs → lv_has ls 2 [(0, .ref p0), (1, .int p1)] → W p l e ({ frames := 3, cells := 0, slots := 0, locals := 67 } : Room) s m _ below meth c H locs 0 0 (MQ below (qV X RR) _ s 0 0 (hA X)) (F0 m 37 ls []) := by
          intro M p0 p1 H locs ls hj hP hS hl
          unfold j_X2_sort_37 at hj
          refine lv_iinc (v := (p1 + (1 : Int32))) (lv' := [(1, .int (p1 + (1 : Int32))), (0, .ref p0)]) hx hb dX2_sort_37 hl (k := 1) rfl rfl (by decide) rfl (fun ls hl => ?_)
          refine lv_goto (tgt := 7) hx hb dX2_sort_40 (by decide) ?_
          exact ih_7 M p0 (p1 + (1 : Int32)) H locs ls hj hP hS (lv_sub hl [1, 0] rfl)
        intro M p0 p1 H locs ls hj hP hS hl
        rw [j_X2_sort_7_s] at hj
        refine lv_iload_n hx hb dX2_sort_7 rfl (lv_at hl 1 rfl) ?_
        refine lv_bipush (v := 16) hx hb dX2_sort_8 (by decide) ?_
        refine lv_icmp_ge (tgt := 43) hx hb dX2_sort_10 (by decide) (fun c1 => ?_) (fun c1 => ?_)
        · have hj := if_t c1 hj
          exact J_43 M H locs ls hj hP hS (lv_sub hl [] rfl)
        · have hj := if_f c1 hj
          refine lv_aload_n hx hb dX2_sort_13 rfl (lv_at hl 0 rfl) ?_
          obtain ⟨v2, g_v2, hj⟩ := Option.bind_eq_some_iff.mp hj
          refine r_getR cx hP g_v2 iX2 rfl (by decide) mF_X2_21 dX2_sort_14 ?_
          refine lv_iload_n hx hb dX2_sort_17 rfl (lv_at hl 1 rfl) ?_
          obtain ⟨b3, e_b3, hj⟩ := Option.bind_eq_some_iff.mp hj
          subst e_b3
          obtain ⟨_, o4, hj⟩ := Option.bind_eq_some_iff.mp hj
          obtain ⟨v5, g_v5, hj⟩ := Option.bind_eq_some_iff.mp hj
          refine f_I (k_V (b := b3) (As := [.int p1]) (n := 1) (rest := []) cx hl.1 hP hS (c_X3_blankAt l X g M b3 p1 v5 g_v5) o4 rfl mC_X3_blankAt mM_X2_84 mI_X3_blankAt mS_X3_blankAt mZ_X3 (by decide +kernel) ⟨Nat.le_of_ble_eq_true rfl, Nat.le_of_ble_eq_true rfl⟩ rfl rfl (Nat.le_of_ble_eq_true rfl) dX2_sort_18 ⟨Nat.le_of_ble_eq_true rfl, Nat.le_of_ble_eq_true rfl⟩) hS (fun H locs hP hS => ?_)
          have hP : hp X M H := hP
          refine W.eq (g2 := F0 m 21 ls [.int v5]) rfl ?_
          refine W.widen (k := 0) (n := 0) (Nat.le_of_ble_eq_true rfl) (Nat.le_of_ble_eq_true rfl) ?_
          refine lv_if_ne (tgt := 37) hx hb dX2_sort_21 (by decide) (fun c6 => ?_) (fun c6 => ?_)
          · have hj := if_f c6 hj
            exact J_37 M p0 p1 H locs ls hj hP hS (lv_sub hl [0, 1] rfl)
          · have hj := if_t c6 hj
            refine lv_aload_n hx hb dX2_sort_24 rfl (lv_at hl 0 rfl) ?_
            refine lv_aload_n hx hb dX2_sort_25 rfl (lv_at hl 0 rfl) ?_
            obtain ⟨v7, g_v7, hj⟩ := Option.bind_eq_some_iff.mp hj
            refine r_getR cx hP g_v7 iX2 rfl (by decide) mF_X2_21 dX2_sort_26 ?_
            obtain ⟨b8, e_b8, hj⟩ := Option.bind_eq_some_iff.mp hj
            subst e_b8
            obtain ⟨v9, g_v9, hj⟩ := Option.bind_eq_some_iff.mp hj
            refine r_getR cx hP g_v9 iX3 rfl (by decide) mF_X2_87 dX2_sort_29 ?_
            refine lv_iload_n hx hb dX2_sort_32 rfl (lv_at hl 1 rfl) ?_
            obtain ⟨b10, e_b10, hj⟩ := Option.bind_eq_some_iff.mp hj
            subst e_b10
            obtain ⟨v11, g_v11, hj⟩ := Option.bind_eq_some_iff.mp hj
            refine r_aldD cx hP g_v11 dX2_sort_33 ?_
            obtain ⟨_, o12, hj⟩ := Option.bind_eq_some_iff.mp hj
            obtain ⟨M13, g_M13, hj⟩ := Option.bind_eq_some_iff.mp hj
            refine f_V (k_V (b := p0) (As := [.double v11]) (n := 1) (rest := []) cx hl.1 hP hS (c_X2_insert l X g M p0 v11 M13 g_M13) o12 rfl mC_X2_insert mM_X2_178 mI_X2_insert mS_X2_insert mZ_X2 (by decide +kernel) ⟨Nat.le_of_ble_eq_true rfl, Nat.le_of_ble_eq_true rfl⟩ rfl rfl (Nat.le_of_ble_eq_true rfl) dX2_sort_34 ⟨Nat.le_of_ble_eq_true rfl, Nat.le_of_ble_eq_true rfl⟩) hS (fun H locs hP hS => ?_)
            have hP : hp X M13 H := hP
            refine W.eq (g2 := F0 m 37 ls []) rfl ?_
            refine W.widen (k := 0) (n := 0) (Nat.le_of_ble_eq_true rfl) (Nat.le_of_ble_eq_true rfl) ?_
            exact J_37 M13 p0 p1 H locs ls hj hP hS (lv_sub hl [0, 1] rfl)
    intro H locs hP hS
    refine lv_aload_n hx hb dX2_sort_0 rfl (lv_at hl 0 rfl) ?_
    refine lv_iconst (v := 0) hx hb dX2_sort_1 (by decide) ?_
    obtain ⟨M14, g_M14, hj⟩ := Option.bind_eq_some_iff.mp hj
    refine r_put cx hP hS g_M14 iX2 tyX2 tyX2_ok nmX2 rfl (by decide) mF_X2_32 rfl rfl rfl dX2_sort_2 (fun H locs hP hS => ?_)
    refine lv_iconst (v := 0) hx hb dX2_sort_5 (by decide) ?_
    refine lv_istore_n (lv' := [(1, .int (0 : Int32)), (0, .ref a0)]) hx hb dX2_sort_6 rfl hl (by decide) rfl (fun ls hl => ?_)
    exact L_7 g M14 a0 (0 : Int32) H locs ls hj hP hS (lv_sub hl [1, 0] rfl)
  exact hgo _ _ hP hS
set_option maxHeartbeats 4000000 in
set_option maxRecDepth 100000 in
theorem c_X2_reckon (l : Launch) (X : hX) (g : Nat) (M : hm) (a0 : Nat) (a1 : Option Nat) (a2 : Option Nat) (RR : hm) (hj : j_X2_reckon g M a0 a1 a2 = some RR) : Ct l X yX2_reckon cX2_reckon 4 none { frames := 4, cells := 0, slots := 0, locals := 112 } [.ref a0, va_rf a1, va_rf a2] M (qV X RR) := by
  refine h_enter (own := RX2) (by decide) rfl (Nat.le_of_ble_eq_true rfl) ?_
  intro p e s m below meth c ls cx hr hlocks hnm hP hS hl
  have hx := cx.1
  have hb := cx.2.1
  have hl : lv_has ls 4 [(0, .ref a0), (1, va_rf a1), (2, va_rf a2)] := hl
  unfold j_X2_reckon at hj
  have hgo : ∀ (H : Heap) (locs : List Loc), hp X M H → va_S (hA X) s.heap H locs → W p l e ({ frames := 4, cells := 0, slots := 0, locals := 112 } : Room) s m _ below meth c H locs 0 0 (MQ below (qV X RR) _ s 0 0 (hA X)) (F0 m 0 ls []) := by
    have J_99 : ∀ (M : hm) (H : Heap) (locs : List Loc) (ls : Array Slot), j_X2_reckon_99 g M = some RR → hp X M H → va_S (hA X) s.heap H locs → lv_has ls 4 [] → W p l e ({ frames := 4, cells := 0, slots := 0, locals := 112 } : Room) s m _ below meth c H locs 0 0 (MQ below (qV X RR) _ s 0 0 (hA X)) (F0 m 99 ls []) := by
      intro M H locs ls hj hP hS hl
      unfold j_X2_reckon_99 at hj
      exact t_V cx hr hlocks hP hS (Option.some.inj hj) (Nat.le_of_ble_eq_true rfl) (Nat.le_of_ble_eq_true rfl) dX2_reckon_99
    have L_59 : ∀ (n59 : Nat) (M : hm) (p0 : Nat) (p1 : Option Nat) (p3 : Int32) (H : Heap) (locs : List Loc) (ls : Array Slot), j_X2_reckon_59 g n59 M p0 p1 p3 = some RR → hp X M H → va_S (hA X) s.heap H locs → lv_has ls 4 [(0, .ref p0), (1, va_rf p1), (3, .int p3)] → W p l e ({ frames := 4, cells := 0, slots := 0, locals := 112 } : Room) s m _ below meth c H locs 0 0 (MQ below (qV X RR) _ s 0 0 (hA X)) (F0 m 59 ls []) := by
      intro n59
      induction n59 with
      | zero =>
        intro M p0 p1 p3 H locs ls hj
        exact no_zero hj
      | succ n59 ih_59 =>
        have J_93 : ∀ (M : hm) (p0 : Nat) (p1 : Option Nat) (p3 : Int32) (H : Heap) (locs : List Loc) (ls : Array Slot), j_X2_reckon_93 g (fun M p0 p1 p3 => j_X2_reckon_59 g n59 M p0 p1 p3) M p0 p1 p3 = some RR → hp X M H → va_S (hA X) s.heap H locs → lv_has ls 4 [(0, .ref p0), (1, va_rf p1), (3, .int p3)] → W p l e ({ frames := 4, cells := 0, slots := 0, locals := 112 } : Room) s m _ below meth c H locs 0 0 (MQ below (qV X RR) _ s 0 0 (hA X)) (F0 m 93 ls []) := by
          intro M p0 p1 p3 H locs ls hj hP hS hl
          unfold j_X2_reckon_93 at hj
          refine lv_iinc (v := (p3 + (1 : Int32))) (lv' := [(3, .int (p3 + (1 : Int32))), (0, .ref p0), (1, va_rf p1)]) hx hb dX2_reckon_93 hl (k := 2) rfl rfl (by decide) rfl (fun ls hl => ?_)
          refine lv_goto (tgt := 59) hx hb dX2_reckon_96 (by decide) ?_
          exact ih_59 M p0 p1 (p3 + (1 : Int32)) H locs ls hj hP hS (lv_sub hl [1, 2, 0] rfl)
        intro M p0 p1 p3 H locs ls hj hP hS hl
        rw [j_X2_reckon_59_s] at hj
        refine lv_iload_n hx hb dX2_reckon_59 rfl (lv_at hl 2 rfl) ?_
        refine lv_bipush (v := 16) hx hb dX2_reckon_60 (by decide) ?_
        refine lv_icmp_ge (tgt := 99) hx hb dX2_reckon_62 (by decide) (fun c1 => ?_) (fun c1 => ?_)
        · have hj := if_t c1 hj
          exact J_99 M H locs ls hj hP hS (lv_sub hl [] rfl)
        · have hj := if_f c1 hj
          refine lv_aload_n hx hb dX2_reckon_65 rfl (lv_at hl 0 rfl) ?_
          refine h_aload_n hx hb dX2_reckon_66 rfl (lv_at hl 1 rfl) ?_
          refine lv_iload_n hx hb dX2_reckon_67 rfl (lv_at hl 2 rfl) ?_
          obtain ⟨_, o2, hj⟩ := Option.bind_eq_some_iff.mp hj
          obtain ⟨v3, g_v3, hj⟩ := Option.bind_eq_some_iff.mp hj
          refine f_I (k_V (b := p0) (As := [va_rf p1, .int p3]) (n := 2) (rest := []) cx hl.1 hP hS (c_X2_leavesBlank l X g M p0 p1 p3 v3 g_v3) o2 rfl mC_X2_leavesBlank mM_X2_60 mI_X2_leavesBlank mS_X2_leavesBlank mZ_X2 (by decide +kernel) ⟨Nat.le_of_ble_eq_true rfl, Nat.le_of_ble_eq_true rfl⟩ rfl rfl (Nat.le_of_ble_eq_true rfl) dX2_reckon_68 ⟨Nat.le_of_ble_eq_true rfl, Nat.le_of_ble_eq_true rfl⟩) hS (fun H locs hP hS => ?_)
          have hP : hp X M H := hP
          refine W.eq (g2 := F0 m 71 ls [.int v3]) rfl ?_
          refine W.widen (k := 0) (n := 0) (Nat.le_of_ble_eq_true rfl) (Nat.le_of_ble_eq_true rfl) ?_
          refine lv_if_eq (tgt := 82) hx hb dX2_reckon_71 (by decide) (fun c4 => ?_) (fun c4 => ?_)
          · have hj := if_t c4 hj
            refine h_aload_n hx hb dX2_reckon_82 rfl (lv_at hl 1 rfl) ?_
            refine lv_iload_n hx hb dX2_reckon_83 rfl (lv_at hl 2 rfl) ?_
            refine lv_aload_n hx hb dX2_reckon_84 rfl (lv_at hl 0 rfl) ?_
            refine h_aload_n hx hb dX2_reckon_85 rfl (lv_at hl 1 rfl) ?_
            refine lv_iload_n hx hb dX2_reckon_86 rfl (lv_at hl 2 rfl) ?_
            obtain ⟨_, o5, hj⟩ := Option.bind_eq_some_iff.mp hj
            obtain ⟨v6, g_v6, hj⟩ := Option.bind_eq_some_iff.mp hj
            refine f_D (k_V (b := p0) (As := [va_rf p1, .int p3]) (n := 2) (rest := [.int p3, va_rf p1]) cx hl.1 hP hS (c_X2_numberAt l X g M p0 p1 p3 v6 g_v6) o5 rfl mC_X2_numberAt mM_X2_68 mI_X2_numberAt mS_X2_numberAt mZ_X2 (by decide +kernel) ⟨Nat.le_of_ble_eq_true rfl, Nat.le_of_ble_eq_true rfl⟩ rfl rfl (by simp [cat_rf, Value.category]) dX2_reckon_87 ⟨Nat.le_of_ble_eq_true rfl, Nat.le_of_ble_eq_true rfl⟩) hS (fun H locs hP hS => ?_)
            have hP : hp X M H := hP
            refine W.eq (g2 := F0 m 90 ls [.double v6, .int p3, va_rf p1]) rfl ?_
            refine W.widen (k := 0) (n := 0) (Nat.le_of_ble_eq_true rfl) (Nat.le_of_ble_eq_true rfl) ?_
            obtain ⟨b7, e_b7, hj⟩ := Option.bind_eq_some_iff.mp hj
            subst e_b7
            obtain ⟨_, o8, hj⟩ := Option.bind_eq_some_iff.mp hj
            obtain ⟨M9, g_M9, hj⟩ := Option.bind_eq_some_iff.mp hj
            refine f_V (k_V (b := b7) (As := [.int p3, .double v6]) (n := 2) (rest := []) cx hl.1 hP hS (c_X3_put l X g M b7 p3 v6 M9 g_M9) o8 rfl mC_X3_put mM_X2_72 mI_X3_put mS_X3_put mZ_X3 (by decide +kernel) ⟨Nat.le_of_ble_eq_true rfl, Nat.le_of_ble_eq_true rfl⟩ rfl rfl (Nat.le_of_ble_eq_true rfl) dX2_reckon_90 ⟨Nat.le_of_ble_eq_true rfl, Nat.le_of_ble_eq_true rfl⟩) hS (fun H locs hP hS => ?_)
            have hP : hp X M9 H := hP
            refine W.eq (g2 := F0 m 93 ls []) rfl ?_
            refine W.widen (k := 0) (n := 0) (Nat.le_of_ble_eq_true rfl) (Nat.le_of_ble_eq_true rfl) ?_
            exact J_93 M9 p0 (some b7) p3 H locs ls hj hP hS (lv_sub hl [0, 1, 2] rfl)
          · have hj := if_f c4 hj
            refine h_aload_n hx hb dX2_reckon_74 rfl (lv_at hl 1 rfl) ?_
            refine lv_iload_n hx hb dX2_reckon_75 rfl (lv_at hl 2 rfl) ?_
            obtain ⟨b10, e_b10, hj⟩ := Option.bind_eq_some_iff.mp hj
            subst e_b10
            obtain ⟨_, o11, hj⟩ := Option.bind_eq_some_iff.mp hj
            obtain ⟨M12, g_M12, hj⟩ := Option.bind_eq_some_iff.mp hj
            refine f_V (k_V (b := b10) (As := [.int p3]) (n := 1) (rest := []) cx hl.1 hP hS (c_X3_clear l X g M b10 p3 M12 g_M12) o11 rfl mC_X3_clear mM_X2_64 mI_X3_clear mS_X3_clear mZ_X3 (by decide +kernel) ⟨Nat.le_of_ble_eq_true rfl, Nat.le_of_ble_eq_true rfl⟩ rfl rfl (Nat.le_of_ble_eq_true rfl) dX2_reckon_76 ⟨Nat.le_of_ble_eq_true rfl, Nat.le_of_ble_eq_true rfl⟩) hS (fun H locs hP hS => ?_)
            have hP : hp X M12 H := hP
            refine W.eq (g2 := F0 m 79 ls []) rfl ?_
            refine W.widen (k := 0) (n := 0) (Nat.le_of_ble_eq_true rfl) (Nat.le_of_ble_eq_true rfl) ?_
            refine lv_goto (tgt := 93) hx hb dX2_reckon_79 (by decide) ?_
            exact J_93 M12 p0 (some b10) p3 H locs ls hj hP hS (lv_sub hl [0, 1, 2] rfl)
    have J_57 : ∀ (M : hm) (p0 : Nat) (p1 : Option Nat) (H : Heap) (locs : List Loc) (ls : Array Slot), j_X2_reckon_57 g M p0 p1 = some RR → hp X M H → va_S (hA X) s.heap H locs → lv_has ls 4 [(0, .ref p0), (1, va_rf p1)] → W p l e ({ frames := 4, cells := 0, slots := 0, locals := 112 } : Room) s m _ below meth c H locs 0 0 (MQ below (qV X RR) _ s 0 0 (hA X)) (F0 m 57 ls []) := by
      intro M p0 p1 H locs ls hj hP hS hl
      unfold j_X2_reckon_57 at hj
      refine lv_iconst (v := 0) hx hb dX2_reckon_57 (by decide) ?_
      refine lv_istore_n (lv' := [(3, .int (0 : Int32)), (0, .ref p0), (1, va_rf p1)]) hx hb dX2_reckon_58 rfl hl (by decide) rfl (fun ls hl => ?_)
      exact L_59 g M p0 p1 (0 : Int32) H locs ls hj hP hS (lv_sub hl [1, 2, 0] rfl)
    intro H locs hP hS
    refine lv_aload_n hx hb dX2_reckon_0 rfl (lv_at hl 0 rfl) ?_
    obtain ⟨v13, g_v13, hj⟩ := Option.bind_eq_some_iff.mp hj
    refine r_getR cx hP g_v13 iX2 rfl (by decide) mF_X2_21 dX2_reckon_1 ?_
    refine h_aload_n hx hb dX2_reckon_4 rfl (lv_at hl 1 rfl) ?_
    obtain ⟨b14, e_b14, hj⟩ := Option.bind_eq_some_iff.mp hj
    subst e_b14
    obtain ⟨v15, g_v15, hj⟩ := Option.bind_eq_some_iff.mp hj
    refine r_getI cx hP g_v15 iX3 rfl (by decide) mF_X2_36 dX2_reckon_5 ?_
    obtain ⟨b16, e_b16, hj⟩ := Option.bind_eq_some_iff.mp hj
    subst e_b16
    obtain ⟨z17, g_z17, hj⟩ := Option.bind_eq_some_iff.mp hj
    have n_z17 := zb_nar (zb_eq g_z17).1
    obtain ⟨M18, g_M18, hj⟩ := Option.bind_eq_some_iff.mp hj
    refine r_put cx hP hS g_M18 iX3 tyX3 tyX3_ok nmX3 rfl (by decide) mF_X2_36 rfl n_z17.1 n_z17.2 dX2_reckon_8 (fun H locs hP hS => ?_)
    refine lv_aload_n hx hb dX2_reckon_11 rfl (lv_at hl 0 rfl) ?_
    obtain ⟨v19, g_v19, hj⟩ := Option.bind_eq_some_iff.mp hj
    refine r_getR cx hP g_v19 iX2 rfl (by decide) mF_X2_25 dX2_reckon_12 ?_
    refine lv_aload_n hx hb dX2_reckon_15 rfl (lv_at hl 1 rfl) ?_
    obtain ⟨v20, g_v20, hj⟩ := Option.bind_eq_some_iff.mp hj
    refine r_getI cx hP g_v20 iX3 rfl (by decide) mF_X2_36 dX2_reckon_16 ?_
    obtain ⟨b21, e_b21, hj⟩ := Option.bind_eq_some_iff.mp hj
    subst e_b21
    obtain ⟨z22, g_z22, hj⟩ := Option.bind_eq_some_iff.mp hj
    have n_z22 := zb_nar (zb_eq g_z22).1
    obtain ⟨M23, g_M23, hj⟩ := Option.bind_eq_some_iff.mp hj
    refine r_put cx hP hS g_M23 iX3 tyX3 tyX3_ok nmX3 rfl (by decide) mF_X2_36 rfl n_z22.1 n_z22.2 dX2_reckon_19 (fun H locs hP hS => ?_)
    refine lv_aload_n hx hb dX2_reckon_22 rfl (lv_at hl 0 rfl) ?_
    obtain ⟨v24, g_v24, hj⟩ := Option.bind_eq_some_iff.mp hj
    refine r_getR cx hP g_v24 iX2 rfl (by decide) mF_X2_21 dX2_reckon_23 ?_
    refine h_aload_n hx hb dX2_reckon_26 rfl (lv_at hl 2 rfl) ?_
    refine lv_aload_n hx hb dX2_reckon_27 rfl (lv_at hl 1 rfl) ?_
    obtain ⟨v25, g_v25, hj⟩ := Option.bind_eq_some_iff.mp hj
    refine r_getI cx hP g_v25 iX3 rfl (by decide) mF_X2_40 dX2_reckon_28 ?_
    obtain ⟨b26, e_b26, hj⟩ := Option.bind_eq_some_iff.mp hj
    subst e_b26
    obtain ⟨v27, g_v27, hj⟩ := Option.bind_eq_some_iff.mp hj
    refine r_aldR cx hP (k := 3) rfl g_v27 dX2_reckon_31 ?_
    obtain ⟨b28, e_b28, hj⟩ := Option.bind_eq_some_iff.mp hj
    subst e_b28
    obtain ⟨_, o29, hj⟩ := Option.bind_eq_some_iff.mp hj
    obtain ⟨M30, g_M30, hj⟩ := Option.bind_eq_some_iff.mp hj
    refine f_V (k_V (b := b28) (As := [va_rf v27]) (n := 1) (rest := []) cx hl.1 hP hS (c_X3_takeAll l X g M23 b28 v27 M30 g_M30) o29 rfl mC_X3_takeAll mM_X2_43 mI_X3_takeAll mS_X3_takeAll mZ_X3 (by decide +kernel) ⟨Nat.le_of_ble_eq_true rfl, Nat.le_of_ble_eq_true rfl⟩ rfl rfl (Nat.le_of_ble_eq_true rfl) dX2_reckon_32 ⟨Nat.le_of_ble_eq_true rfl, Nat.le_of_ble_eq_true rfl⟩) hS (fun H locs hP hS => ?_)
    have hP : hp X M30 H := hP
    refine W.eq (g2 := F0 m 35 ls []) rfl ?_
    refine W.widen (k := 0) (n := 0) (Nat.le_of_ble_eq_true rfl) (Nat.le_of_ble_eq_true rfl) ?_
    refine lv_aload_n hx hb dX2_reckon_35 rfl (lv_at hl 0 rfl) ?_
    refine lv_aload_n hx hb dX2_reckon_36 rfl (lv_at hl 1 rfl) ?_
    obtain ⟨v31, g_v31, hj⟩ := Option.bind_eq_some_iff.mp hj
    refine r_getI cx hP g_v31 iX3 rfl (by decide) mF_X2_47 dX2_reckon_37 ?_
    refine lv_aload_n hx hb dX2_reckon_40 rfl (lv_at hl 2 rfl) ?_
    obtain ⟨_, o32, hj⟩ := Option.bind_eq_some_iff.mp hj
    obtain ⟨M33, g_M33, hj⟩ := Option.bind_eq_some_iff.mp hj
    refine f_V (k_V (b := a0) (As := [.int v31, .ref b26]) (n := 2) (rest := []) cx hl.1 hP hS (c_X2_takeSecond l X g M30 a0 v31 (some b26) M33 g_M33) o32 rfl mC_X2_takeSecond mM_X2_50 mI_X2_takeSecond mS_X2_takeSecond mZ_X2 (by decide +kernel) ⟨Nat.le_of_ble_eq_true rfl, Nat.le_of_ble_eq_true rfl⟩ rfl rfl (Nat.le_of_ble_eq_true rfl) dX2_reckon_41 ⟨Nat.le_of_ble_eq_true rfl, Nat.le_of_ble_eq_true rfl⟩) hS (fun H locs hP hS => ?_)
    have hP : hp X M33 H := hP
    refine W.eq (g2 := F0 m 44 ls []) rfl ?_
    refine W.widen (k := 0) (n := 0) (Nat.le_of_ble_eq_true rfl) (Nat.le_of_ble_eq_true rfl) ?_
    refine lv_aload_n hx hb dX2_reckon_44 rfl (lv_at hl 1 rfl) ?_
    obtain ⟨v34, g_v34, hj⟩ := Option.bind_eq_some_iff.mp hj
    refine r_getI cx hP g_v34 iX3 rfl (by decide) mF_X2_54 dX2_reckon_45 ?_
    refine lv_bipush (v := 22) hx hb dX2_reckon_48 (by decide) ?_
    refine lv_icmp_ne (tgt := 57) hx hb dX2_reckon_50 (by decide) (fun c35 => ?_) (fun c35 => ?_)
    · have hj := if_f c35 hj
      exact J_57 M33 a0 (some b14) H locs ls hj hP hS (lv_sub hl [0, 1] rfl)
    · have hj := if_t c35 hj
      refine lv_aload_n hx hb dX2_reckon_53 rfl (lv_at hl 0 rfl) ?_
      obtain ⟨_, o36, hj⟩ := Option.bind_eq_some_iff.mp hj
      obtain ⟨M37, g_M37, hj⟩ := Option.bind_eq_some_iff.mp hj
      refine f_V (k_V (b := a0) (As := []) (n := 0) (rest := []) cx hl.1 hP hS (c_X2_sort l X g M33 a0 M37 g_M37) o36 rfl mC_X2_sort mM_X2_57 mI_X2_sort mS_X2_sort mZ_X2 (by decide +kernel) ⟨Nat.le_of_ble_eq_true rfl, Nat.le_of_ble_eq_true rfl⟩ rfl rfl (Nat.le_of_ble_eq_true rfl) dX2_reckon_54 ⟨Nat.le_of_ble_eq_true rfl, Nat.le_of_ble_eq_true rfl⟩) hS (fun H locs hP hS => ?_)
      have hP : hp X M37 H := hP
      refine W.eq (g2 := F0 m 57 ls []) rfl ?_
      refine W.widen (k := 0) (n := 0) (Nat.le_of_ble_eq_true rfl) (Nat.le_of_ble_eq_true rfl) ?_
      exact J_57 M37 a0 (some b14) H locs ls hj hP hS (lv_sub hl [0, 1] rfl)
  exact hgo _ _ hP hS
set_option maxHeartbeats 4000000 in
set_option maxRecDepth 100000 in
theorem c_X3_bringTo (l : Launch) (X : hX) (g : Nat) (M : hm) (a0 : Nat) (a1 : Int32) (RR : hm) (hj : j_X3_bringTo g M a0 a1 = some RR) : Ct l X yX3_bringTo cX3_bringTo 3 none { frames := 1, cells := 0, slots := 0, locals := 23 } [.ref a0, .int a1] M (qV X RR) := by
  refine h_enter (own := RX3) (by decide) rfl (Nat.le_of_ble_eq_true rfl) ?_
  intro p e s m below meth c ls cx hr hlocks hnm hP hS hl
  have hx := cx.1
  have hb := cx.2.1
  have hl : lv_has ls 3 [(0, .ref a0), (1, .int a1)] := hl
  unfold j_X3_bringTo at hj
  have hgo : ∀ (H : Heap) (locs : List Loc), hp X M H → va_S (hA X) s.heap H locs → W p l e ({ frames := 1, cells := 0, slots := 0, locals := 23 } : Room) s m _ below meth c H locs 0 0 (MQ below (qV X RR) _ s 0 0 (hA X)) (F0 m 0 ls []) := by
    have J_38 : ∀ (M : hm) (H : Heap) (locs : List Loc) (ls : Array Slot), j_X3_bringTo_38 g M = some RR → hp X M H → va_S (hA X) s.heap H locs → lv_has ls 3 [] → W p l e ({ frames := 1, cells := 0, slots := 0, locals := 23 } : Room) s m _ below meth c H locs 0 0 (MQ below (qV X RR) _ s 0 0 (hA X)) (F0 m 38 ls []) := by
      intro M H locs ls hj hP hS hl
      unfold j_X3_bringTo_38 at hj
      exact t_V cx hr hlocks hP hS (Option.some.inj hj) (Nat.le_of_ble_eq_true rfl) (Nat.le_of_ble_eq_true rfl) dX3_bringTo_38
    have L_7 : ∀ (n7 : Nat) (M : hm) (p0 : Nat) (p2 : Int32) (H : Heap) (locs : List Loc) (ls : Array Slot), j_X3_bringTo_7 g n7 M p0 p2 = some RR → hp X M H → va_S (hA X) s.heap H locs → lv_has ls 3 [(0, .ref p0), (2, .int p2)] → W p l e ({ frames := 1, cells := 0, slots := 0, locals := 23 } : Room) s m _ below meth c H locs 0 0 (MQ below (qV X RR) _ s 0 0 (hA X)) (F0 m 7 ls []) := by
      intro n7
      induction n7 with
      | zero =>
        intro M p0 p2 H locs ls hj
        exact no_zero hj
      | succ n7 ih_7 =>
        have J_32 : ∀ (M : hm) (p0 : Nat) (p2 : Int32) (H : Heap) (locs : List Loc) (ls : Array Slot), j_X3_bringTo_32 g (fun M p0 p2 => j_X3_bringTo_7 g n7 M p0 p2) M p0 p2 = some RR → hp X M H → va_S (hA X) s.heap H locs → lv_has ls 3 [(0, .ref p0), (2, .int p2)] → W p l e ({ frames := 1, cells := 0, slots := 0, locals := 23 } : Room) s m _ below meth c H locs 0 0 (MQ below (qV X RR) _ s 0 0 (hA X)) (F0 m 32 ls []) := by
          intro M p0 p2 H locs ls hj hP hS hl
          unfold j_X3_bringTo_32 at hj
          refine lv_iinc (v := (p2 + (1 : Int32))) (lv' := [(2, .int (p2 + (1 : Int32))), (0, .ref p0)]) hx hb dX3_bringTo_32 hl (k := 1) rfl rfl (by decide) rfl (fun ls hl => ?_)
          refine lv_goto (tgt := 7) hx hb dX3_bringTo_35 (by decide) ?_
          exact ih_7 M p0 (p2 + (1 : Int32)) H locs ls hj hP hS (lv_sub hl [1, 0] rfl)
        intro M p0 p2 H locs ls hj hP hS hl
        rw [j_X3_bringTo_7_s] at hj
        refine lv_iload_n hx hb dX3_bringTo_7 rfl (lv_at hl 1 rfl) ?_
        refine lv_bipush (v := 16) hx hb dX3_bringTo_8 (by decide) ?_
        refine lv_icmp_ge (tgt := 38) hx hb dX3_bringTo_10 (by decide) (fun c1 => ?_) (fun c1 => ?_)
        · have hj := if_t c1 hj
          exact J_38 M H locs ls hj hP hS (lv_sub hl [] rfl)
        · have hj := if_f c1 hj
          refine lv_aload_n hx hb dX3_bringTo_13 rfl (lv_at hl 0 rfl) ?_
          refine lv_iload_n hx hb dX3_bringTo_14 rfl (lv_at hl 1 rfl) ?_
          obtain ⟨_, o2, hj⟩ := Option.bind_eq_some_iff.mp hj
          obtain ⟨v3, g_v3, hj⟩ := Option.bind_eq_some_iff.mp hj
          refine f_I (k_V (b := p0) (As := [.int p2]) (n := 1) (rest := []) cx hl.1 hP hS (c_X3_blankAt l X g M p0 p2 v3 g_v3) o2 rfl mC_X3_blankAt mM_X3_43 mI_X3_blankAt mS_X3_blankAt mZ_X3 (by decide +kernel) ⟨Nat.le_of_ble_eq_true rfl, Nat.le_of_ble_eq_true rfl⟩ rfl rfl (Nat.le_of_ble_eq_true rfl) dX3_bringTo_15 ⟨Nat.le_of_ble_eq_true rfl, Nat.le_of_ble_eq_true rfl⟩) hS (fun H locs hP hS => ?_)
          have hP : hp X M H := hP
          refine W.eq (g2 := F0 m 18 ls [.int v3]) rfl ?_
          refine W.widen (k := 0) (n := 0) (Nat.le_of_ble_eq_true rfl) (Nat.le_of_ble_eq_true rfl) ?_
          refine lv_if_ne (tgt := 32) hx hb dX3_bringTo_18 (by decide) (fun c4 => ?_) (fun c4 => ?_)
          · have hj := if_f c4 hj
            exact J_32 M p0 p2 H locs ls hj hP hS (lv_sub hl [0, 1] rfl)
          · have hj := if_t c4 hj
            refine lv_aload_n hx hb dX3_bringTo_21 rfl (lv_at hl 0 rfl) ?_
            refine lv_iload_n hx hb dX3_bringTo_22 rfl (lv_at hl 1 rfl) ?_
            refine lv_aload_n hx hb dX3_bringTo_23 rfl (lv_at hl 0 rfl) ?_
            obtain ⟨v5, g_v5, hj⟩ := Option.bind_eq_some_iff.mp hj
            refine r_getR cx hP g_v5 iX3 rfl (by decide) mF_X3_9 dX3_bringTo_24 ?_
            refine lv_iload_n hx hb dX3_bringTo_27 rfl (lv_at hl 1 rfl) ?_
            obtain ⟨b6, e_b6, hj⟩ := Option.bind_eq_some_iff.mp hj
            subst e_b6
            obtain ⟨v7, g_v7, hj⟩ := Option.bind_eq_some_iff.mp hj
            refine r_aldD cx hP g_v7 dX3_bringTo_28 ?_
            obtain ⟨_, o8, hj⟩ := Option.bind_eq_some_iff.mp hj
            obtain ⟨M9, g_M9, hj⟩ := Option.bind_eq_some_iff.mp hj
            refine f_V (k_V (b := p0) (As := [.int p2, .double v7]) (n := 2) (rest := []) cx hl.1 hP hS (c_X3_put l X g M p0 p2 v7 M9 g_M9) o8 rfl mC_X3_put mM_X3_47 mI_X3_put mS_X3_put mZ_X3 (by decide +kernel) ⟨Nat.le_of_ble_eq_true rfl, Nat.le_of_ble_eq_true rfl⟩ rfl rfl (Nat.le_of_ble_eq_true rfl) dX3_bringTo_29 ⟨Nat.le_of_ble_eq_true rfl, Nat.le_of_ble_eq_true rfl⟩) hS (fun H locs hP hS => ?_)
            have hP : hp X M9 H := hP
            refine W.eq (g2 := F0 m 32 ls []) rfl ?_
            refine W.widen (k := 0) (n := 0) (Nat.le_of_ble_eq_true rfl) (Nat.le_of_ble_eq_true rfl) ?_
            exact J_32 M9 p0 p2 H locs ls hj hP hS (lv_sub hl [0, 1] rfl)
    intro H locs hP hS
    refine lv_aload_n hx hb dX3_bringTo_0 rfl (lv_at hl 0 rfl) ?_
    refine lv_iload_n hx hb dX3_bringTo_1 rfl (lv_at hl 1 rfl) ?_
    obtain ⟨z10, g_z10, hj⟩ := Option.bind_eq_some_iff.mp hj
    have n_z10 := zb_nar (zb_eq g_z10).1
    obtain ⟨M11, g_M11, hj⟩ := Option.bind_eq_some_iff.mp hj
    refine r_put cx hP hS g_M11 iX3 tyX3 tyX3_ok nmX3 rfl (by decide) mF_X3_20 rfl n_z10.1 n_z10.2 dX3_bringTo_2 (fun H locs hP hS => ?_)
    refine lv_iconst (v := 0) hx hb dX3_bringTo_5 (by decide) ?_
    refine lv_istore_n (lv' := [(2, .int (0 : Int32)), (0, .ref a0), (1, .int a1)]) hx hb dX3_bringTo_6 rfl hl (by decide) rfl (fun ls hl => ?_)
    exact L_7 g M11 a0 (0 : Int32) H locs ls hj hP hS (lv_sub hl [1, 0] rfl)
  exact hgo _ _ hP hS
set_option maxHeartbeats 4000000 in
set_option maxRecDepth 100000 in
theorem c_X3_copy (l : Launch) (X : hX) (g : Nat) (M : hm) (a0 : Nat) (RR : hm × (Option Nat)) (hj : j_X3_copy g M a0 = some RR) : Ct l X yX3_copy cX3_copy 2 (some (.object "TideBook$Row")) { frames := 2, cells := 2, slots := 23, locals := 32 } [.ref a0] M (qR X RR) := by
  refine h_enter (own := RX3) (by decide) rfl (Nat.le_of_ble_eq_true rfl) ?_
  intro p e s m below meth c ls cx hr hlocks hnm hP hS hl
  have hx := cx.1
  have hb := cx.2.1
  have hl : lv_has ls 2 [(0, .ref a0)] := hl
  unfold j_X3_copy at hj
  have hgo : ∀ (H : Heap) (locs : List Loc), hp X M H → va_S (hA X) s.heap H locs → W p l e ({ frames := 2, cells := 2, slots := 23, locals := 32 } : Room) s m _ below meth c H locs 0 0 (MQ below (qR X RR) _ s 2 23 (hA X)) (F0 m 0 ls []) := by
    intro H locs hP hS
    obtain ⟨⟨Mq1, aq1⟩, g_q1, hj⟩ := Option.bind_eq_some_iff.mp hj
    refine r_new (ci := 3) (fs := [.null, .int 0, .int 0, .int 0, .int 0, .int 0, .int 0]) cx hP hS g_q1 iX3 tyX3 tyX3_ok mL_X3_10 mN_X3 mZ_X3 rfl (fun j hj => by rcases (show j = 0 ∨ j = 1 ∨ j = 2 ∨ j = 3 ∨ j = 4 ∨ j = 5 ∨ j = 6 by omega) with rfl | rfl | rfl | rfl | rfl | rfl | rfl <;> rfl) (Nat.le_of_ble_eq_true rfl) (Nat.le_of_ble_eq_true rfl) dX3_copy_0 (fun H hP hS => ?_)
    have hP : hp X Mq1 H := hP
    refine lv_dup hx hb dX3_copy_3 rfl ?_
    obtain ⟨M2, g_M2, hj⟩ := Option.bind_eq_some_iff.mp hj
    refine f_V (k_I (b := aq1) (As := []) (n := 0) (rest := [.ref aq1]) cx hl.1 hP hS (c_X3_init l X g Mq1 aq1 M2 g_M2) mC_X3_init mM_X3_36 mI_X3_init mZ_X3 rfl (by decide +kernel) ⟨Nat.le_of_ble_eq_true rfl, Nat.le_of_ble_eq_true rfl⟩ rfl rfl (Nat.le_of_ble_eq_true rfl) dX3_copy_4 ⟨Nat.le_of_ble_eq_true rfl, Nat.le_of_ble_eq_true rfl⟩) hS (fun H locs hP hS => ?_)
    have hP : hp X M2 H := hP
    refine W.eq (g2 := F0 m 7 ls [.ref aq1]) rfl ?_
    refine W.widen (k := 2) (n := 23) (Nat.le_of_ble_eq_true rfl) (Nat.le_of_ble_eq_true rfl) ?_
    refine lv_astore_n (lv' := [(1, .ref aq1), (0, .ref a0)]) hx hb dX3_copy_7 rfl hl (by decide) rfl (fun ls hl => ?_)
    refine lv_aload_n hx hb dX3_copy_8 rfl (lv_at hl 1 rfl) ?_
    obtain ⟨v3, g_v3, hj⟩ := Option.bind_eq_some_iff.mp hj
    refine r_getR cx hP g_v3 iX3 rfl (by decide) mF_X3_9 dX3_copy_9 ?_
    refine lv_iconst (v := 0) hx hb dX3_copy_12 (by decide) ?_
    refine lv_aload_n hx hb dX3_copy_13 rfl (lv_at hl 0 rfl) ?_
    obtain ⟨v4, g_v4, hj⟩ := Option.bind_eq_some_iff.mp hj
    refine r_getR cx hP g_v4 iX3 rfl (by decide) mF_X3_9 dX3_copy_14 ?_
    refine lv_iconst (v := 0) hx hb dX3_copy_17 (by decide) ?_
    refine lv_bipush (v := 16) hx hb dX3_copy_18 (by decide) ?_
    obtain ⟨b5, e_b5, hj⟩ := Option.bind_eq_some_iff.mp hj
    subst e_b5
    obtain ⟨b6, e_b6, hj⟩ := Option.bind_eq_some_iff.mp hj
    subst e_b6
    obtain ⟨M7, g_M7, hj⟩ := Option.bind_eq_some_iff.mp hj
    refine r_copy cx hl.1 hP hS mM_X3_37 mV_copy mT_copy mZ_System g_M7 (Nat.le_of_ble_eq_true rfl) (Nat.le_of_ble_eq_true rfl) dX3_copy_20 (fun H locs hP hS => ?_)
    refine lv_aload_n hx hb dX3_copy_23 rfl (lv_at hl 0 rfl) ?_
    refine lv_aload_n hx hb dX3_copy_24 rfl (lv_at hl 1 rfl) ?_
    obtain ⟨v8, g_v8, hj⟩ := Option.bind_eq_some_iff.mp hj
    refine r_getI cx hP g_v8 iX3 rfl (by decide) mF_X3_16 dX3_copy_25 ?_
    obtain ⟨M9, g_M9, hj⟩ := Option.bind_eq_some_iff.mp hj
    refine r_put cx hP hS g_M9 iX3 tyX3 tyX3_ok nmX3 rfl (by decide) mF_X3_16 rfl rfl rfl dX3_copy_28 (fun H locs hP hS => ?_)
    refine lv_aload_n hx hb dX3_copy_31 rfl (lv_at hl 0 rfl) ?_
    refine lv_aload_n hx hb dX3_copy_32 rfl (lv_at hl 1 rfl) ?_
    obtain ⟨v10, g_v10, hj⟩ := Option.bind_eq_some_iff.mp hj
    refine r_getI cx hP g_v10 iX3 rfl (by decide) mF_X3_20 dX3_copy_33 ?_
    obtain ⟨z11, g_z11, hj⟩ := Option.bind_eq_some_iff.mp hj
    have n_z11 := zb_nar (zb_eq g_z11).1
    obtain ⟨M12, g_M12, hj⟩ := Option.bind_eq_some_iff.mp hj
    refine r_put cx hP hS g_M12 iX3 tyX3 tyX3_ok nmX3 rfl (by decide) mF_X3_20 rfl n_z11.1 n_z11.2 dX3_copy_36 (fun H locs hP hS => ?_)
    refine lv_aload_n hx hb dX3_copy_39 rfl (lv_at hl 0 rfl) ?_
    refine lv_aload_n hx hb dX3_copy_40 rfl (lv_at hl 1 rfl) ?_
    obtain ⟨v13, g_v13, hj⟩ := Option.bind_eq_some_iff.mp hj
    refine r_getI cx hP g_v13 iX3 rfl (by decide) mF_X3_24 dX3_copy_41 ?_
    obtain ⟨M14, g_M14, hj⟩ := Option.bind_eq_some_iff.mp hj
    refine r_put cx hP hS g_M14 iX3 tyX3 tyX3_ok nmX3 rfl (by decide) mF_X3_24 rfl rfl rfl dX3_copy_44 (fun H locs hP hS => ?_)
    refine lv_aload_n hx hb dX3_copy_47 rfl (lv_at hl 0 rfl) ?_
    refine lv_aload_n hx hb dX3_copy_48 rfl (lv_at hl 1 rfl) ?_
    obtain ⟨v15, g_v15, hj⟩ := Option.bind_eq_some_iff.mp hj
    refine r_getI cx hP g_v15 iX3 rfl (by decide) mF_X3_27 dX3_copy_49 ?_
    obtain ⟨M16, g_M16, hj⟩ := Option.bind_eq_some_iff.mp hj
    refine r_put cx hP hS g_M16 iX3 tyX3 tyX3_ok nmX3 rfl (by decide) mF_X3_27 rfl rfl rfl dX3_copy_52 (fun H locs hP hS => ?_)
    refine lv_aload_n hx hb dX3_copy_55 rfl (lv_at hl 0 rfl) ?_
    refine lv_aload_n hx hb dX3_copy_56 rfl (lv_at hl 1 rfl) ?_
    obtain ⟨v17, g_v17, hj⟩ := Option.bind_eq_some_iff.mp hj
    refine r_getI cx hP g_v17 iX3 rfl (by decide) mF_X3_30 dX3_copy_57 ?_
    obtain ⟨M18, g_M18, hj⟩ := Option.bind_eq_some_iff.mp hj
    refine r_put cx hP hS g_M18 iX3 tyX3 tyX3_ok nmX3 rfl (by decide) mF_X3_30 rfl rfl rfl dX3_copy_60 (fun H locs hP hS => ?_)
    refine lv_aload_n hx hb dX3_copy_63 rfl (lv_at hl 0 rfl) ?_
    refine lv_aload_n hx hb dX3_copy_64 rfl (lv_at hl 1 rfl) ?_
    obtain ⟨v19, g_v19, hj⟩ := Option.bind_eq_some_iff.mp hj
    refine r_getI cx hP g_v19 iX3 rfl (by decide) mF_X3_33 dX3_copy_65 ?_
    obtain ⟨M20, g_M20, hj⟩ := Option.bind_eq_some_iff.mp hj
    refine r_put cx hP hS g_M20 iX3 tyX3 tyX3_ok nmX3 rfl (by decide) mF_X3_33 rfl rfl rfl dX3_copy_68 (fun H locs hP hS => ?_)
    refine lv_aload_n hx hb dX3_copy_71 rfl (lv_at hl 0 rfl) ?_
    exact t_R (v := (some aq1)) cx hr hlocks hP hS (Option.some.inj hj) (Nat.le_of_ble_eq_true rfl) (Nat.le_of_ble_eq_true rfl) dX3_copy_72
  exact hgo _ _ hP hS
set_option maxHeartbeats 4000000 in
set_option maxRecDepth 100000 in
theorem c_X3_hasFormula (l : Launch) (X : hX) (g : Nat) (M : hm) (a0 : Nat) (RR : Int32) (hj : j_X3_hasFormula g M a0 = some RR) : Ct l X yX3_hasFormula cX3_hasFormula 1 (some .boolean) { frames := 0, cells := 0, slots := 0, locals := 0 } [.ref a0] M (qI X (M, RR)) := by
  refine h_enter (own := RX3) (by decide) rfl (Nat.le_of_ble_eq_true rfl) ?_
  intro p e s m below meth c ls cx hr hlocks hnm hP hS hl
  have hx := cx.1
  have hb := cx.2.1
  have hl : lv_has ls 1 [(0, .ref a0)] := hl
  unfold j_X3_hasFormula at hj
  have hgo : ∀ (H : Heap) (locs : List Loc), hp X M H → va_S (hA X) s.heap H locs → W p l e ({ frames := 0, cells := 0, slots := 0, locals := 0 } : Room) s m _ below meth c H locs 0 0 (MQ below (qI X (M, RR)) _ s 0 0 (hA X)) (F0 m 0 ls []) := by
    have J_13 : ∀ (s0 : Int32) (H : Heap) (locs : List Loc) (ls : Array Slot), j_X3_hasFormula_13 g M s0 = some RR → hp X M H → va_S (hA X) s.heap H locs → lv_has ls 1 [] → W p l e ({ frames := 0, cells := 0, slots := 0, locals := 0 } : Room) s m _ below meth c H locs 0 0 (MQ below (qI X (M, RR)) _ s 0 0 (hA X)) (F0 m 13 ls [.int s0]) := by
      intro s0 H locs ls hj hP hS hl
      unfold j_X3_hasFormula_13 at hj
      obtain ⟨z1, g_z1, hj⟩ := Option.bind_eq_some_iff.mp hj
      exact t_Z cx hr hlocks hP hS (zb_eq g_z1).1 (congrArg (Prod.mk M) (Option.some.inj hj)) (Nat.le_of_ble_eq_true rfl) (Nat.le_of_ble_eq_true rfl) dX3_hasFormula_13
    intro H locs hP hS
    refine lv_aload_n hx hb dX3_hasFormula_0 rfl (lv_at hl 0 rfl) ?_
    obtain ⟨v2, g_v2, hj⟩ := Option.bind_eq_some_iff.mp hj
    refine r_getI cx hP g_v2 iX3 rfl (by decide) mF_X3_24 dX3_hasFormula_1 ?_
    refine lv_iconst (v := -1) hx hb dX3_hasFormula_4 (by decide) ?_
    refine lv_icmp_eq (tgt := 12) hx hb dX3_hasFormula_5 (by decide) (fun c3 => ?_) (fun c3 => ?_)
    · have hj := if_t c3 hj
      refine lv_iconst (v := 0) hx hb dX3_hasFormula_12 (by decide) ?_
      exact J_13 (0 : Int32) H locs ls hj hP hS (lv_sub hl [] rfl)
    · have hj := if_f c3 hj
      refine lv_iconst (v := 1) hx hb dX3_hasFormula_8 (by decide) ?_
      refine lv_goto (tgt := 13) hx hb dX3_hasFormula_9 (by decide) ?_
      exact J_13 (1 : Int32) H locs ls hj hP hS (lv_sub hl [] rfl)
  exact hgo _ _ hP hS
set_option maxHeartbeats 4000000 in
set_option maxRecDepth 100000 in
theorem c_X3_isTouched (l : Launch) (X : hX) (g : Nat) (M : hm) (a0 : Nat) (a1 : Int32) (a2 : Int32) (RR : Int32) (hj : j_X3_isTouched g M a0 a1 a2 = some RR) : Ct l X yX3_isTouched cX3_isTouched 4 (some .boolean) { frames := 0, cells := 0, slots := 0, locals := 0 } [.ref a0, .int a1, .int a2] M (qI X (M, RR)) := by
  refine h_enter (own := RX3) (by decide) rfl (Nat.le_of_ble_eq_true rfl) ?_
  intro p e s m below meth c ls cx hr hlocks hnm hP hS hl
  have hx := cx.1
  have hb := cx.2.1
  have hl : lv_has ls 4 [(0, .ref a0), (1, .int a1), (2, .int a2)] := hl
  unfold j_X3_isTouched at hj
  have hgo : ∀ (H : Heap) (locs : List Loc), hp X M H → va_S (hA X) s.heap H locs → W p l e ({ frames := 0, cells := 0, slots := 0, locals := 0 } : Room) s m _ below meth c H locs 0 0 (MQ below (qI X (M, RR)) _ s 0 0 (hA X)) (F0 m 0 ls []) := by
    have J_43 : ∀ (s0 : Int32) (H : Heap) (locs : List Loc) (ls : Array Slot), j_X3_isTouched_43 g M s0 = some RR → hp X M H → va_S (hA X) s.heap H locs → lv_has ls 4 [] → W p l e ({ frames := 0, cells := 0, slots := 0, locals := 0 } : Room) s m _ below meth c H locs 0 0 (MQ below (qI X (M, RR)) _ s 0 0 (hA X)) (F0 m 43 ls [.int s0]) := by
      intro s0 H locs ls hj hP hS hl
      unfold j_X3_isTouched_43 at hj
      obtain ⟨z1, g_z1, hj⟩ := Option.bind_eq_some_iff.mp hj
      exact t_Z cx hr hlocks hP hS (zb_eq g_z1).1 (congrArg (Prod.mk M) (Option.some.inj hj)) (Nat.le_of_ble_eq_true rfl) (Nat.le_of_ble_eq_true rfl) dX3_isTouched_43
    have J_18 : ∀ (p0 : Nat) (p1 : Int32) (p2 : Int32) (s0 : Int32) (H : Heap) (locs : List Loc) (ls : Array Slot), j_X3_isTouched_18 g M p0 p1 p2 s0 = some RR → hp X M H → va_S (hA X) s.heap H locs → lv_has ls 4 [(0, .ref p0), (1, .int p1), (2, .int p2)] → W p l e ({ frames := 0, cells := 0, slots := 0, locals := 0 } : Room) s m _ below meth c H locs 0 0 (MQ below (qI X (M, RR)) _ s 0 0 (hA X)) (F0 m 18 ls [.int s0]) := by
      intro p0 p1 p2 s0 H locs ls hj hP hS hl
      unfold j_X3_isTouched_18 at hj
      refine lv_istore_n (lv' := [(3, .int s0), (0, .ref p0), (1, .int p1), (2, .int p2)]) hx hb dX3_isTouched_18 rfl hl (by decide) rfl (fun ls hl => ?_)
      refine lv_iload_n hx hb dX3_isTouched_19 rfl (lv_at hl 2 rfl) ?_
      refine lv_iconst (v := 1) hx hb dX3_isTouched_20 (by decide) ?_
      refine lv_iload_n hx hb dX3_isTouched_21 rfl (lv_at hl 3 rfl) ?_
      refine lv_ishl hx hb dX3_isTouched_22 ?_
      refine lv_iconst (v := 1) hx hb dX3_isTouched_23 (by decide) ?_
      refine lv_aload_n hx hb dX3_isTouched_24 rfl (lv_at hl 1 rfl) ?_
      obtain ⟨v2, g_v2, hj⟩ := Option.bind_eq_some_iff.mp hj
      refine r_getI cx hP g_v2 iX3 rfl (by decide) mF_X3_27 dX3_isTouched_25 ?_
      refine lv_ishl hx hb dX3_isTouched_28 ?_
      refine lv_ior hx hb dX3_isTouched_29 ?_
      refine lv_iconst (v := 1) hx hb dX3_isTouched_30 (by decide) ?_
      refine lv_iload_n hx hb dX3_isTouched_31 rfl (lv_at hl 0 rfl) ?_
      refine lv_ishl hx hb dX3_isTouched_32 ?_
      refine lv_ior hx hb dX3_isTouched_33 ?_
      refine lv_iand hx hb dX3_isTouched_34 ?_
      refine lv_if_eq (tgt := 42) hx hb dX3_isTouched_35 (by decide) (fun c3 => ?_) (fun c3 => ?_)
      · have hj := if_t c3 hj
        refine lv_iconst (v := 0) hx hb dX3_isTouched_42 (by decide) ?_
        exact J_43 (0 : Int32) H locs ls hj hP hS (lv_sub hl [] rfl)
      · have hj := if_f c3 hj
        refine lv_iconst (v := 1) hx hb dX3_isTouched_38 (by decide) ?_
        refine lv_goto (tgt := 43) hx hb dX3_isTouched_39 (by decide) ?_
        exact J_43 (1 : Int32) H locs ls hj hP hS (lv_sub hl [] rfl)
    intro H locs hP hS
    refine lv_aload_n hx hb dX3_isTouched_0 rfl (lv_at hl 0 rfl) ?_
    obtain ⟨v4, g_v4, hj⟩ := Option.bind_eq_some_iff.mp hj
    refine r_getI cx hP g_v4 iX3 rfl (by decide) mF_X3_30 dX3_isTouched_1 ?_
    refine lv_bipush (v := 16) hx hb dX3_isTouched_4 (by decide) ?_
    refine lv_icmp_lt (tgt := 14) hx hb dX3_isTouched_6 (by decide) (fun c5 => ?_) (fun c5 => ?_)
    · have hj := if_t c5 hj
      refine lv_aload_n hx hb dX3_isTouched_14 rfl (lv_at hl 0 rfl) ?_
      obtain ⟨v6, g_v6, hj⟩ := Option.bind_eq_some_iff.mp hj
      refine r_getI cx hP g_v6 iX3 rfl (by decide) mF_X3_30 dX3_isTouched_15 ?_
      exact J_18 a0 a1 a2 v6 H locs ls hj hP hS (lv_sub hl [0, 1, 2] rfl)
    · have hj := if_f c5 hj
      refine lv_bipush (v := 12) hx hb dX3_isTouched_9 (by decide) ?_
      refine lv_goto (tgt := 18) hx hb dX3_isTouched_11 (by decide) ?_
      exact J_18 a0 a1 a2 (12 : Int32) H locs ls hj hP hS (lv_sub hl [0, 1, 2] rfl)
  exact hgo _ _ hP hS
set_option maxHeartbeats 4000000 in
set_option maxRecDepth 100000 in
theorem c_X4_bitsOf (l : Launch) (X : hX) (g : Nat) (M : hm) (a0 : Nat) (a1 : UInt64) (a3 : Int32) (RR : Int64) (hj : j_X4_bitsOf g M a0 a1 a3 = some RR) : Ct l X yX4_bitsOf cX4_bitsOf 12 (some .long) { frames := 1, cells := 0, slots := 0, locals := 29 } [.ref a0, .double a1, .int a3] M (qL X (M, RR)) := by
  refine h_enter (own := RX4) (by decide) rfl (Nat.le_of_ble_eq_true rfl) ?_
  intro p e s m below meth c ls cx hr hlocks hnm hP hS hl
  have hx := cx.1
  have hb := cx.2.1
  have hl : lv_has ls 12 [(0, .ref a0), (1, .double a1), (3, .int a3)] := hl
  unfold j_X4_bitsOf at hj
  have hgo : ∀ (H : Heap) (locs : List Loc), hp X M H → va_S (hA X) s.heap H locs → W p l e ({ frames := 1, cells := 0, slots := 0, locals := 29 } : Room) s m _ below meth c H locs 0 0 (MQ below (qL X (M, RR)) _ s 0 0 (hA X)) (F0 m 0 ls []) := by
    have J_106 : ∀ (p4 : Int32) (s0 : Int64) (s1 : Int64) (H : Heap) (locs : List Loc) (ls : Array Slot), j_X4_bitsOf_106 g M p4 s0 s1 = some RR → hp X M H → va_S (hA X) s.heap H locs → lv_has ls 12 [(4, .int p4)] → W p l e ({ frames := 1, cells := 0, slots := 0, locals := 29 } : Room) s m _ below meth c H locs 0 0 (MQ below (qL X (M, RR)) _ s 0 0 (hA X)) (F0 m 106 ls [.long s0, .long s1]) := by
      intro p4 s0 s1 H locs ls hj hP hS hl
      unfold j_X4_bitsOf_106 at hj
      refine lv_iload hx hb dX4_bitsOf_106 (lv_at hl 0 rfl) ?_
      refine lv_lshl (v := (s0 <<< (p4.toInt64 &&& 63))) hx hb dX4_bitsOf_108 rfl ?_
      refine lv_ladd hx hb dX4_bitsOf_109 ?_
      exact t_L cx hr hlocks hP hS (congrArg (Prod.mk M) (Option.some.inj hj)) (Nat.le_of_ble_eq_true rfl) (Nat.le_of_ble_eq_true rfl) dX4_bitsOf_110
    have J_71 : ∀ (p0 : Nat) (p3 : Int32) (p4 : Int32) (p5 : Int32) (p7 : UInt64) (s0 : Int64) (H : Heap) (locs : List Loc) (ls : Array Slot), j_X4_bitsOf_71 g M p0 p3 p4 p5 p7 s0 = some RR → hp X M H → va_S (hA X) s.heap H locs → lv_has ls 12 [(0, .ref p0), (3, .int p3), (4, .int p4), (5, .int p5), (7, .double p7)] → W p l e ({ frames := 1, cells := 0, slots := 0, locals := 29 } : Room) s m _ below meth c H locs 0 0 (MQ below (qL X (M, RR)) _ s 0 0 (hA X)) (F0 m 71 ls [.long s0]) := by
      intro p0 p3 p4 p5 p7 s0 H locs ls hj hP hS hl
      unfold j_X4_bitsOf_71 at hj
      refine lv_lstore (lv' := [(9, .long s0), (0, .ref p0), (3, .int p3), (4, .int p4), (5, .int p5), (7, .double p7)]) hx hb dX4_bitsOf_71 hl (by decide) rfl (fun ls hl => ?_)
      refine lv_dload hx hb dX4_bitsOf_73 (lv_at hl 5 rfl) ?_
      refine lv_dconst0 hx hb dX4_bitsOf_75 ?_
      refine lv_dcmp hx hb dX4_bitsOf_76 ?_
      refine lv_if_ne (tgt := 83) hx hb dX4_bitsOf_77 (by decide) (fun c1 => ?_) (fun c1 => ?_)
      · have hj := if_f c1 hj
        refine lv_dload hx hb dX4_bitsOf_83 (lv_at hl 5 rfl) ?_
        obtain ⟨v2, g_v2, hj⟩ := Option.bind_eq_some_iff.mp hj
        refine f_I (k_N (As := [.double p7]) (n := 1) (rest := []) cx hl.1 hP hS (c_X5_isInfinite l X g M p7 v2 g_v2) mC_X5_isInfinite cx.2.2.2.2.2.1.2.1.2.2.2.2 mT_X5_isInfinite mZ_X5 (by decide +kernel) ⟨Nat.le_of_ble_eq_true rfl, Nat.le_of_ble_eq_true rfl⟩ rfl rfl (Nat.le_of_ble_eq_true rfl) dX4_bitsOf_85 ⟨Nat.le_of_ble_eq_true rfl, Nat.le_of_ble_eq_true rfl⟩) hS (fun H locs hP hS => ?_)
        have hP : hp X M H := hP
        refine W.eq (g2 := F0 m 88 ls [.int v2]) rfl ?_
        refine W.widen (k := 0) (n := 0) (Nat.le_of_ble_eq_true rfl) (Nat.le_of_ble_eq_true rfl) ?_
        refine lv_if_eq (tgt := 111) hx hb dX4_bitsOf_88 (by decide) (fun c3 => ?_) (fun c3 => ?_)
        · have hj := if_t c3 hj
          refine lv_aload_n hx hb dX4_bitsOf_111 rfl (lv_at hl 1 rfl) ?_
          refine lv_dload hx hb dX4_bitsOf_112 (lv_at hl 5 rfl) ?_
          refine lv_iload_n hx hb dX4_bitsOf_114 rfl (lv_at hl 2 rfl) ?_
          obtain ⟨_, o4, hj⟩ := Option.bind_eq_some_iff.mp hj
          obtain ⟨v5, g_v5, hj⟩ := Option.bind_eq_some_iff.mp hj
          refine f_I (k_V (b := p0) (As := [.double p7, .int p3]) (n := 2) (rest := []) cx hl.1 hP hS (c_X4_unit l X g M p0 p7 p3 v5 g_v5) o4 rfl mC_X4_unit mM_X4_35 mI_X4_unit mS_X4_unit mZ_X4 (by decide +kernel) ⟨Nat.le_of_ble_eq_true rfl, Nat.le_of_ble_eq_true rfl⟩ rfl rfl (Nat.le_of_ble_eq_true rfl) dX4_bitsOf_115 ⟨Nat.le_of_ble_eq_true rfl, Nat.le_of_ble_eq_true rfl⟩) hS (fun H locs hP hS => ?_)
          have hP : hp X M H := hP
          refine W.eq (g2 := F0 m 118 ls [.int v5]) rfl ?_
          refine W.widen (k := 0) (n := 0) (Nat.le_of_ble_eq_true rfl) (Nat.le_of_ble_eq_true rfl) ?_
          refine lv_istore (lv' := [(11, .int v5), (9, .long s0), (0, .ref p0), (3, .int p3), (4, .int p4), (5, .int p5), (7, .double p7)]) hx hb dX4_bitsOf_118 hl (by decide) rfl (fun ls hl => ?_)
          refine lv_lload hx hb dX4_bitsOf_120 (lv_at hl 1 rfl) ?_
          refine lv_iload hx hb dX4_bitsOf_122 (lv_at hl 0 rfl) ?_
          refine lv_iload hx hb dX4_bitsOf_124 (lv_at hl 5 rfl) ?_
          refine lv_isub hx hb dX4_bitsOf_126 ?_
          refine lv_i2l (v := (v5 - p5).toInt64) hx hb dX4_bitsOf_127 rfl ?_
          refine lv_iload hx hb dX4_bitsOf_128 (lv_at hl 4 rfl) ?_
          refine lv_lshl (v := (((v5 - p5).toInt64) <<< (p4.toInt64 &&& 63))) hx hb dX4_bitsOf_130 rfl ?_
          refine lv_ladd hx hb dX4_bitsOf_131 ?_
          refine lv_aload_n hx hb dX4_bitsOf_132 rfl (lv_at hl 2 rfl) ?_
          refine lv_dload hx hb dX4_bitsOf_133 (lv_at hl 6 rfl) ?_
          refine lv_iload hx hb dX4_bitsOf_135 (lv_at hl 0 rfl) ?_
          refine lv_ineg hx hb dX4_bitsOf_137 ?_
          obtain ⟨_, o6, hj⟩ := Option.bind_eq_some_iff.mp hj
          obtain ⟨v7, g_v7, hj⟩ := Option.bind_eq_some_iff.mp hj
          refine f_D (k_V (b := p0) (As := [.double p7, .int (-v5)]) (n := 2) (rest := [.long (s0 + (((v5 - p5).toInt64) <<< (p4.toInt64 &&& 63)))]) cx hl.1 hP hS (c_X4_times l X g M p0 p7 (-v5) v7 g_v7) o6 rfl mC_X4_times mM_X4_39 mI_X4_times mS_X4_times mZ_X4 (by decide +kernel) ⟨Nat.le_of_ble_eq_true rfl, Nat.le_of_ble_eq_true rfl⟩ rfl rfl (Nat.le_of_ble_eq_true rfl) dX4_bitsOf_138 ⟨Nat.le_of_ble_eq_true rfl, Nat.le_of_ble_eq_true rfl⟩) hS (fun H locs hP hS => ?_)
          have hP : hp X M H := hP
          refine W.eq (g2 := F0 m 141 ls [.double v7, .long (s0 + (((v5 - p5).toInt64) <<< (p4.toInt64 &&& 63)))]) rfl ?_
          refine W.widen (k := 0) (n := 0) (Nat.le_of_ble_eq_true rfl) (Nat.le_of_ble_eq_true rfl) ?_
          refine lv_d2l hx hb dX4_bitsOf_141 ?_
          refine lv_ladd hx hb dX4_bitsOf_142 ?_
          exact t_L cx hr hlocks hP hS (congrArg (Prod.mk M) (Option.some.inj hj)) (Nat.le_of_ble_eq_true rfl) (Nat.le_of_ble_eq_true rfl) dX4_bitsOf_143
        · have hj := if_f c3 hj
          refine lv_lload hx hb dX4_bitsOf_91 (lv_at hl 0 rfl) ?_
          refine lv_iload_n hx hb dX4_bitsOf_93 rfl (lv_at hl 2 rfl) ?_
          refine lv_if_eq (tgt := 103) hx hb dX4_bitsOf_94 (by decide) (fun c8 => ?_) (fun c8 => ?_)
          · have hj := if_t c8 hj
            refine lv_ldc2 hx hb cx.2.2.2.1 (cx.2.2.2.2.1 _ mK_X4_33) dX4_bitsOf_103 ?_
            exact J_106 p4 (2047 : Int64) s0 H locs ls hj hP hS (lv_sub hl [3] rfl)
          · have hj := if_f c8 hj
            refine lv_ldc2 hx hb cx.2.2.2.1 (cx.2.2.2.2.1 _ mK_X4_31) dX4_bitsOf_97 ?_
            refine lv_goto (tgt := 106) hx hb dX4_bitsOf_100 (by decide) ?_
            exact J_106 p4 (255 : Int64) s0 H locs ls hj hP hS (lv_sub hl [3] rfl)
      · have hj := if_t c1 hj
        refine lv_lload hx hb dX4_bitsOf_80 (lv_at hl 0 rfl) ?_
        exact t_L cx hr hlocks hP hS (congrArg (Prod.mk M) (Option.some.inj hj)) (Nat.le_of_ble_eq_true rfl) (Nat.le_of_ble_eq_true rfl) dX4_bitsOf_82
    have J_66 : ∀ (p0 : Nat) (p3 : Int32) (p4 : Int32) (p5 : Int32) (p7 : UInt64) (s0 : Int32) (s1 : Int64) (H : Heap) (locs : List Loc) (ls : Array Slot), j_X4_bitsOf_66 g M p0 p3 p4 p5 p7 s0 s1 = some RR → hp X M H → va_S (hA X) s.heap H locs → lv_has ls 12 [(0, .ref p0), (3, .int p3), (4, .int p4), (5, .int p5), (7, .double p7)] → W p l e ({ frames := 1, cells := 0, slots := 0, locals := 29 } : Room) s m _ below meth c H locs 0 0 (MQ below (qL X (M, RR)) _ s 0 0 (hA X)) (F0 m 66 ls [.int s0, .long s1]) := by
      intro p0 p3 p4 p5 p7 s0 s1 H locs ls hj hP hS hl
      unfold j_X4_bitsOf_66 at hj
      refine lv_lshl (v := (s1 <<< (s0.toInt64 &&& 63))) hx hb dX4_bitsOf_66 rfl ?_
      refine lv_goto (tgt := 71) hx hb dX4_bitsOf_67 (by decide) ?_
      exact J_71 p0 p3 p4 p5 p7 (s1 <<< (s0.toInt64 &&& 63)) H locs ls hj hP hS (lv_sub hl [0, 1, 2, 3, 4] rfl)
    have J_45 : ∀ (p0 : Nat) (p3 : Int32) (p4 : Int32) (p5 : Int32) (p6 : Int32) (s0 : UInt64) (H : Heap) (locs : List Loc) (ls : Array Slot), j_X4_bitsOf_45 g M p0 p3 p4 p5 p6 s0 = some RR → hp X M H → va_S (hA X) s.heap H locs → lv_has ls 12 [(0, .ref p0), (3, .int p3), (4, .int p4), (5, .int p5), (6, .int p6)] → W p l e ({ frames := 1, cells := 0, slots := 0, locals := 29 } : Room) s m _ below meth c H locs 0 0 (MQ below (qL X (M, RR)) _ s 0 0 (hA X)) (F0 m 45 ls [.double s0]) := by
      intro p0 p3 p4 p5 p6 s0 H locs ls hj hP hS hl
      unfold j_X4_bitsOf_45 at hj
      refine lv_dstore (lv' := [(7, .double s0), (0, .ref p0), (3, .int p3), (4, .int p4), (5, .int p5), (6, .int p6)]) hx hb dX4_bitsOf_45 hl (by decide) rfl (fun ls hl => ?_)
      refine lv_iload hx hb dX4_bitsOf_47 (lv_at hl 5 rfl) ?_
      refine lv_if_eq (tgt := 70) hx hb dX4_bitsOf_49 (by decide) (fun c9 => ?_) (fun c9 => ?_)
      · have hj := if_t c9 hj
        refine lv_lconst (v := 0) hx hb dX4_bitsOf_70 (by decide) ?_
        exact J_71 p0 p3 p4 p5 s0 (0 : Int64) H locs ls hj hP hS (lv_sub hl [1, 2, 3, 4, 0] rfl)
      · have hj := if_f c9 hj
        refine lv_ldc2 hx hb cx.2.2.2.1 (cx.2.2.2.2.1 _ mK_X4_26) dX4_bitsOf_52 ?_
        refine lv_iload_n hx hb dX4_bitsOf_55 rfl (lv_at hl 2 rfl) ?_
        refine lv_if_eq (tgt := 64) hx hb dX4_bitsOf_56 (by decide) (fun c10 => ?_) (fun c10 => ?_)
        · have hj := if_t c10 hj
          refine lv_bipush (v := 63) hx hb dX4_bitsOf_64 (by decide) ?_
          exact J_66 p0 p3 p4 p5 s0 (63 : Int32) (-1 : Int64) H locs ls hj hP hS (lv_sub hl [1, 2, 3, 4, 0] rfl)
        · have hj := if_f c10 hj
          refine lv_bipush (v := 31) hx hb dX4_bitsOf_59 (by decide) ?_
          refine lv_goto (tgt := 66) hx hb dX4_bitsOf_61 (by decide) ?_
          exact J_66 p0 p3 p4 p5 s0 (31 : Int32) (-1 : Int64) H locs ls hj hP hS (lv_sub hl [1, 2, 3, 4, 0] rfl)
    have J_26 : ∀ (p0 : Nat) (p1 : UInt64) (p3 : Int32) (p4 : Int32) (s0 : Int32) (H : Heap) (locs : List Loc) (ls : Array Slot), j_X4_bitsOf_26 g M p0 p1 p3 p4 s0 = some RR → hp X M H → va_S (hA X) s.heap H locs → lv_has ls 12 [(0, .ref p0), (1, .double p1), (3, .int p3), (4, .int p4)] → W p l e ({ frames := 1, cells := 0, slots := 0, locals := 29 } : Room) s m _ below meth c H locs 0 0 (MQ below (qL X (M, RR)) _ s 0 0 (hA X)) (F0 m 26 ls [.int s0]) := by
      intro p0 p1 p3 p4 s0 H locs ls hj hP hS hl
      unfold j_X4_bitsOf_26 at hj
      refine lv_istore (lv' := [(5, .int s0), (0, .ref p0), (1, .double p1), (3, .int p3), (4, .int p4)]) hx hb dX4_bitsOf_26 hl (by decide) rfl (fun ls hl => ?_)
      refine lv_dload_n hx hb dX4_bitsOf_28 rfl (lv_at hl 2 rfl) ?_
      obtain ⟨v11, g_v11, hj⟩ := Option.bind_eq_some_iff.mp hj
      refine f_I (k_N (As := [.double p1]) (n := 1) (rest := []) cx hl.1 hP hS (c_X5_hasMinus l X g M p1 v11 g_v11) mC_X5_hasMinus cx.2.2.2.2.2.1.2.1.2.2.2.1 mT_X5_hasMinus mZ_X5 (by decide +kernel) ⟨Nat.le_of_ble_eq_true rfl, Nat.le_of_ble_eq_true rfl⟩ rfl rfl (Nat.le_of_ble_eq_true rfl) dX4_bitsOf_29 ⟨Nat.le_of_ble_eq_true rfl, Nat.le_of_ble_eq_true rfl⟩) hS (fun H locs hP hS => ?_)
      have hP : hp X M H := hP
      refine W.eq (g2 := F0 m 32 ls [.int v11]) rfl ?_
      refine W.widen (k := 0) (n := 0) (Nat.le_of_ble_eq_true rfl) (Nat.le_of_ble_eq_true rfl) ?_
      refine lv_istore (lv' := [(6, .int v11), (5, .int s0), (0, .ref p0), (1, .double p1), (3, .int p3), (4, .int p4)]) hx hb dX4_bitsOf_32 hl (by decide) rfl (fun ls hl => ?_)
      refine lv_iload hx hb dX4_bitsOf_34 (lv_at hl 0 rfl) ?_
      refine lv_if_eq (tgt := 44) hx hb dX4_bitsOf_36 (by decide) (fun c12 => ?_) (fun c12 => ?_)
      · have hj := if_t c12 hj
        refine lv_dload_n hx hb dX4_bitsOf_44 rfl (lv_at hl 3 rfl) ?_
        exact J_45 p0 p3 p4 s0 v11 p1 H locs ls hj hP hS (lv_sub hl [2, 4, 5, 1, 0] rfl)
      · have hj := if_f c12 hj
        refine lv_dload_n hx hb dX4_bitsOf_39 rfl (lv_at hl 3 rfl) ?_
        refine lv_dneg hx hb dX4_bitsOf_40 ?_
        refine lv_goto (tgt := 45) hx hb dX4_bitsOf_41 (by decide) ?_
        exact J_45 p0 p3 p4 s0 v11 (FP.dneg p1) H locs ls hj hP hS (lv_sub hl [2, 4, 5, 1, 0] rfl)
    have J_11 : ∀ (p0 : Nat) (p1 : UInt64) (p3 : Int32) (s0 : Int32) (H : Heap) (locs : List Loc) (ls : Array Slot), j_X4_bitsOf_11 g M p0 p1 p3 s0 = some RR → hp X M H → va_S (hA X) s.heap H locs → lv_has ls 12 [(0, .ref p0), (1, .double p1), (3, .int p3)] → W p l e ({ frames := 1, cells := 0, slots := 0, locals := 29 } : Room) s m _ below meth c H locs 0 0 (MQ below (qL X (M, RR)) _ s 0 0 (hA X)) (F0 m 11 ls [.int s0]) := by
      intro p0 p1 p3 s0 H locs ls hj hP hS hl
      unfold j_X4_bitsOf_11 at hj
      refine lv_istore (lv' := [(4, .int s0), (0, .ref p0), (1, .double p1), (3, .int p3)]) hx hb dX4_bitsOf_11 hl (by decide) rfl (fun ls hl => ?_)
      refine lv_iload_n hx hb dX4_bitsOf_13 rfl (lv_at hl 3 rfl) ?_
      refine lv_if_eq (tgt := 23) hx hb dX4_bitsOf_14 (by decide) (fun c13 => ?_) (fun c13 => ?_)
      · have hj := if_t c13 hj
        refine lv_sipush (v := -1074) hx hb dX4_bitsOf_23 (by decide) ?_
        exact J_26 p0 p1 p3 s0 (-1074 : Int32) H locs ls hj hP hS (lv_sub hl [1, 2, 3, 0] rfl)
      · have hj := if_f c13 hj
        refine lv_sipush (v := -149) hx hb dX4_bitsOf_17 (by decide) ?_
        refine lv_goto (tgt := 26) hx hb dX4_bitsOf_20 (by decide) ?_
        exact J_26 p0 p1 p3 s0 (-149 : Int32) H locs ls hj hP hS (lv_sub hl [1, 2, 3, 0] rfl)
    intro H locs hP hS
    refine lv_iload_n hx hb dX4_bitsOf_0 rfl (lv_at hl 2 rfl) ?_
    refine lv_if_eq (tgt := 9) hx hb dX4_bitsOf_1 (by decide) (fun c14 => ?_) (fun c14 => ?_)
    · have hj := if_t c14 hj
      refine lv_bipush (v := 52) hx hb dX4_bitsOf_9 (by decide) ?_
      exact J_11 a0 a1 a3 (52 : Int32) H locs ls hj hP hS (lv_sub hl [0, 1, 2] rfl)
    · have hj := if_f c14 hj
      refine lv_bipush (v := 23) hx hb dX4_bitsOf_4 (by decide) ?_
      refine lv_goto (tgt := 11) hx hb dX4_bitsOf_6 (by decide) ?_
      exact J_11 a0 a1 a3 (23 : Int32) H locs ls hj hP hS (lv_sub hl [0, 1, 2] rfl)
  exact hgo _ _ hP hS
set_option maxHeartbeats 4000000 in
set_option maxRecDepth 100000 in
theorem c_X5_isColumn (l : Launch) (X : hX) (g : Nat) (M : hm) (a0 : Int32) (RR : Int32) (hj : j_X5_isColumn g a0 = some RR) : Ct l X yX5_isColumn cX5_isColumn 1 (some .boolean) { frames := 0, cells := 0, slots := 0, locals := 0 } [.int a0] M (qI X (M, RR)) := by
  refine h_enter (own := RX5) (by decide) rfl (Nat.le_of_ble_eq_true rfl) ?_
  intro p e s m below meth c ls cx hr hlocks hnm hP hS hl
  have hx := cx.1
  have hb := cx.2.1
  have hl : lv_has ls 1 [(0, .int a0)] := hl
  unfold j_X5_isColumn at hj
  have hgo : ∀ (H : Heap) (locs : List Loc), hp X M H → va_S (hA X) s.heap H locs → W p l e ({ frames := 0, cells := 0, slots := 0, locals := 0 } : Room) s m _ below meth c H locs 0 0 (MQ below (qI X (M, RR)) _ s 0 0 (hA X)) (F0 m 0 ls []) := by
    have J_15 : ∀ (s0 : Int32) (H : Heap) (locs : List Loc) (ls : Array Slot), j_X5_isColumn_15 g s0 = some RR → hp X M H → va_S (hA X) s.heap H locs → lv_has ls 1 [] → W p l e ({ frames := 0, cells := 0, slots := 0, locals := 0 } : Room) s m _ below meth c H locs 0 0 (MQ below (qI X (M, RR)) _ s 0 0 (hA X)) (F0 m 15 ls [.int s0]) := by
      intro s0 H locs ls hj hP hS hl
      unfold j_X5_isColumn_15 at hj
      obtain ⟨z1, g_z1, hj⟩ := Option.bind_eq_some_iff.mp hj
      exact t_Z cx hr hlocks hP hS (zb_eq g_z1).1 (congrArg (Prod.mk M) (Option.some.inj hj)) (Nat.le_of_ble_eq_true rfl) (Nat.le_of_ble_eq_true rfl) dX5_isColumn_15
    have J_14 : ∀ (H : Heap) (locs : List Loc) (ls : Array Slot), j_X5_isColumn_14 g  = some RR → hp X M H → va_S (hA X) s.heap H locs → lv_has ls 1 [] → W p l e ({ frames := 0, cells := 0, slots := 0, locals := 0 } : Room) s m _ below meth c H locs 0 0 (MQ below (qI X (M, RR)) _ s 0 0 (hA X)) (F0 m 14 ls []) := by
      intro  H locs ls hj hP hS hl
      unfold j_X5_isColumn_14 at hj
      refine lv_iconst (v := 0) hx hb dX5_isColumn_14 (by decide) ?_
      exact J_15 (0 : Int32) H locs ls hj hP hS (lv_sub hl [] rfl)
    intro H locs hP hS
    refine lv_iload_n hx hb dX5_isColumn_0 rfl (lv_at hl 0 rfl) ?_
    refine lv_if_lt (tgt := 14) hx hb dX5_isColumn_1 (by decide) (fun c2 => ?_) (fun c2 => ?_)
    · have hj := if_t c2 hj
      exact J_14  H locs ls hj hP hS (lv_sub hl [] rfl)
    · have hj := if_f c2 hj
      refine lv_iload_n hx hb dX5_isColumn_4 rfl (lv_at hl 0 rfl) ?_
      refine lv_bipush (v := 12) hx hb dX5_isColumn_5 (by decide) ?_
      refine lv_icmp_ge (tgt := 14) hx hb dX5_isColumn_7 (by decide) (fun c3 => ?_) (fun c3 => ?_)
      · have hj := if_t c3 hj
        exact J_14  H locs ls hj hP hS (lv_sub hl [] rfl)
      · have hj := if_f c3 hj
        refine lv_iconst (v := 1) hx hb dX5_isColumn_10 (by decide) ?_
        refine lv_goto (tgt := 15) hx hb dX5_isColumn_11 (by decide) ?_
        exact J_15 (1 : Int32) H locs ls hj hP hS (lv_sub hl [] rfl)
  exact hgo _ _ hP hS
set_option maxHeartbeats 4000000 in
set_option maxRecDepth 100000 in
theorem c_X5_isComparison (l : Launch) (X : hX) (g : Nat) (M : hm) (a0 : Int32) (RR : Int32) (hj : j_X5_isComparison g a0 = some RR) : Ct l X yX5_isComparison cX5_isComparison 1 (some .boolean) { frames := 0, cells := 0, slots := 0, locals := 0 } [.int a0] M (qI X (M, RR)) := by
  refine h_enter (own := RX5) (by decide) rfl (Nat.le_of_ble_eq_true rfl) ?_
  intro p e s m below meth c ls cx hr hlocks hnm hP hS hl
  have hx := cx.1
  have hb := cx.2.1
  have hl : lv_has ls 1 [(0, .int a0)] := hl
  unfold j_X5_isComparison at hj
  have hgo : ∀ (H : Heap) (locs : List Loc), hp X M H → va_S (hA X) s.heap H locs → W p l e ({ frames := 0, cells := 0, slots := 0, locals := 0 } : Room) s m _ below meth c H locs 0 0 (MQ below (qI X (M, RR)) _ s 0 0 (hA X)) (F0 m 0 ls []) := by
    have J_15 : ∀ (s0 : Int32) (H : Heap) (locs : List Loc) (ls : Array Slot), j_X5_isComparison_15 g s0 = some RR → hp X M H → va_S (hA X) s.heap H locs → lv_has ls 1 [] → W p l e ({ frames := 0, cells := 0, slots := 0, locals := 0 } : Room) s m _ below meth c H locs 0 0 (MQ below (qI X (M, RR)) _ s 0 0 (hA X)) (F0 m 15 ls [.int s0]) := by
      intro s0 H locs ls hj hP hS hl
      unfold j_X5_isComparison_15 at hj
      obtain ⟨z1, g_z1, hj⟩ := Option.bind_eq_some_iff.mp hj
      exact t_Z cx hr hlocks hP hS (zb_eq g_z1).1 (congrArg (Prod.mk M) (Option.some.inj hj)) (Nat.le_of_ble_eq_true rfl) (Nat.le_of_ble_eq_true rfl) dX5_isComparison_15
    have J_14 : ∀ (H : Heap) (locs : List Loc) (ls : Array Slot), j_X5_isComparison_14 g  = some RR → hp X M H → va_S (hA X) s.heap H locs → lv_has ls 1 [] → W p l e ({ frames := 0, cells := 0, slots := 0, locals := 0 } : Room) s m _ below meth c H locs 0 0 (MQ below (qI X (M, RR)) _ s 0 0 (hA X)) (F0 m 14 ls []) := by
      intro  H locs ls hj hP hS hl
      unfold j_X5_isComparison_14 at hj
      refine lv_iconst (v := 0) hx hb dX5_isComparison_14 (by decide) ?_
      exact J_15 (0 : Int32) H locs ls hj hP hS (lv_sub hl [] rfl)
    intro H locs hP hS
    refine lv_iload_n hx hb dX5_isComparison_0 rfl (lv_at hl 0 rfl) ?_
    refine lv_if_lt (tgt := 14) hx hb dX5_isComparison_1 (by decide) (fun c2 => ?_) (fun c2 => ?_)
    · have hj := if_t c2 hj
      exact J_14  H locs ls hj hP hS (lv_sub hl [] rfl)
    · have hj := if_f c2 hj
      refine lv_iload_n hx hb dX5_isComparison_4 rfl (lv_at hl 0 rfl) ?_
      refine lv_bipush (v := 12) hx hb dX5_isComparison_5 (by decide) ?_
      refine lv_icmp_ge (tgt := 14) hx hb dX5_isComparison_7 (by decide) (fun c3 => ?_) (fun c3 => ?_)
      · have hj := if_t c3 hj
        exact J_14  H locs ls hj hP hS (lv_sub hl [] rfl)
      · have hj := if_f c3 hj
        refine lv_iconst (v := 1) hx hb dX5_isComparison_10 (by decide) ?_
        refine lv_goto (tgt := 15) hx hb dX5_isComparison_11 (by decide) ?_
        exact J_15 (1 : Int32) H locs ls hj hP hS (lv_sub hl [] rfl)
  exact hgo _ _ hP hS
