set_option maxHeartbeats 4000000 in
set_option maxRecDepth 100000 in
theorem c_X2_middleAt (l : Launch) (X : hX) (g : Nat) (M : hm) (a0 : Nat) (a1 : Int32) (RR : UInt64) (hj : j_X2_middleAt g M a0 a1 = some RR) : Ct l X yX2_middleAt cX2_middleAt 9 (some .double) { frames := 2, cells := 0, slots := 0, locals := 44 } [.ref a0, .int a1] M (qD X (M, RR)) := by
  refine h_enter (own := RX2) (by decide) rfl (Nat.le_of_ble_eq_true rfl) ?_
  intro p e s m below meth c ls cx hr hlocks hnm hP hS hl
  have hx := cx.1
  have hb := cx.2.1
  have hl : lv_has ls 9 [(0, .ref a0), (1, .int a1)] := hl
  unfold j_X2_middleAt at hj
  have hgo : ∀ (H : Heap) (locs : List Loc), hp X M H → va_S (hA X) s.heap H locs → W p l e ({ frames := 2, cells := 0, slots := 0, locals := 44 } : Room) s m _ below meth c H locs 0 0 (MQ below (qD X (M, RR)) _ s 0 0 (hA X)) (F0 m 0 ls []) := by
    have J_134 : ∀ (s0 : UInt64) (H : Heap) (locs : List Loc) (ls : Array Slot), j_X2_middleAt_134 g M s0 = some RR → hp X M H → va_S (hA X) s.heap H locs → lv_has ls 9 [] → W p l e ({ frames := 2, cells := 0, slots := 0, locals := 44 } : Room) s m _ below meth c H locs 0 0 (MQ below (qD X (M, RR)) _ s 0 0 (hA X)) (F0 m 134 ls [.double s0]) := by
      intro s0 H locs ls hj hP hS hl
      unfold j_X2_middleAt_134 at hj
      exact t_D cx hr hlocks hP hS (congrArg (Prod.mk M) (Option.some.inj hj)) (Nat.le_of_ble_eq_true rfl) (Nat.le_of_ble_eq_true rfl) dX2_middleAt_134
    have J_91 : ∀ (p0 : Nat) (p1 : Int32) (p3 : UInt64) (s0 : UInt64) (H : Heap) (locs : List Loc) (ls : Array Slot), j_X2_middleAt_91 g M p0 p1 p3 s0 = some RR → hp X M H → va_S (hA X) s.heap H locs → lv_has ls 9 [(0, .ref p0), (1, .int p1), (3, .double p3)] → W p l e ({ frames := 2, cells := 0, slots := 0, locals := 44 } : Room) s m _ below meth c H locs 0 0 (MQ below (qD X (M, RR)) _ s 0 0 (hA X)) (F0 m 91 ls [.double s0]) := by
      intro p0 p1 p3 s0 H locs ls hj hP hS hl
      unfold j_X2_middleAt_91 at hj
      refine lv_dstore (lv' := [(5, .double s0), (0, .ref p0), (1, .int p1), (3, .double p3)]) hx hb dX2_middleAt_91 hl (by decide) rfl (fun ls hl => ?_)
      refine lv_aload_n hx hb dX2_middleAt_93 rfl (lv_at hl 1 rfl) ?_
      obtain ⟨v1, g_v1, hj⟩ := Option.bind_eq_some_iff.mp hj
      refine r_getR cx hP g_v1 iX2 rfl (by decide) mF_X2_21 dX2_middleAt_94 ?_
      obtain ⟨b2, e_b2, hj⟩ := Option.bind_eq_some_iff.mp hj
      subst e_b2
      obtain ⟨v3, g_v3, hj⟩ := Option.bind_eq_some_iff.mp hj
      refine r_getR cx hP g_v3 iX3 rfl (by decide) mF_X2_87 dX2_middleAt_97 ?_
      refine lv_iload_n hx hb dX2_middleAt_100 rfl (lv_at hl 2 rfl) ?_
      refine lv_iconst (v := 1) hx hb dX2_middleAt_101 (by decide) ?_
      refine lv_iadd hx hb dX2_middleAt_102 ?_
      obtain ⟨b4, e_b4, hj⟩ := Option.bind_eq_some_iff.mp hj
      subst e_b4
      obtain ⟨v5, g_v5, hj⟩ := Option.bind_eq_some_iff.mp hj
      refine r_aldD cx hP g_v5 dX2_middleAt_103 ?_
      refine lv_dstore (lv' := [(7, .double v5), (5, .double s0), (0, .ref p0), (1, .int p1), (3, .double p3)]) hx hb dX2_middleAt_104 hl (by decide) rfl (fun ls hl => ?_)
      refine lv_dload hx hb dX2_middleAt_106 (lv_at hl 0 rfl) ?_
      refine lv_dload_n hx hb dX2_middleAt_108 rfl (lv_at hl 4 rfl) ?_
      obtain ⟨v6, g_v6, hj⟩ := Option.bind_eq_some_iff.mp hj
      refine f_I (k_S (As := [.double v5, .double p3]) (n := 2) (rest := []) cx hl.1 hP hS (c_X2_comesBefore l X g M v5 p3 v6 g_v6) mC_X2_comesBefore mM_X2_157 mT_X2_comesBefore mZ_X2 (by decide +kernel) ⟨Nat.le_of_ble_eq_true rfl, Nat.le_of_ble_eq_true rfl⟩ rfl rfl (Nat.le_of_ble_eq_true rfl) dX2_middleAt_109 ⟨Nat.le_of_ble_eq_true rfl, Nat.le_of_ble_eq_true rfl⟩) hS (fun H locs hP hS => ?_)
      have hP : hp X M H := hP
      refine W.eq (g2 := F0 m 112 ls [.int v6]) rfl ?_
      refine W.widen (k := 0) (n := 0) (Nat.le_of_ble_eq_true rfl) (Nat.le_of_ble_eq_true rfl) ?_
      refine lv_if_eq (tgt := 117) hx hb dX2_middleAt_112 (by decide) (fun c7 => ?_) (fun c7 => ?_)
      · have hj := if_t c7 hj
        refine lv_dload hx hb dX2_middleAt_117 (lv_at hl 1 rfl) ?_
        refine lv_dload hx hb dX2_middleAt_119 (lv_at hl 0 rfl) ?_
        obtain ⟨v8, g_v8, hj⟩ := Option.bind_eq_some_iff.mp hj
        refine f_I (k_S (As := [.double s0, .double v5]) (n := 2) (rest := []) cx hl.1 hP hS (c_X2_comesBefore l X g M s0 v5 v8 g_v8) mC_X2_comesBefore mM_X2_157 mT_X2_comesBefore mZ_X2 (by decide +kernel) ⟨Nat.le_of_ble_eq_true rfl, Nat.le_of_ble_eq_true rfl⟩ rfl rfl (Nat.le_of_ble_eq_true rfl) dX2_middleAt_121 ⟨Nat.le_of_ble_eq_true rfl, Nat.le_of_ble_eq_true rfl⟩) hS (fun H locs hP hS => ?_)
        have hP : hp X M H := hP
        refine W.eq (g2 := F0 m 124 ls [.int v8]) rfl ?_
        refine W.widen (k := 0) (n := 0) (Nat.le_of_ble_eq_true rfl) (Nat.le_of_ble_eq_true rfl) ?_
        refine lv_if_eq (tgt := 132) hx hb dX2_middleAt_124 (by decide) (fun c9 => ?_) (fun c9 => ?_)
        · have hj := if_t c9 hj
          refine lv_dload hx hb dX2_middleAt_132 (lv_at hl 0 rfl) ?_
          exact J_134 v5 H locs ls hj hP hS (lv_sub hl [] rfl)
        · have hj := if_f c9 hj
          refine lv_dload hx hb dX2_middleAt_127 (lv_at hl 1 rfl) ?_
          refine lv_goto (tgt := 134) hx hb dX2_middleAt_129 (by decide) ?_
          exact J_134 s0 H locs ls hj hP hS (lv_sub hl [] rfl)
      · have hj := if_f c7 hj
        refine lv_dload_n hx hb dX2_middleAt_115 rfl (lv_at hl 4 rfl) ?_
        exact t_D cx hr hlocks hP hS (congrArg (Prod.mk M) (Option.some.inj hj)) (Nat.le_of_ble_eq_true rfl) (Nat.le_of_ble_eq_true rfl) dX2_middleAt_116
    have J_63 : ∀ (p0 : Nat) (p1 : Int32) (p2 : Int32) (s0 : UInt64) (H : Heap) (locs : List Loc) (ls : Array Slot), j_X2_middleAt_63 g M p0 p1 p2 s0 = some RR → hp X M H → va_S (hA X) s.heap H locs → lv_has ls 9 [(0, .ref p0), (1, .int p1), (2, .int p2)] → W p l e ({ frames := 2, cells := 0, slots := 0, locals := 44 } : Room) s m _ below meth c H locs 0 0 (MQ below (qD X (M, RR)) _ s 0 0 (hA X)) (F0 m 63 ls [.double s0]) := by
      intro p0 p1 p2 s0 H locs ls hj hP hS hl
      unfold j_X2_middleAt_63 at hj
      refine lv_dstore_n (lv' := [(3, .double s0), (0, .ref p0), (1, .int p1), (2, .int p2)]) hx hb dX2_middleAt_63 rfl hl (by decide) rfl (fun ls hl => ?_)
      refine lv_iload_n hx hb dX2_middleAt_64 rfl (lv_at hl 3 rfl) ?_
      refine lv_if_eq (tgt := 82) hx hb dX2_middleAt_65 (by decide) (fun c10 => ?_) (fun c10 => ?_)
      · have hj := if_t c10 hj
        refine lv_aload_n hx hb dX2_middleAt_82 rfl (lv_at hl 1 rfl) ?_
        obtain ⟨v11, g_v11, hj⟩ := Option.bind_eq_some_iff.mp hj
        refine r_getR cx hP g_v11 iX2 rfl (by decide) mF_X2_21 dX2_middleAt_83 ?_
        obtain ⟨b12, e_b12, hj⟩ := Option.bind_eq_some_iff.mp hj
        subst e_b12
        obtain ⟨v13, g_v13, hj⟩ := Option.bind_eq_some_iff.mp hj
        refine r_getR cx hP g_v13 iX3 rfl (by decide) mF_X2_87 dX2_middleAt_86 ?_
        refine lv_iload_n hx hb dX2_middleAt_89 rfl (lv_at hl 2 rfl) ?_
        obtain ⟨b14, e_b14, hj⟩ := Option.bind_eq_some_iff.mp hj
        subst e_b14
        obtain ⟨v15, g_v15, hj⟩ := Option.bind_eq_some_iff.mp hj
        refine r_aldD cx hP g_v15 dX2_middleAt_90 ?_
        exact J_91 p0 p1 s0 v15 H locs ls hj hP hS (lv_sub hl [1, 2, 0] rfl)
      · have hj := if_f c10 hj
        refine lv_aload_n hx hb dX2_middleAt_68 rfl (lv_at hl 1 rfl) ?_
        obtain ⟨v16, g_v16, hj⟩ := Option.bind_eq_some_iff.mp hj
        refine r_getR cx hP g_v16 iX2 rfl (by decide) mF_X2_21 dX2_middleAt_69 ?_
        obtain ⟨b17, e_b17, hj⟩ := Option.bind_eq_some_iff.mp hj
        subst e_b17
        obtain ⟨v18, g_v18, hj⟩ := Option.bind_eq_some_iff.mp hj
        refine r_getR cx hP g_v18 iX3 rfl (by decide) mF_X2_87 dX2_middleAt_72 ?_
        refine lv_iload_n hx hb dX2_middleAt_75 rfl (lv_at hl 2 rfl) ?_
        refine lv_iconst (v := 1) hx hb dX2_middleAt_76 (by decide) ?_
        refine lv_isub hx hb dX2_middleAt_77 ?_
        obtain ⟨b19, e_b19, hj⟩ := Option.bind_eq_some_iff.mp hj
        subst e_b19
        obtain ⟨v20, g_v20, hj⟩ := Option.bind_eq_some_iff.mp hj
        refine r_aldD cx hP g_v20 dX2_middleAt_78 ?_
        refine lv_goto (tgt := 91) hx hb dX2_middleAt_79 (by decide) ?_
        exact J_91 p0 p1 s0 v20 H locs ls hj hP hS (lv_sub hl [1, 2, 0] rfl)
    have J_10 : ∀ (H : Heap) (locs : List Loc) (ls : Array Slot), j_X2_middleAt_10 g M  = some RR → hp X M H → va_S (hA X) s.heap H locs → lv_has ls 9 [] → W p l e ({ frames := 2, cells := 0, slots := 0, locals := 44 } : Room) s m _ below meth c H locs 0 0 (MQ below (qD X (M, RR)) _ s 0 0 (hA X)) (F0 m 10 ls []) := by
      intro  H locs ls hj hP hS hl
      unfold j_X2_middleAt_10 at hj
      refine lv_dconst0 hx hb dX2_middleAt_10 ?_
      exact t_D cx hr hlocks hP hS (congrArg (Prod.mk M) (Option.some.inj hj)) (Nat.le_of_ble_eq_true rfl) (Nat.le_of_ble_eq_true rfl) dX2_middleAt_11
    intro H locs hP hS
    refine lv_iload_n hx hb dX2_middleAt_0 rfl (lv_at hl 1 rfl) ?_
    refine lv_if_le (tgt := 10) hx hb dX2_middleAt_1 (by decide) (fun c21 => ?_) (fun c21 => ?_)
    · have hj := if_t c21 hj
      exact J_10  H locs ls hj hP hS (lv_sub hl [] rfl)
    · have hj := if_f c21 hj
      refine lv_iload_n hx hb dX2_middleAt_4 rfl (lv_at hl 1 rfl) ?_
      refine lv_bipush (v := 15) hx hb dX2_middleAt_5 (by decide) ?_
      refine lv_icmp_lt (tgt := 12) hx hb dX2_middleAt_7 (by decide) (fun c22 => ?_) (fun c22 => ?_)
      · have hj := if_t c22 hj
        refine lv_aload_n hx hb dX2_middleAt_12 rfl (lv_at hl 0 rfl) ?_
        obtain ⟨v23, g_v23, hj⟩ := Option.bind_eq_some_iff.mp hj
        refine r_getR cx hP g_v23 iX2 rfl (by decide) mF_X2_21 dX2_middleAt_13 ?_
        obtain ⟨b24, e_b24, hj⟩ := Option.bind_eq_some_iff.mp hj
        subst e_b24
        obtain ⟨v25, g_v25, hj⟩ := Option.bind_eq_some_iff.mp hj
        refine r_getR cx hP g_v25 iX3 rfl (by decide) mF_X2_87 dX2_middleAt_16 ?_
        refine lv_iload_n hx hb dX2_middleAt_19 rfl (lv_at hl 1 rfl) ?_
        obtain ⟨b26, e_b26, hj⟩ := Option.bind_eq_some_iff.mp hj
        subst e_b26
        obtain ⟨v27, g_v27, hj⟩ := Option.bind_eq_some_iff.mp hj
        refine r_aldD cx hP g_v27 dX2_middleAt_20 ?_
        refine lv_aload_n hx hb dX2_middleAt_21 rfl (lv_at hl 0 rfl) ?_
        obtain ⟨v28, g_v28, hj⟩ := Option.bind_eq_some_iff.mp hj
        refine r_getR cx hP g_v28 iX2 rfl (by decide) mF_X2_21 dX2_middleAt_22 ?_
        obtain ⟨b29, e_b29, hj⟩ := Option.bind_eq_some_iff.mp hj
        subst e_b29
        obtain ⟨v30, g_v30, hj⟩ := Option.bind_eq_some_iff.mp hj
        refine r_getR cx hP g_v30 iX3 rfl (by decide) mF_X2_87 dX2_middleAt_25 ?_
        refine lv_iload_n hx hb dX2_middleAt_28 rfl (lv_at hl 1 rfl) ?_
        refine lv_iconst (v := 1) hx hb dX2_middleAt_29 (by decide) ?_
        refine lv_isub hx hb dX2_middleAt_30 ?_
        obtain ⟨b31, e_b31, hj⟩ := Option.bind_eq_some_iff.mp hj
        subst e_b31
        obtain ⟨v32, g_v32, hj⟩ := Option.bind_eq_some_iff.mp hj
        refine r_aldD cx hP g_v32 dX2_middleAt_31 ?_
        obtain ⟨v33, g_v33, hj⟩ := Option.bind_eq_some_iff.mp hj
        refine f_I (k_S (As := [.double v27, .double v32]) (n := 2) (rest := []) cx hl.1 hP hS (c_X2_comesBefore l X g M v27 v32 v33 g_v33) mC_X2_comesBefore mM_X2_157 mT_X2_comesBefore mZ_X2 (by decide +kernel) ⟨Nat.le_of_ble_eq_true rfl, Nat.le_of_ble_eq_true rfl⟩ rfl rfl (Nat.le_of_ble_eq_true rfl) dX2_middleAt_32 ⟨Nat.le_of_ble_eq_true rfl, Nat.le_of_ble_eq_true rfl⟩) hS (fun H locs hP hS => ?_)
        have hP : hp X M H := hP
        refine W.eq (g2 := F0 m 35 ls [.int v33]) rfl ?_
        refine W.widen (k := 0) (n := 0) (Nat.le_of_ble_eq_true rfl) (Nat.le_of_ble_eq_true rfl) ?_
        refine lv_istore_n (lv' := [(2, .int v33), (0, .ref a0), (1, .int a1)]) hx hb dX2_middleAt_35 rfl hl (by decide) rfl (fun ls hl => ?_)
        refine lv_iload_n hx hb dX2_middleAt_36 rfl (lv_at hl 0 rfl) ?_
        refine lv_if_eq (tgt := 52) hx hb dX2_middleAt_37 (by decide) (fun c34 => ?_) (fun c34 => ?_)
        · have hj := if_t c34 hj
          refine lv_aload_n hx hb dX2_middleAt_52 rfl (lv_at hl 1 rfl) ?_
          obtain ⟨v35, g_v35, hj⟩ := Option.bind_eq_some_iff.mp hj
          refine r_getR cx hP g_v35 iX2 rfl (by decide) mF_X2_21 dX2_middleAt_53 ?_
          obtain ⟨b36, e_b36, hj⟩ := Option.bind_eq_some_iff.mp hj
          subst e_b36
          obtain ⟨v37, g_v37, hj⟩ := Option.bind_eq_some_iff.mp hj
          refine r_getR cx hP g_v37 iX3 rfl (by decide) mF_X2_87 dX2_middleAt_56 ?_
          refine lv_iload_n hx hb dX2_middleAt_59 rfl (lv_at hl 2 rfl) ?_
          refine lv_iconst (v := 1) hx hb dX2_middleAt_60 (by decide) ?_
          refine lv_isub hx hb dX2_middleAt_61 ?_
          obtain ⟨b38, e_b38, hj⟩ := Option.bind_eq_some_iff.mp hj
          subst e_b38
          obtain ⟨v39, g_v39, hj⟩ := Option.bind_eq_some_iff.mp hj
          refine r_aldD cx hP g_v39 dX2_middleAt_62 ?_
          exact J_63 a0 a1 v33 v39 H locs ls hj hP hS (lv_sub hl [1, 2, 0] rfl)
        · have hj := if_f c34 hj
          refine lv_aload_n hx hb dX2_middleAt_40 rfl (lv_at hl 1 rfl) ?_
          obtain ⟨v40, g_v40, hj⟩ := Option.bind_eq_some_iff.mp hj
          refine r_getR cx hP g_v40 iX2 rfl (by decide) mF_X2_21 dX2_middleAt_41 ?_
          obtain ⟨b41, e_b41, hj⟩ := Option.bind_eq_some_iff.mp hj
          subst e_b41
          obtain ⟨v42, g_v42, hj⟩ := Option.bind_eq_some_iff.mp hj
          refine r_getR cx hP g_v42 iX3 rfl (by decide) mF_X2_87 dX2_middleAt_44 ?_
          refine lv_iload_n hx hb dX2_middleAt_47 rfl (lv_at hl 2 rfl) ?_
          obtain ⟨b43, e_b43, hj⟩ := Option.bind_eq_some_iff.mp hj
          subst e_b43
          obtain ⟨v44, g_v44, hj⟩ := Option.bind_eq_some_iff.mp hj
          refine r_aldD cx hP g_v44 dX2_middleAt_48 ?_
          refine lv_goto (tgt := 63) hx hb dX2_middleAt_49 (by decide) ?_
          exact J_63 a0 a1 v33 v44 H locs ls hj hP hS (lv_sub hl [1, 2, 0] rfl)
      · have hj := if_f c22 hj
        exact J_10  H locs ls hj hP hS (lv_sub hl [] rfl)
  exact hgo _ _ hP hS
set_option maxHeartbeats 4000000 in
set_option maxRecDepth 100000 in
theorem c_X2_nearest (l : Launch) (X : hX) (g : Nat) (M : hm) (a0 : UInt64) (RR : UInt64) (hj : j_X2_nearest g a0 = some RR) : Ct l X yX2_nearest cX2_nearest 8 (some .double) { frames := 1, cells := 0, slots := 0, locals := 21 } [.double a0] M (qD X (M, RR)) := by
  refine h_enter (own := RX2) (by decide) rfl (Nat.le_of_ble_eq_true rfl) ?_
  intro p e s m below meth c ls cx hr hlocks hnm hP hS hl
  have hx := cx.1
  have hb := cx.2.1
  have hl : lv_has ls 8 [(0, .double a0)] := hl
  unfold j_X2_nearest at hj
  have hgo : ∀ (H : Heap) (locs : List Loc), hp X M H → va_S (hA X) s.heap H locs → W p l e ({ frames := 1, cells := 0, slots := 0, locals := 21 } : Room) s m _ below meth c H locs 0 0 (MQ below (qD X (M, RR)) _ s 0 0 (hA X)) (F0 m 0 ls []) := by
    have J_82 : ∀ (s0 : UInt64) (H : Heap) (locs : List Loc) (ls : Array Slot), j_X2_nearest_82 g s0 = some RR → hp X M H → va_S (hA X) s.heap H locs → lv_has ls 8 [] → W p l e ({ frames := 1, cells := 0, slots := 0, locals := 21 } : Room) s m _ below meth c H locs 0 0 (MQ below (qD X (M, RR)) _ s 0 0 (hA X)) (F0 m 82 ls [.double s0]) := by
      intro s0 H locs ls hj hP hS hl
      unfold j_X2_nearest_82 at hj
      exact t_D cx hr hlocks hP hS (congrArg (Prod.mk M) (Option.some.inj hj)) (Nat.le_of_ble_eq_true rfl) (Nat.le_of_ble_eq_true rfl) dX2_nearest_82
    have J_66 : ∀ (p0 : UInt64) (p4 : Int64) (H : Heap) (locs : List Loc) (ls : Array Slot), j_X2_nearest_66 g p0 p4 = some RR → hp X M H → va_S (hA X) s.heap H locs → lv_has ls 8 [(0, .double p0), (4, .long p4)] → W p l e ({ frames := 1, cells := 0, slots := 0, locals := 21 } : Room) s m _ below meth c H locs 0 0 (MQ below (qD X (M, RR)) _ s 0 0 (hA X)) (F0 m 66 ls []) := by
      intro p0 p4 H locs ls hj hP hS hl
      unfold j_X2_nearest_66 at hj
      refine lv_dload_n hx hb dX2_nearest_66 rfl (lv_at hl 0 rfl) ?_
      refine lv_dconst0 hx hb dX2_nearest_67 ?_
      refine lv_dcmp hx hb dX2_nearest_68 ?_
      refine lv_if_ge (tgt := 79) hx hb dX2_nearest_69 (by decide) (fun c1 => ?_) (fun c1 => ?_)
      · have hj := if_t c1 hj
        refine lv_lload hx hb dX2_nearest_79 (lv_at hl 1 rfl) ?_
        refine lv_l2d hx hb dX2_nearest_81 ?_
        exact J_82 (FP.l2d p4) H locs ls hj hP hS (lv_sub hl [] rfl)
      · have hj := if_f c1 hj
        refine lv_lload hx hb dX2_nearest_72 (lv_at hl 1 rfl) ?_
        refine lv_l2d hx hb dX2_nearest_74 ?_
        refine lv_dneg hx hb dX2_nearest_75 ?_
        refine lv_goto (tgt := 82) hx hb dX2_nearest_76 (by decide) ?_
        exact J_82 (FP.dneg (FP.l2d p4)) H locs ls hj hP hS (lv_sub hl [] rfl)
    have J_60 : ∀ (p0 : UInt64) (p4 : Int64) (H : Heap) (locs : List Loc) (ls : Array Slot), j_X2_nearest_60 g p0 p4 = some RR → hp X M H → va_S (hA X) s.heap H locs → lv_has ls 8 [(0, .double p0), (4, .long p4)] → W p l e ({ frames := 1, cells := 0, slots := 0, locals := 21 } : Room) s m _ below meth c H locs 0 0 (MQ below (qD X (M, RR)) _ s 0 0 (hA X)) (F0 m 60 ls []) := by
      intro p0 p4 H locs ls hj hP hS hl
      unfold j_X2_nearest_60 at hj
      refine lv_lload hx hb dX2_nearest_60 (lv_at hl 1 rfl) ?_
      refine lv_lconst (v := 1) hx hb dX2_nearest_62 (by decide) ?_
      refine lv_ladd hx hb dX2_nearest_63 ?_
      refine lv_lstore (lv' := [(4, .long (p4 + (1 : Int64))), (0, .double p0)]) hx hb dX2_nearest_64 hl (by decide) rfl (fun ls hl => ?_)
      exact J_66 p0 (p4 + (1 : Int64)) H locs ls hj hP hS (lv_sub hl [1, 0] rfl)
    have J_21 : ∀ (p0 : UInt64) (s0 : UInt64) (H : Heap) (locs : List Loc) (ls : Array Slot), j_X2_nearest_21 g p0 s0 = some RR → hp X M H → va_S (hA X) s.heap H locs → lv_has ls 8 [(0, .double p0)] → W p l e ({ frames := 1, cells := 0, slots := 0, locals := 21 } : Room) s m _ below meth c H locs 0 0 (MQ below (qD X (M, RR)) _ s 0 0 (hA X)) (F0 m 21 ls [.double s0]) := by
      intro p0 s0 H locs ls hj hP hS hl
      unfold j_X2_nearest_21 at hj
      refine lv_dstore_n (lv' := [(2, .double s0), (0, .double p0)]) hx hb dX2_nearest_21 rfl hl (by decide) rfl (fun ls hl => ?_)
      refine lv_dload_n hx hb dX2_nearest_22 rfl (lv_at hl 0 rfl) ?_
      refine lv_d2l hx hb dX2_nearest_23 ?_
      refine lv_lstore (lv' := [(4, .long (FP.d2l s0)), (2, .double s0), (0, .double p0)]) hx hb dX2_nearest_24 hl (by decide) rfl (fun ls hl => ?_)
      refine lv_dload_n hx hb dX2_nearest_26 rfl (lv_at hl 1 rfl) ?_
      refine lv_lload hx hb dX2_nearest_27 (lv_at hl 0 rfl) ?_
      refine lv_l2d hx hb dX2_nearest_29 ?_
      obtain ⟨v2, g_v2, hj⟩ := Option.bind_eq_some_iff.mp hj
      obtain ⟨n_v2, e_v2⟩ := n64_eq g_v2
      refine lv_dsub hx hb dX2_nearest_30 n_v2 ?_
      rw [← e_v2]
      refine lv_dstore (lv' := [(6, .double v2), (4, .long (FP.d2l s0)), (2, .double s0), (0, .double p0)]) hx hb dX2_nearest_31 hl (by decide) rfl (fun ls hl => ?_)
      refine lv_dload hx hb dX2_nearest_33 (lv_at hl 0 rfl) ?_
      refine lv_ldc2d hx hb cx.2.2.2.1 (cx.2.2.2.2.1 _ mK_X2_168) dX2_nearest_35 ?_
      refine lv_dcmp hx hb dX2_nearest_38 ?_
      refine lv_if_gt (tgt := 60) hx hb dX2_nearest_39 (by decide) (fun c3 => ?_) (fun c3 => ?_)
      · have hj := if_t c3 hj
        exact J_60 p0 (FP.d2l s0) H locs ls hj hP hS (lv_sub hl [3, 1] rfl)
      · have hj := if_f c3 hj
        refine lv_dload hx hb dX2_nearest_42 (lv_at hl 0 rfl) ?_
        refine lv_ldc2d hx hb cx.2.2.2.1 (cx.2.2.2.2.1 _ mK_X2_168) dX2_nearest_44 ?_
        refine lv_dcmp hx hb dX2_nearest_47 ?_
        refine lv_if_ne (tgt := 66) hx hb dX2_nearest_48 (by decide) (fun c4 => ?_) (fun c4 => ?_)
        · have hj := if_f c4 hj
          exact J_66 p0 (FP.d2l s0) H locs ls hj hP hS (lv_sub hl [3, 1] rfl)
        · have hj := if_t c4 hj
          refine lv_lload hx hb dX2_nearest_51 (lv_at hl 1 rfl) ?_
          refine lv_lconst (v := 1) hx hb dX2_nearest_53 (by decide) ?_
          refine lv_land hx hb dX2_nearest_54 ?_
          refine lv_lconst (v := 1) hx hb dX2_nearest_55 (by decide) ?_
          refine W.lcmp hx hb dX2_nearest_56 ?_
          refine lv_if_ne (tgt := 66) hx hb dX2_nearest_57 (by decide) (fun c5 => ?_) (fun c5 => ?_)
          · have hj := if_f c5 hj
            exact J_66 p0 (FP.d2l s0) H locs ls hj hP hS (lv_sub hl [3, 1] rfl)
          · have hj := if_t c5 hj
            exact J_60 p0 (FP.d2l s0) H locs ls hj hP hS (lv_sub hl [3, 1] rfl)
    intro H locs hP hS
    refine lv_dload_n hx hb dX2_nearest_0 rfl (lv_at hl 0 rfl) ?_
    obtain ⟨v6, g_v6, hj⟩ := Option.bind_eq_some_iff.mp hj
    refine f_I (k_S (As := [.double a0]) (n := 1) (rest := []) cx hl.1 hP hS (c_X2_isSurelyWhole l X g M a0 v6 g_v6) mC_X2_isSurelyWhole mM_X2_165 mT_X2_isSurelyWhole mZ_X2 (by decide +kernel) ⟨Nat.le_of_ble_eq_true rfl, Nat.le_of_ble_eq_true rfl⟩ rfl rfl (Nat.le_of_ble_eq_true rfl) dX2_nearest_1 ⟨Nat.le_of_ble_eq_true rfl, Nat.le_of_ble_eq_true rfl⟩) hS (fun H locs hP hS => ?_)
    have hP : hp X M H := hP
    refine W.eq (g2 := F0 m 4 ls [.int v6]) rfl ?_
    refine W.widen (k := 0) (n := 0) (Nat.le_of_ble_eq_true rfl) (Nat.le_of_ble_eq_true rfl) ?_
    refine lv_if_eq (tgt := 9) hx hb dX2_nearest_4 (by decide) (fun c7 => ?_) (fun c7 => ?_)
    · have hj := if_t c7 hj
      refine lv_dload_n hx hb dX2_nearest_9 rfl (lv_at hl 0 rfl) ?_
      refine lv_dconst0 hx hb dX2_nearest_10 ?_
      refine lv_dcmp hx hb dX2_nearest_11 ?_
      refine lv_if_ge (tgt := 20) hx hb dX2_nearest_12 (by decide) (fun c8 => ?_) (fun c8 => ?_)
      · have hj := if_t c8 hj
        refine lv_dload_n hx hb dX2_nearest_20 rfl (lv_at hl 0 rfl) ?_
        exact J_21 a0 a0 H locs ls hj hP hS (lv_sub hl [0] rfl)
      · have hj := if_f c8 hj
        refine lv_dload_n hx hb dX2_nearest_15 rfl (lv_at hl 0 rfl) ?_
        refine lv_dneg hx hb dX2_nearest_16 ?_
        refine lv_goto (tgt := 21) hx hb dX2_nearest_17 (by decide) ?_
        exact J_21 a0 (FP.dneg a0) H locs ls hj hP hS (lv_sub hl [0] rfl)
    · have hj := if_f c7 hj
      refine lv_dload_n hx hb dX2_nearest_7 rfl (lv_at hl 0 rfl) ?_
      exact t_D cx hr hlocks hP hS (congrArg (Prod.mk M) (Option.some.inj hj)) (Nat.le_of_ble_eq_true rfl) (Nat.le_of_ble_eq_true rfl) dX2_nearest_8
  exact hgo _ _ hP hS
set_option maxHeartbeats 4000000 in
set_option maxRecDepth 100000 in
theorem c_X2_quotient (l : Launch) (X : hX) (g : Nat) (M : hm) (a0 : Nat) (a1 : UInt64) (a3 : UInt64) (RR : UInt64) (hj : j_X2_quotient g M a0 a1 a3 = some RR) : Ct l X yX2_quotient cX2_quotient 5 (some .double) { frames := 0, cells := 0, slots := 0, locals := 0 } [.ref a0, .double a1, .double a3] M (qD X (M, RR)) := by
  refine h_enter (own := RX2) (by decide) rfl (Nat.le_of_ble_eq_true rfl) ?_
  intro p e s m below meth c ls cx hr hlocks hnm hP hS hl
  have hx := cx.1
  have hb := cx.2.1
  have hl : lv_has ls 5 [(0, .ref a0), (1, .double a1), (3, .double a3)] := hl
  unfold j_X2_quotient at hj
  have hgo : ∀ (H : Heap) (locs : List Loc), hp X M H → va_S (hA X) s.heap H locs → W p l e ({ frames := 0, cells := 0, slots := 0, locals := 0 } : Room) s m _ below meth c H locs 0 0 (MQ below (qD X (M, RR)) _ s 0 0 (hA X)) (F0 m 0 ls []) := by
    have J_22 : ∀ (s0 : UInt64) (H : Heap) (locs : List Loc) (ls : Array Slot), j_X2_quotient_22 g M s0 = some RR → hp X M H → va_S (hA X) s.heap H locs → lv_has ls 5 [] → W p l e ({ frames := 0, cells := 0, slots := 0, locals := 0 } : Room) s m _ below meth c H locs 0 0 (MQ below (qD X (M, RR)) _ s 0 0 (hA X)) (F0 m 22 ls [.double s0]) := by
      intro s0 H locs ls hj hP hS hl
      unfold j_X2_quotient_22 at hj
      exact t_D cx hr hlocks hP hS (congrArg (Prod.mk M) (Option.some.inj hj)) (Nat.le_of_ble_eq_true rfl) (Nat.le_of_ble_eq_true rfl) dX2_quotient_22
    intro H locs hP hS
    refine lv_aload_n hx hb dX2_quotient_0 rfl (lv_at hl 0 rfl) ?_
    obtain ⟨v1, g_v1, hj⟩ := Option.bind_eq_some_iff.mp hj
    refine r_getR cx hP g_v1 iX2 rfl (by decide) mF_X2_21 dX2_quotient_1 ?_
    obtain ⟨b2, e_b2, hj⟩ := Option.bind_eq_some_iff.mp hj
    subst e_b2
    obtain ⟨v3, g_v3, hj⟩ := Option.bind_eq_some_iff.mp hj
    refine r_getI cx hP g_v3 iX3 rfl (by decide) mF_X2_36 dX2_quotient_4 ?_
    refine lv_if_eq (tgt := 19) hx hb dX2_quotient_7 (by decide) (fun c4 => ?_) (fun c4 => ?_)
    · have hj := if_t c4 hj
      refine lv_dload_n hx hb dX2_quotient_19 rfl (lv_at hl 1 rfl) ?_
      refine lv_dload_n hx hb dX2_quotient_20 rfl (lv_at hl 2 rfl) ?_
      obtain ⟨v5, g_v5, hj⟩ := Option.bind_eq_some_iff.mp hj
      obtain ⟨n_v5, e_v5⟩ := n64_eq g_v5
      refine lv_ddiv hx hb dX2_quotient_21 n_v5 ?_
      rw [← e_v5]
      exact J_22 v5 H locs ls hj hP hS (lv_sub hl [] rfl)
    · have hj := if_f c4 hj
      refine lv_dload_n hx hb dX2_quotient_10 rfl (lv_at hl 1 rfl) ?_
      obtain ⟨v6, g_v6, hj⟩ := Option.bind_eq_some_iff.mp hj
      obtain ⟨n_v6, e_v6⟩ := n32_eq g_v6
      refine lv_d2f hx hb dX2_quotient_11 n_v6 ?_
      rw [← e_v6]
      refine lv_dload_n hx hb dX2_quotient_12 rfl (lv_at hl 2 rfl) ?_
      obtain ⟨v7, g_v7, hj⟩ := Option.bind_eq_some_iff.mp hj
      obtain ⟨n_v7, e_v7⟩ := n32_eq g_v7
      refine lv_d2f hx hb dX2_quotient_13 n_v7 ?_
      rw [← e_v7]
      obtain ⟨v8, g_v8, hj⟩ := Option.bind_eq_some_iff.mp hj
      obtain ⟨n_v8, e_v8⟩ := n32_eq g_v8
      refine lv_fdiv hx hb dX2_quotient_14 n_v8 ?_
      rw [← e_v8]
      obtain ⟨v9, g_v9, hj⟩ := Option.bind_eq_some_iff.mp hj
      obtain ⟨n_v9, e_v9⟩ := n64_eq g_v9
      refine lv_f2d hx hb dX2_quotient_15 n_v9 ?_
      rw [← e_v9]
      refine lv_goto (tgt := 22) hx hb dX2_quotient_16 (by decide) ?_
      exact J_22 v9 H locs ls hj hP hS (lv_sub hl [] rfl)
  exact hgo _ _ hP hS
set_option maxHeartbeats 4000000 in
set_option maxRecDepth 100000 in
theorem c_X2_product (l : Launch) (X : hX) (g : Nat) (M : hm) (a0 : Nat) (a1 : UInt64) (a3 : UInt64) (RR : UInt64) (hj : j_X2_product g M a0 a1 a3 = some RR) : Ct l X yX2_product cX2_product 5 (some .double) { frames := 0, cells := 0, slots := 0, locals := 0 } [.ref a0, .double a1, .double a3] M (qD X (M, RR)) := by
  refine h_enter (own := RX2) (by decide) rfl (Nat.le_of_ble_eq_true rfl) ?_
  intro p e s m below meth c ls cx hr hlocks hnm hP hS hl
  have hx := cx.1
  have hb := cx.2.1
  have hl : lv_has ls 5 [(0, .ref a0), (1, .double a1), (3, .double a3)] := hl
  unfold j_X2_product at hj
  have hgo : ∀ (H : Heap) (locs : List Loc), hp X M H → va_S (hA X) s.heap H locs → W p l e ({ frames := 0, cells := 0, slots := 0, locals := 0 } : Room) s m _ below meth c H locs 0 0 (MQ below (qD X (M, RR)) _ s 0 0 (hA X)) (F0 m 0 ls []) := by
    have J_22 : ∀ (s0 : UInt64) (H : Heap) (locs : List Loc) (ls : Array Slot), j_X2_product_22 g M s0 = some RR → hp X M H → va_S (hA X) s.heap H locs → lv_has ls 5 [] → W p l e ({ frames := 0, cells := 0, slots := 0, locals := 0 } : Room) s m _ below meth c H locs 0 0 (MQ below (qD X (M, RR)) _ s 0 0 (hA X)) (F0 m 22 ls [.double s0]) := by
      intro s0 H locs ls hj hP hS hl
      unfold j_X2_product_22 at hj
      exact t_D cx hr hlocks hP hS (congrArg (Prod.mk M) (Option.some.inj hj)) (Nat.le_of_ble_eq_true rfl) (Nat.le_of_ble_eq_true rfl) dX2_product_22
    intro H locs hP hS
    refine lv_aload_n hx hb dX2_product_0 rfl (lv_at hl 0 rfl) ?_
    obtain ⟨v1, g_v1, hj⟩ := Option.bind_eq_some_iff.mp hj
    refine r_getR cx hP g_v1 iX2 rfl (by decide) mF_X2_21 dX2_product_1 ?_
    obtain ⟨b2, e_b2, hj⟩ := Option.bind_eq_some_iff.mp hj
    subst e_b2
    obtain ⟨v3, g_v3, hj⟩ := Option.bind_eq_some_iff.mp hj
    refine r_getI cx hP g_v3 iX3 rfl (by decide) mF_X2_36 dX2_product_4 ?_
    refine lv_if_eq (tgt := 19) hx hb dX2_product_7 (by decide) (fun c4 => ?_) (fun c4 => ?_)
    · have hj := if_t c4 hj
      refine lv_dload_n hx hb dX2_product_19 rfl (lv_at hl 1 rfl) ?_
      refine lv_dload_n hx hb dX2_product_20 rfl (lv_at hl 2 rfl) ?_
      obtain ⟨v5, g_v5, hj⟩ := Option.bind_eq_some_iff.mp hj
      obtain ⟨n_v5, e_v5⟩ := n64_eq g_v5
      refine lv_dmul hx hb dX2_product_21 n_v5 ?_
      rw [← e_v5]
      exact J_22 v5 H locs ls hj hP hS (lv_sub hl [] rfl)
    · have hj := if_f c4 hj
      refine lv_dload_n hx hb dX2_product_10 rfl (lv_at hl 1 rfl) ?_
      obtain ⟨v6, g_v6, hj⟩ := Option.bind_eq_some_iff.mp hj
      obtain ⟨n_v6, e_v6⟩ := n32_eq g_v6
      refine lv_d2f hx hb dX2_product_11 n_v6 ?_
      rw [← e_v6]
      refine lv_dload_n hx hb dX2_product_12 rfl (lv_at hl 2 rfl) ?_
      obtain ⟨v7, g_v7, hj⟩ := Option.bind_eq_some_iff.mp hj
      obtain ⟨n_v7, e_v7⟩ := n32_eq g_v7
      refine lv_d2f hx hb dX2_product_13 n_v7 ?_
      rw [← e_v7]
      obtain ⟨v8, g_v8, hj⟩ := Option.bind_eq_some_iff.mp hj
      obtain ⟨n_v8, e_v8⟩ := n32_eq g_v8
      refine lv_fmul hx hb dX2_product_14 n_v8 ?_
      rw [← e_v8]
      obtain ⟨v9, g_v9, hj⟩ := Option.bind_eq_some_iff.mp hj
      obtain ⟨n_v9, e_v9⟩ := n64_eq g_v9
      refine lv_f2d hx hb dX2_product_15 n_v9 ?_
      rw [← e_v9]
      refine lv_goto (tgt := 22) hx hb dX2_product_16 (by decide) ?_
      exact J_22 v9 H locs ls hj hP hS (lv_sub hl [] rfl)
  exact hgo _ _ hP hS
set_option maxHeartbeats 4000000 in
set_option maxRecDepth 100000 in
theorem c_X2_ofOne (l : Launch) (X : hX) (g : Nat) (M : hm) (a0 : Nat) (a1 : Int32) (a2 : UInt64) (RR : UInt64) (hj : j_X2_ofOne g M a0 a1 a2 = some RR) : Ct l X yX2_ofOne cX2_ofOne 4 (some .double) { frames := 2, cells := 0, slots := 0, locals := 48 } [.ref a0, .int a1, .double a2] M (qD X (M, RR)) := by
  refine h_enter (own := RX2) (by decide) rfl (Nat.le_of_ble_eq_true rfl) ?_
  intro p e s m below meth c ls cx hr hlocks hnm hP hS hl
  have hx := cx.1
  have hb := cx.2.1
  have hl : lv_has ls 4 [(0, .ref a0), (1, .int a1), (2, .double a2)] := hl
  unfold j_X2_ofOne at hj
  have hgo : ∀ (H : Heap) (locs : List Loc), hp X M H → va_S (hA X) s.heap H locs → W p l e ({ frames := 2, cells := 0, slots := 0, locals := 48 } : Room) s m _ below meth c H locs 0 0 (MQ below (qD X (M, RR)) _ s 0 0 (hA X)) (F0 m 0 ls []) := by
    have J_102 : ∀ (s0 : UInt64) (H : Heap) (locs : List Loc) (ls : Array Slot), j_X2_ofOne_102 g M s0 = some RR → hp X M H → va_S (hA X) s.heap H locs → lv_has ls 4 [] → W p l e ({ frames := 2, cells := 0, slots := 0, locals := 48 } : Room) s m _ below meth c H locs 0 0 (MQ below (qD X (M, RR)) _ s 0 0 (hA X)) (F0 m 102 ls [.double s0]) := by
      intro s0 H locs ls hj hP hS hl
      unfold j_X2_ofOne_102 at hj
      exact t_D cx hr hlocks hP hS (congrArg (Prod.mk M) (Option.some.inj hj)) (Nat.le_of_ble_eq_true rfl) (Nat.le_of_ble_eq_true rfl) dX2_ofOne_102
    have J_61 : ∀ (s0 : UInt64) (H : Heap) (locs : List Loc) (ls : Array Slot), j_X2_ofOne_61 g M s0 = some RR → hp X M H → va_S (hA X) s.heap H locs → lv_has ls 4 [] → W p l e ({ frames := 2, cells := 0, slots := 0, locals := 48 } : Room) s m _ below meth c H locs 0 0 (MQ below (qD X (M, RR)) _ s 0 0 (hA X)) (F0 m 61 ls [.double s0]) := by
      intro s0 H locs ls hj hP hS hl
      unfold j_X2_ofOne_61 at hj
      exact t_D cx hr hlocks hP hS (congrArg (Prod.mk M) (Option.some.inj hj)) (Nat.le_of_ble_eq_true rfl) (Nat.le_of_ble_eq_true rfl) dX2_ofOne_61
    intro H locs hP hS
    refine lv_iload_n hx hb dX2_ofOne_0 rfl (lv_at hl 1 rfl) ?_
    by_cases c1 : a1 = (1 : Int32)
    · have hj := if_t c1 hj
      refine lv_tableIn (off := 47) (tgt := 48) hx hb dX2_ofOne_1 (by rw [c1]; decide) (by rw [c1]; decide) (by rw [c1]; decide) (by decide) ?_
      refine lv_dload_n hx hb dX2_ofOne_48 rfl (lv_at hl 2 rfl) ?_
      obtain ⟨v9, g_v9, hj⟩ := Option.bind_eq_some_iff.mp hj
      refine f_I (k_N (As := [.double a2]) (n := 1) (rest := []) cx hl.1 hP hS (c_X5_hasMinus l X g M a2 v9 g_v9) mC_X5_hasMinus cx.2.2.2.2.2.1.2.1.1 mT_X5_hasMinus mZ_X5 (by decide +kernel) ⟨Nat.le_of_ble_eq_true rfl, Nat.le_of_ble_eq_true rfl⟩ rfl rfl (Nat.le_of_ble_eq_true rfl) dX2_ofOne_49 ⟨Nat.le_of_ble_eq_true rfl, Nat.le_of_ble_eq_true rfl⟩) hS (fun H locs hP hS => ?_)
      have hP : hp X M H := hP
      refine W.eq (g2 := F0 m 52 ls [.int v9]) rfl ?_
      refine W.widen (k := 0) (n := 0) (Nat.le_of_ble_eq_true rfl) (Nat.le_of_ble_eq_true rfl) ?_
      refine lv_if_eq (tgt := 60) hx hb dX2_ofOne_52 (by decide) (fun c10 => ?_) (fun c10 => ?_)
      · have hj := if_t c10 hj
        refine lv_dload_n hx hb dX2_ofOne_60 rfl (lv_at hl 2 rfl) ?_
        exact J_61 a2 H locs ls hj hP hS (lv_sub hl [] rfl)
      · have hj := if_f c10 hj
        refine lv_dload_n hx hb dX2_ofOne_55 rfl (lv_at hl 2 rfl) ?_
        refine lv_dneg hx hb dX2_ofOne_56 ?_
        refine lv_goto (tgt := 61) hx hb dX2_ofOne_57 (by decide) ?_
        exact J_61 (FP.dneg a2) H locs ls hj hP hS (lv_sub hl [] rfl)
    have hj := if_f c1 hj
    by_cases c2 : a1 = (2 : Int32)
    · have hj := if_t c2 hj
      refine lv_tableIn (off := 61) (tgt := 62) hx hb dX2_ofOne_1 (by rw [c2]; decide) (by rw [c2]; decide) (by rw [c2]; decide) (by decide) ?_
      refine lv_dload_n hx hb dX2_ofOne_62 rfl (lv_at hl 2 rfl) ?_
      obtain ⟨v11, g_v11, hj⟩ := Option.bind_eq_some_iff.mp hj
      refine f_D (k_S (As := [.double a2]) (n := 1) (rest := []) cx hl.1 hP hS (c_X2_floor l X g M a2 v11 g_v11) mC_X2_floor mM_X2_137 mT_X2_floor mZ_X2 (by decide +kernel) ⟨Nat.le_of_ble_eq_true rfl, Nat.le_of_ble_eq_true rfl⟩ rfl rfl (Nat.le_of_ble_eq_true rfl) dX2_ofOne_63 ⟨Nat.le_of_ble_eq_true rfl, Nat.le_of_ble_eq_true rfl⟩) hS (fun H locs hP hS => ?_)
      have hP : hp X M H := hP
      refine W.eq (g2 := F0 m 66 ls [.double v11]) rfl ?_
      refine W.widen (k := 0) (n := 0) (Nat.le_of_ble_eq_true rfl) (Nat.le_of_ble_eq_true rfl) ?_
      exact t_D cx hr hlocks hP hS (congrArg (Prod.mk M) (Option.some.inj hj)) (Nat.le_of_ble_eq_true rfl) (Nat.le_of_ble_eq_true rfl) dX2_ofOne_66
    have hj := if_f c2 hj
    by_cases c3 : a1 = (3 : Int32)
    · have hj := if_t c3 hj
      refine lv_tableIn (off := 66) (tgt := 67) hx hb dX2_ofOne_1 (by rw [c3]; decide) (by rw [c3]; decide) (by rw [c3]; decide) (by decide) ?_
      refine lv_dload_n hx hb dX2_ofOne_67 rfl (lv_at hl 2 rfl) ?_
      refine lv_dneg hx hb dX2_ofOne_68 ?_
      obtain ⟨v12, g_v12, hj⟩ := Option.bind_eq_some_iff.mp hj
      refine f_D (k_S (As := [.double (FP.dneg a2)]) (n := 1) (rest := []) cx hl.1 hP hS (c_X2_floor l X g M (FP.dneg a2) v12 g_v12) mC_X2_floor mM_X2_137 mT_X2_floor mZ_X2 (by decide +kernel) ⟨Nat.le_of_ble_eq_true rfl, Nat.le_of_ble_eq_true rfl⟩ rfl rfl (Nat.le_of_ble_eq_true rfl) dX2_ofOne_69 ⟨Nat.le_of_ble_eq_true rfl, Nat.le_of_ble_eq_true rfl⟩) hS (fun H locs hP hS => ?_)
      have hP : hp X M H := hP
      refine W.eq (g2 := F0 m 72 ls [.double v12]) rfl ?_
      refine W.widen (k := 0) (n := 0) (Nat.le_of_ble_eq_true rfl) (Nat.le_of_ble_eq_true rfl) ?_
      refine lv_dneg hx hb dX2_ofOne_72 ?_
      exact t_D cx hr hlocks hP hS (congrArg (Prod.mk M) (Option.some.inj hj)) (Nat.le_of_ble_eq_true rfl) (Nat.le_of_ble_eq_true rfl) dX2_ofOne_73
    have hj := if_f c3 hj
    by_cases c4 : a1 = (4 : Int32)
    · have hj := if_t c4 hj
      refine lv_tableIn (off := 73) (tgt := 74) hx hb dX2_ofOne_1 (by rw [c4]; decide) (by rw [c4]; decide) (by rw [c4]; decide) (by decide) ?_
      refine lv_dload_n hx hb dX2_ofOne_74 rfl (lv_at hl 2 rfl) ?_
      obtain ⟨v13, g_v13, hj⟩ := Option.bind_eq_some_iff.mp hj
      refine f_D (k_S (As := [.double a2]) (n := 1) (rest := []) cx hl.1 hP hS (c_X2_nearest l X g M a2 v13 g_v13) mC_X2_nearest mM_X2_141 mT_X2_nearest mZ_X2 (by decide +kernel) ⟨Nat.le_of_ble_eq_true rfl, Nat.le_of_ble_eq_true rfl⟩ rfl rfl (Nat.le_of_ble_eq_true rfl) dX2_ofOne_75 ⟨Nat.le_of_ble_eq_true rfl, Nat.le_of_ble_eq_true rfl⟩) hS (fun H locs hP hS => ?_)
      have hP : hp X M H := hP
      refine W.eq (g2 := F0 m 78 ls [.double v13]) rfl ?_
      refine W.widen (k := 0) (n := 0) (Nat.le_of_ble_eq_true rfl) (Nat.le_of_ble_eq_true rfl) ?_
      exact t_D cx hr hlocks hP hS (congrArg (Prod.mk M) (Option.some.inj hj)) (Nat.le_of_ble_eq_true rfl) (Nat.le_of_ble_eq_true rfl) dX2_ofOne_78
    have hj := if_f c4 hj
    by_cases c5 : a1 = (5 : Int32)
    · have hj := if_t c5 hj
      refine lv_tableIn (off := 78) (tgt := 79) hx hb dX2_ofOne_1 (by rw [c5]; decide) (by rw [c5]; decide) (by rw [c5]; decide) (by decide) ?_
      refine lv_dload_n hx hb dX2_ofOne_79 rfl (lv_at hl 2 rfl) ?_
      refine lv_dconst0 hx hb dX2_ofOne_80 ?_
      refine lv_dcmp hx hb dX2_ofOne_81 ?_
      refine lv_if_le (tgt := 89) hx hb dX2_ofOne_82 (by decide) (fun c14 => ?_) (fun c14 => ?_)
      · have hj := if_t c14 hj
        refine lv_dload_n hx hb dX2_ofOne_89 rfl (lv_at hl 2 rfl) ?_
        refine lv_dconst0 hx hb dX2_ofOne_90 ?_
        refine lv_dcmp hx hb dX2_ofOne_91 ?_
        refine lv_if_ge (tgt := 101) hx hb dX2_ofOne_92 (by decide) (fun c15 => ?_) (fun c15 => ?_)
        · have hj := if_t c15 hj
          refine lv_dload_n hx hb dX2_ofOne_101 rfl (lv_at hl 2 rfl) ?_
          exact J_102 a2 H locs ls hj hP hS (lv_sub hl [] rfl)
        · have hj := if_f c15 hj
          refine lv_ldc2d hx hb cx.2.2.2.1 (cx.2.2.2.2.1 _ mK_X2_144) dX2_ofOne_95 ?_
          refine lv_goto (tgt := 102) hx hb dX2_ofOne_98 (by decide) ?_
          exact J_102 (13830554455654793216 : UInt64) H locs ls hj hP hS (lv_sub hl [] rfl)
      · have hj := if_f c14 hj
        refine lv_dconst1 hx hb dX2_ofOne_85 ?_
        refine lv_goto (tgt := 102) hx hb dX2_ofOne_86 (by decide) ?_
        exact J_102 FP.dconst1 H locs ls hj hP hS (lv_sub hl [] rfl)
    have hj := if_f c5 hj
    by_cases c6 : a1 = (6 : Int32)
    · have hj := if_t c6 hj
      refine lv_tableIn (off := 102) (tgt := 103) hx hb dX2_ofOne_1 (by rw [c6]; decide) (by rw [c6]; decide) (by rw [c6]; decide) (by decide) ?_
      refine lv_aload_n hx hb dX2_ofOne_103 rfl (lv_at hl 0 rfl) ?_
      refine lv_dload_n hx hb dX2_ofOne_104 rfl (lv_at hl 2 rfl) ?_
      refine lv_ldc2d hx hb cx.2.2.2.1 (cx.2.2.2.2.1 _ mK_X2_146) dX2_ofOne_105 ?_
      obtain ⟨_, o16, hj⟩ := Option.bind_eq_some_iff.mp hj
      obtain ⟨v17, g_v17, hj⟩ := Option.bind_eq_some_iff.mp hj
      refine f_D (k_V (b := a0) (As := [.double a2, .double (4611686018427387904 : UInt64)]) (n := 2) (rest := []) cx hl.1 hP hS (c_X2_quotient l X g M a0 a2 (4611686018427387904 : UInt64) v17 g_v17) o16 rfl mC_X2_quotient mM_X2_148 mI_X2_quotient mS_X2_quotient mZ_X2 (by decide +kernel) ⟨Nat.le_of_ble_eq_true rfl, Nat.le_of_ble_eq_true rfl⟩ rfl rfl (Nat.le_of_ble_eq_true rfl) dX2_ofOne_108 ⟨Nat.le_of_ble_eq_true rfl, Nat.le_of_ble_eq_true rfl⟩) hS (fun H locs hP hS => ?_)
      have hP : hp X M H := hP
      refine W.eq (g2 := F0 m 111 ls [.double v17]) rfl ?_
      refine W.widen (k := 0) (n := 0) (Nat.le_of_ble_eq_true rfl) (Nat.le_of_ble_eq_true rfl) ?_
      exact t_D cx hr hlocks hP hS (congrArg (Prod.mk M) (Option.some.inj hj)) (Nat.le_of_ble_eq_true rfl) (Nat.le_of_ble_eq_true rfl) dX2_ofOne_111
    have hj := if_f c6 hj
    by_cases c7 : a1 = (7 : Int32)
    · have hj := if_t c7 hj
      refine lv_tableIn (off := 111) (tgt := 112) hx hb dX2_ofOne_1 (by rw [c7]; decide) (by rw [c7]; decide) (by rw [c7]; decide) (by decide) ?_
      refine lv_aload_n hx hb dX2_ofOne_112 rfl (lv_at hl 0 rfl) ?_
      refine lv_dload_n hx hb dX2_ofOne_113 rfl (lv_at hl 2 rfl) ?_
      refine lv_ldc2d hx hb cx.2.2.2.1 (cx.2.2.2.2.1 _ mK_X2_146) dX2_ofOne_114 ?_
      obtain ⟨_, o18, hj⟩ := Option.bind_eq_some_iff.mp hj
      obtain ⟨v19, g_v19, hj⟩ := Option.bind_eq_some_iff.mp hj
      refine f_D (k_V (b := a0) (As := [.double a2, .double (4611686018427387904 : UInt64)]) (n := 2) (rest := []) cx hl.1 hP hS (c_X2_product l X g M a0 a2 (4611686018427387904 : UInt64) v19 g_v19) o18 rfl mC_X2_product mM_X2_151 mI_X2_product mS_X2_product mZ_X2 (by decide +kernel) ⟨Nat.le_of_ble_eq_true rfl, Nat.le_of_ble_eq_true rfl⟩ rfl rfl (Nat.le_of_ble_eq_true rfl) dX2_ofOne_117 ⟨Nat.le_of_ble_eq_true rfl, Nat.le_of_ble_eq_true rfl⟩) hS (fun H locs hP hS => ?_)
      have hP : hp X M H := hP
      refine W.eq (g2 := F0 m 120 ls [.double v19]) rfl ?_
      refine W.widen (k := 0) (n := 0) (Nat.le_of_ble_eq_true rfl) (Nat.le_of_ble_eq_true rfl) ?_
      exact t_D cx hr hlocks hP hS (congrArg (Prod.mk M) (Option.some.inj hj)) (Nat.le_of_ble_eq_true rfl) (Nat.le_of_ble_eq_true rfl) dX2_ofOne_120
    have hj := if_f c7 hj
    by_cases c8 : a1 = (8 : Int32)
    · have hj := if_t c8 hj
      refine lv_tableIn (off := 120) (tgt := 121) hx hb dX2_ofOne_1 (by rw [c8]; decide) (by rw [c8]; decide) (by rw [c8]; decide) (by decide) ?_
      refine lv_dload_n hx hb dX2_ofOne_121 rfl (lv_at hl 2 rfl) ?_
      refine lv_dneg hx hb dX2_ofOne_122 ?_
      exact t_D cx hr hlocks hP hS (congrArg (Prod.mk M) (Option.some.inj hj)) (Nat.le_of_ble_eq_true rfl) (Nat.le_of_ble_eq_true rfl) dX2_ofOne_123
    have hj := if_f c8 hj
    have sw : a1.toInt < 1 ∨ 8 < a1.toInt := by
      rcases Int.lt_or_ge a1.toInt 1 with q | q
      · exact Or.inl q
      have q := sw_step q (sw_ne c1 (by decide))
      have q := sw_step q (sw_ne c2 (by decide))
      have q := sw_step q (sw_ne c3 (by decide))
      have q := sw_step q (sw_ne c4 (by decide))
      have q := sw_step q (sw_ne c5 (by decide))
      have q := sw_step q (sw_ne c6 (by decide))
      have q := sw_step q (sw_ne c7 (by decide))
      have q := sw_step q (sw_ne c8 (by decide))
      exact Or.inr (by omega)
    refine lv_tableOut (tgt := 124) hx hb dX2_ofOne_1 sw (by decide) ?_
    refine lv_dload_n hx hb dX2_ofOne_124 rfl (lv_at hl 2 rfl) ?_
    exact t_D cx hr hlocks hP hS (congrArg (Prod.mk M) (Option.some.inj hj)) (Nat.le_of_ble_eq_true rfl) (Nat.le_of_ble_eq_true rfl) dX2_ofOne_125
  exact hgo _ _ hP hS
set_option maxHeartbeats 4000000 in
set_option maxRecDepth 100000 in
theorem c_X2_sum (l : Launch) (X : hX) (g : Nat) (M : hm) (a0 : Nat) (a1 : UInt64) (a3 : UInt64) (RR : UInt64) (hj : j_X2_sum g M a0 a1 a3 = some RR) : Ct l X yX2_sum cX2_sum 5 (some .double) { frames := 0, cells := 0, slots := 0, locals := 0 } [.ref a0, .double a1, .double a3] M (qD X (M, RR)) := by
  refine h_enter (own := RX2) (by decide) rfl (Nat.le_of_ble_eq_true rfl) ?_
  intro p e s m below meth c ls cx hr hlocks hnm hP hS hl
  have hx := cx.1
  have hb := cx.2.1
  have hl : lv_has ls 5 [(0, .ref a0), (1, .double a1), (3, .double a3)] := hl
  unfold j_X2_sum at hj
  have hgo : ∀ (H : Heap) (locs : List Loc), hp X M H → va_S (hA X) s.heap H locs → W p l e ({ frames := 0, cells := 0, slots := 0, locals := 0 } : Room) s m _ below meth c H locs 0 0 (MQ below (qD X (M, RR)) _ s 0 0 (hA X)) (F0 m 0 ls []) := by
    have J_22 : ∀ (s0 : UInt64) (H : Heap) (locs : List Loc) (ls : Array Slot), j_X2_sum_22 g M s0 = some RR → hp X M H → va_S (hA X) s.heap H locs → lv_has ls 5 [] → W p l e ({ frames := 0, cells := 0, slots := 0, locals := 0 } : Room) s m _ below meth c H locs 0 0 (MQ below (qD X (M, RR)) _ s 0 0 (hA X)) (F0 m 22 ls [.double s0]) := by
      intro s0 H locs ls hj hP hS hl
      unfold j_X2_sum_22 at hj
      exact t_D cx hr hlocks hP hS (congrArg (Prod.mk M) (Option.some.inj hj)) (Nat.le_of_ble_eq_true rfl) (Nat.le_of_ble_eq_true rfl) dX2_sum_22
    intro H locs hP hS
    refine lv_aload_n hx hb dX2_sum_0 rfl (lv_at hl 0 rfl) ?_
    obtain ⟨v1, g_v1, hj⟩ := Option.bind_eq_some_iff.mp hj
    refine r_getR cx hP g_v1 iX2 rfl (by decide) mF_X2_21 dX2_sum_1 ?_
    obtain ⟨b2, e_b2, hj⟩ := Option.bind_eq_some_iff.mp hj
    subst e_b2
    obtain ⟨v3, g_v3, hj⟩ := Option.bind_eq_some_iff.mp hj
    refine r_getI cx hP g_v3 iX3 rfl (by decide) mF_X2_36 dX2_sum_4 ?_
    refine lv_if_eq (tgt := 19) hx hb dX2_sum_7 (by decide) (fun c4 => ?_) (fun c4 => ?_)
    · have hj := if_t c4 hj
      refine lv_dload_n hx hb dX2_sum_19 rfl (lv_at hl 1 rfl) ?_
      refine lv_dload_n hx hb dX2_sum_20 rfl (lv_at hl 2 rfl) ?_
      obtain ⟨v5, g_v5, hj⟩ := Option.bind_eq_some_iff.mp hj
      obtain ⟨n_v5, e_v5⟩ := n64_eq g_v5
      refine lv_dadd hx hb dX2_sum_21 n_v5 ?_
      rw [← e_v5]
      exact J_22 v5 H locs ls hj hP hS (lv_sub hl [] rfl)
    · have hj := if_f c4 hj
      refine lv_dload_n hx hb dX2_sum_10 rfl (lv_at hl 1 rfl) ?_
      obtain ⟨v6, g_v6, hj⟩ := Option.bind_eq_some_iff.mp hj
      obtain ⟨n_v6, e_v6⟩ := n32_eq g_v6
      refine lv_d2f hx hb dX2_sum_11 n_v6 ?_
      rw [← e_v6]
      refine lv_dload_n hx hb dX2_sum_12 rfl (lv_at hl 2 rfl) ?_
      obtain ⟨v7, g_v7, hj⟩ := Option.bind_eq_some_iff.mp hj
      obtain ⟨n_v7, e_v7⟩ := n32_eq g_v7
      refine lv_d2f hx hb dX2_sum_13 n_v7 ?_
      rw [← e_v7]
      obtain ⟨v8, g_v8, hj⟩ := Option.bind_eq_some_iff.mp hj
      obtain ⟨n_v8, e_v8⟩ := n32_eq g_v8
      refine lv_fadd hx hb dX2_sum_14 n_v8 ?_
      rw [← e_v8]
      obtain ⟨v9, g_v9, hj⟩ := Option.bind_eq_some_iff.mp hj
      obtain ⟨n_v9, e_v9⟩ := n64_eq g_v9
      refine lv_f2d hx hb dX2_sum_15 n_v9 ?_
      rw [← e_v9]
      refine lv_goto (tgt := 22) hx hb dX2_sum_16 (by decide) ?_
      exact J_22 v9 H locs ls hj hP hS (lv_sub hl [] rfl)
  exact hgo _ _ hP hS
set_option maxHeartbeats 4000000 in
set_option maxRecDepth 100000 in
theorem c_X4_unit (l : Launch) (X : hX) (g : Nat) (M : hm) (a0 : Nat) (a1 : UInt64) (a3 : Int32) (RR : Int32) (hj : j_X4_unit g M a0 a1 a3 = some RR) : Ct l X yX4_unit cX4_unit 10 (some .int) { frames := 0, cells := 0, slots := 0, locals := 0 } [.ref a0, .double a1, .int a3] M (qI X (M, RR)) := by
  refine h_enter (own := RX4) (by decide) rfl (Nat.le_of_ble_eq_true rfl) ?_
  intro p e s m below meth c ls cx hr hlocks hnm hP hS hl
  have hx := cx.1
  have hb := cx.2.1
  have hl : lv_has ls 10 [(0, .ref a0), (1, .double a1), (3, .int a3)] := hl
  unfold j_X4_unit at hj
  have hgo : ∀ (H : Heap) (locs : List Loc), hp X M H → va_S (hA X) s.heap H locs → W p l e ({ frames := 0, cells := 0, slots := 0, locals := 0 } : Room) s m _ below meth c H locs 0 0 (MQ below (qI X (M, RR)) _ s 0 0 (hA X)) (F0 m 0 ls []) := by
    have J_174 : ∀ (s0 : Int32) (H : Heap) (locs : List Loc) (ls : Array Slot), j_X4_unit_174 g M s0 = some RR → hp X M H → va_S (hA X) s.heap H locs → lv_has ls 10 [] → W p l e ({ frames := 0, cells := 0, slots := 0, locals := 0 } : Room) s m _ below meth c H locs 0 0 (MQ below (qI X (M, RR)) _ s 0 0 (hA X)) (F0 m 174 ls [.int s0]) := by
      intro s0 H locs ls hj hP hS hl
      unfold j_X4_unit_174 at hj
      exact t_I cx hr hlocks hP hS (congrArg (Prod.mk M) (Option.some.inj hj)) (Nat.le_of_ble_eq_true rfl) (Nat.le_of_ble_eq_true rfl) dX4_unit_174
    have J_154 : ∀ (p4 : Int32) (p5 : Int32) (p8 : Int32) (H : Heap) (locs : List Loc) (ls : Array Slot), j_X4_unit_154 g M p4 p5 p8 = some RR → hp X M H → va_S (hA X) s.heap H locs → lv_has ls 10 [(4, .int p4), (5, .int p5), (8, .int p8)] → W p l e ({ frames := 0, cells := 0, slots := 0, locals := 0 } : Room) s m _ below meth c H locs 0 0 (MQ below (qI X (M, RR)) _ s 0 0 (hA X)) (F0 m 154 ls []) := by
      intro p4 p5 p8 H locs ls hj hP hS hl
      unfold j_X4_unit_154 at hj
      refine lv_iload hx hb dX4_unit_154 (lv_at hl 2 rfl) ?_
      refine lv_iload hx hb dX4_unit_156 (lv_at hl 0 rfl) ?_
      refine lv_isub hx hb dX4_unit_158 ?_
      refine lv_iload hx hb dX4_unit_159 (lv_at hl 1 rfl) ?_
      refine lv_icmp_ge (tgt := 169) hx hb dX4_unit_161 (by decide) (fun c1 => ?_) (fun c1 => ?_)
      · have hj := if_t c1 hj
        refine lv_iload hx hb dX4_unit_169 (lv_at hl 2 rfl) ?_
        refine lv_iload hx hb dX4_unit_171 (lv_at hl 0 rfl) ?_
        refine lv_isub hx hb dX4_unit_173 ?_
        exact J_174 (p8 - p4) H locs ls hj hP hS (lv_sub hl [] rfl)
      · have hj := if_f c1 hj
        refine lv_iload hx hb dX4_unit_164 (lv_at hl 1 rfl) ?_
        refine lv_goto (tgt := 174) hx hb dX4_unit_166 (by decide) ?_
        exact J_174 p5 H locs ls hj hP hS (lv_sub hl [] rfl)
    have L_68 : ∀ (n68 : Nat) (p0 : Nat) (p4 : Int32) (p5 : Int32) (p6 : UInt64) (p8 : Int32) (p9 : Int32) (H : Heap) (locs : List Loc) (ls : Array Slot), j_X4_unit_68 g M n68 p0 p4 p5 p6 p8 p9 = some RR → hp X M H → va_S (hA X) s.heap H locs → lv_has ls 10 [(0, .ref p0), (4, .int p4), (5, .int p5), (6, .double p6), (8, .int p8), (9, .int p9)] → W p l e ({ frames := 0, cells := 0, slots := 0, locals := 0 } : Room) s m _ below meth c H locs 0 0 (MQ below (qI X (M, RR)) _ s 0 0 (hA X)) (F0 m 68 ls []) := by
      intro n68
      induction n68 with
      | zero =>
        intro p0 p4 p5 p6 p8 p9 H locs ls hj
        exact no_zero hj
      | succ n68 ih_68 =>
        have J_148 : ∀ (p0 : Nat) (p4 : Int32) (p5 : Int32) (p6 : UInt64) (p8 : Int32) (p9 : Int32) (H : Heap) (locs : List Loc) (ls : Array Slot), j_X4_unit_148 g (fun p0 p4 p5 p6 p8 p9 => j_X4_unit_68 g M n68 p0 p4 p5 p6 p8 p9) M p0 p4 p5 p6 p8 p9 = some RR → hp X M H → va_S (hA X) s.heap H locs → lv_has ls 10 [(0, .ref p0), (4, .int p4), (5, .int p5), (6, .double p6), (8, .int p8), (9, .int p9)] → W p l e ({ frames := 0, cells := 0, slots := 0, locals := 0 } : Room) s m _ below meth c H locs 0 0 (MQ below (qI X (M, RR)) _ s 0 0 (hA X)) (F0 m 148 ls []) := by
          intro p0 p4 p5 p6 p8 p9 H locs ls hj hP hS hl
          unfold j_X4_unit_148 at hj
          refine lv_iinc (v := (p9 + (-1 : Int32))) (lv' := [(9, .int (p9 + (-1 : Int32))), (0, .ref p0), (4, .int p4), (5, .int p5), (6, .double p6), (8, .int p8)]) hx hb dX4_unit_148 hl (k := 5) rfl rfl (by decide) rfl (fun ls hl => ?_)
          refine lv_goto (tgt := 68) hx hb dX4_unit_151 (by decide) ?_
          exact ih_68 p0 p4 p5 p6 p8 (p9 + (-1 : Int32)) H locs ls hj hP hS (lv_sub hl [1, 2, 3, 4, 5, 0] rfl)
        intro p0 p4 p5 p6 p8 p9 H locs ls hj hP hS hl
        rw [j_X4_unit_68_s] at hj
        refine lv_iload hx hb dX4_unit_68 (lv_at hl 5 rfl) ?_
        refine lv_if_lt (tgt := 154) hx hb dX4_unit_70 (by decide) (fun c2 => ?_) (fun c2 => ?_)
        · have hj := if_t c2 hj
          exact J_154 p4 p5 p8 H locs ls hj hP hS (lv_sub hl [1, 2, 4] rfl)
        · have hj := if_f c2 hj
          refine lv_dload hx hb dX4_unit_73 (lv_at hl 3 rfl) ?_
          refine lv_aload_n hx hb dX4_unit_75 rfl (lv_at hl 0 rfl) ?_
          obtain ⟨v3, g_v3, hj⟩ := Option.bind_eq_some_iff.mp hj
          refine r_getR cx hP g_v3 iX4 rfl (by decide) mF_X4_9 dX4_unit_76 ?_
          refine lv_iload hx hb dX4_unit_79 (lv_at hl 5 rfl) ?_
          obtain ⟨b4, e_b4, hj⟩ := Option.bind_eq_some_iff.mp hj
          subst e_b4
          obtain ⟨v5, g_v5, hj⟩ := Option.bind_eq_some_iff.mp hj
          refine r_aldD cx hP g_v5 dX4_unit_81 ?_
          refine lv_dcmp hx hb dX4_unit_82 ?_
          refine lv_if_lt (tgt := 110) hx hb dX4_unit_83 (by decide) (fun c6 => ?_) (fun c6 => ?_)
          · have hj := if_t c6 hj
            refine lv_dload hx hb dX4_unit_110 (lv_at hl 3 rfl) ?_
            refine lv_aload_n hx hb dX4_unit_112 rfl (lv_at hl 0 rfl) ?_
            obtain ⟨v7, g_v7, hj⟩ := Option.bind_eq_some_iff.mp hj
            refine r_getR cx hP g_v7 iX4 rfl (by decide) mF_X4_9 dX4_unit_113 ?_
            refine lv_iload hx hb dX4_unit_116 (lv_at hl 5 rfl) ?_
            obtain ⟨b8, e_b8, hj⟩ := Option.bind_eq_some_iff.mp hj
            subst e_b8
            obtain ⟨v9, g_v9, hj⟩ := Option.bind_eq_some_iff.mp hj
            refine r_aldD cx hP g_v9 dX4_unit_118 ?_
            obtain ⟨v10, g_v10, hj⟩ := Option.bind_eq_some_iff.mp hj
            obtain ⟨n_v10, e_v10⟩ := n64_eq g_v10
            refine lv_dmul hx hb dX4_unit_119 n_v10 ?_
            rw [← e_v10]
            refine lv_ldc2d hx hb cx.2.2.2.1 (cx.2.2.2.2.1 _ mK_X4_16) dX4_unit_120 ?_
            refine lv_dcmp hx hb dX4_unit_123 ?_
            refine lv_if_ge (tgt := 148) hx hb dX4_unit_124 (by decide) (fun c11 => ?_) (fun c11 => ?_)
            · have hj := if_t c11 hj
              exact J_148 p0 p4 p5 p6 p8 p9 H locs ls hj hP hS (lv_sub hl [0, 1, 2, 3, 4, 5] rfl)
            · have hj := if_f c11 hj
              refine lv_dload hx hb dX4_unit_127 (lv_at hl 3 rfl) ?_
              refine lv_aload_n hx hb dX4_unit_129 rfl (lv_at hl 0 rfl) ?_
              obtain ⟨v12, g_v12, hj⟩ := Option.bind_eq_some_iff.mp hj
              refine r_getR cx hP g_v12 iX4 rfl (by decide) mF_X4_9 dX4_unit_130 ?_
              refine lv_iload hx hb dX4_unit_133 (lv_at hl 5 rfl) ?_
              obtain ⟨b13, e_b13, hj⟩ := Option.bind_eq_some_iff.mp hj
              subst e_b13
              obtain ⟨v14, g_v14, hj⟩ := Option.bind_eq_some_iff.mp hj
              refine r_aldD cx hP g_v14 dX4_unit_135 ?_
              obtain ⟨v15, g_v15, hj⟩ := Option.bind_eq_some_iff.mp hj
              obtain ⟨n_v15, e_v15⟩ := n64_eq g_v15
              refine lv_dmul hx hb dX4_unit_136 n_v15 ?_
              rw [← e_v15]
              refine lv_dstore (lv' := [(6, .double v15), (0, .ref p0), (4, .int p4), (5, .int p5), (8, .int p8), (9, .int p9)]) hx hb dX4_unit_137 hl (by decide) rfl (fun ls hl => ?_)
              refine lv_iload hx hb dX4_unit_139 (lv_at hl 4 rfl) ?_
              refine lv_iconst (v := 1) hx hb dX4_unit_141 (by decide) ?_
              refine lv_iload hx hb dX4_unit_142 (lv_at hl 5 rfl) ?_
              refine lv_ishl hx hb dX4_unit_144 ?_
              refine lv_isub hx hb dX4_unit_145 ?_
              refine lv_istore (lv' := [(8, .int (p8 - ((1 : Int32) <<< (p9 &&& 31)))), (6, .double v15), (0, .ref p0), (4, .int p4), (5, .int p5), (9, .int p9)]) hx hb dX4_unit_146 hl (by decide) rfl (fun ls hl => ?_)
              exact J_148 p0 p4 p5 v15 (p8 - ((1 : Int32) <<< (p9 &&& 31))) p9 H locs ls hj hP hS (lv_sub hl [2, 3, 4, 1, 0, 5] rfl)
          · have hj := if_f c6 hj
            refine lv_dload hx hb dX4_unit_86 (lv_at hl 3 rfl) ?_
            refine lv_aload_n hx hb dX4_unit_88 rfl (lv_at hl 0 rfl) ?_
            obtain ⟨v16, g_v16, hj⟩ := Option.bind_eq_some_iff.mp hj
            refine r_getR cx hP g_v16 iX4 rfl (by decide) mF_X4_13 dX4_unit_89 ?_
            refine lv_iload hx hb dX4_unit_92 (lv_at hl 5 rfl) ?_
            obtain ⟨b17, e_b17, hj⟩ := Option.bind_eq_some_iff.mp hj
            subst e_b17
            obtain ⟨v18, g_v18, hj⟩ := Option.bind_eq_some_iff.mp hj
            refine r_aldD cx hP g_v18 dX4_unit_94 ?_
            obtain ⟨v19, g_v19, hj⟩ := Option.bind_eq_some_iff.mp hj
            obtain ⟨n_v19, e_v19⟩ := n64_eq g_v19
            refine lv_dmul hx hb dX4_unit_95 n_v19 ?_
            rw [← e_v19]
            refine lv_dstore (lv' := [(6, .double v19), (0, .ref p0), (4, .int p4), (5, .int p5), (8, .int p8), (9, .int p9)]) hx hb dX4_unit_96 hl (by decide) rfl (fun ls hl => ?_)
            refine lv_iload hx hb dX4_unit_98 (lv_at hl 4 rfl) ?_
            refine lv_iconst (v := 1) hx hb dX4_unit_100 (by decide) ?_
            refine lv_iload hx hb dX4_unit_101 (lv_at hl 5 rfl) ?_
            refine lv_ishl hx hb dX4_unit_103 ?_
            refine lv_iadd hx hb dX4_unit_104 ?_
            refine lv_istore (lv' := [(8, .int (p8 + ((1 : Int32) <<< (p9 &&& 31)))), (6, .double v19), (0, .ref p0), (4, .int p4), (5, .int p5), (9, .int p9)]) hx hb dX4_unit_105 hl (by decide) rfl (fun ls hl => ?_)
            refine lv_goto (tgt := 148) hx hb dX4_unit_107 (by decide) ?_
            exact J_148 p0 p4 p5 v19 (p8 + ((1 : Int32) <<< (p9 &&& 31))) p9 H locs ls hj hP hS (lv_sub hl [2, 3, 4, 1, 0, 5] rfl)
    have J_64 : ∀ (p0 : Nat) (p4 : Int32) (p5 : Int32) (p6 : UInt64) (p8 : Int32) (H : Heap) (locs : List Loc) (ls : Array Slot), j_X4_unit_64 g M p0 p4 p5 p6 p8 = some RR → hp X M H → va_S (hA X) s.heap H locs → lv_has ls 10 [(0, .ref p0), (4, .int p4), (5, .int p5), (6, .double p6), (8, .int p8)] → W p l e ({ frames := 0, cells := 0, slots := 0, locals := 0 } : Room) s m _ below meth c H locs 0 0 (MQ below (qI X (M, RR)) _ s 0 0 (hA X)) (F0 m 64 ls []) := by
      intro p0 p4 p5 p6 p8 H locs ls hj hP hS hl
      unfold j_X4_unit_64 at hj
      refine lv_bipush (v := 9) hx hb dX4_unit_64 (by decide) ?_
      refine lv_istore (lv' := [(9, .int (9 : Int32)), (0, .ref p0), (4, .int p4), (5, .int p5), (6, .double p6), (8, .int p8)]) hx hb dX4_unit_66 hl (by decide) rfl (fun ls hl => ?_)
      exact L_68 g p0 p4 p5 p6 p8 (9 : Int32) H locs ls hj hP hS (lv_sub hl [1, 2, 3, 4, 5, 0] rfl)
    have J_26 : ∀ (p0 : Nat) (p1 : UInt64) (p4 : Int32) (s0 : Int32) (H : Heap) (locs : List Loc) (ls : Array Slot), j_X4_unit_26 g M p0 p1 p4 s0 = some RR → hp X M H → va_S (hA X) s.heap H locs → lv_has ls 10 [(0, .ref p0), (1, .double p1), (4, .int p4)] → W p l e ({ frames := 0, cells := 0, slots := 0, locals := 0 } : Room) s m _ below meth c H locs 0 0 (MQ below (qI X (M, RR)) _ s 0 0 (hA X)) (F0 m 26 ls [.int s0]) := by
      intro p0 p1 p4 s0 H locs ls hj hP hS hl
      unfold j_X4_unit_26 at hj
      refine lv_istore (lv' := [(5, .int s0), (0, .ref p0), (1, .double p1), (4, .int p4)]) hx hb dX4_unit_26 hl (by decide) rfl (fun ls hl => ?_)
      refine lv_dload_n hx hb dX4_unit_28 rfl (lv_at hl 2 rfl) ?_
      refine lv_dstore (lv' := [(6, .double p1), (5, .int s0), (0, .ref p0), (1, .double p1), (4, .int p4)]) hx hb dX4_unit_29 hl (by decide) rfl (fun ls hl => ?_)
      refine lv_iconst (v := 0) hx hb dX4_unit_31 (by decide) ?_
      refine lv_istore (lv' := [(8, .int (0 : Int32)), (6, .double p1), (5, .int s0), (0, .ref p0), (1, .double p1), (4, .int p4)]) hx hb dX4_unit_32 hl (by decide) rfl (fun ls hl => ?_)
      refine lv_dload hx hb dX4_unit_34 (lv_at hl 1 rfl) ?_
      refine lv_aload_n hx hb dX4_unit_36 rfl (lv_at hl 3 rfl) ?_
      obtain ⟨v20, g_v20, hj⟩ := Option.bind_eq_some_iff.mp hj
      refine r_getR cx hP g_v20 iX4 rfl (by decide) mF_X4_13 dX4_unit_37 ?_
      refine lv_bipush (v := 9) hx hb dX4_unit_40 (by decide) ?_
      obtain ⟨b21, e_b21, hj⟩ := Option.bind_eq_some_iff.mp hj
      subst e_b21
      obtain ⟨v22, g_v22, hj⟩ := Option.bind_eq_some_iff.mp hj
      refine r_aldD cx hP g_v22 dX4_unit_42 ?_
      refine lv_dcmp hx hb dX4_unit_43 ?_
      refine lv_if_ge (tgt := 64) hx hb dX4_unit_44 (by decide) (fun c23 => ?_) (fun c23 => ?_)
      · have hj := if_t c23 hj
        exact J_64 p0 p4 s0 p1 (0 : Int32) H locs ls hj hP hS (lv_sub hl [3, 5, 2, 1, 0] rfl)
      · have hj := if_f c23 hj
        refine lv_dload hx hb dX4_unit_47 (lv_at hl 1 rfl) ?_
        refine lv_aload_n hx hb dX4_unit_49 rfl (lv_at hl 3 rfl) ?_
        obtain ⟨v24, g_v24, hj⟩ := Option.bind_eq_some_iff.mp hj
        refine r_getR cx hP g_v24 iX4 rfl (by decide) mF_X4_9 dX4_unit_50 ?_
        refine lv_bipush (v := 9) hx hb dX4_unit_53 (by decide) ?_
        obtain ⟨b25, e_b25, hj⟩ := Option.bind_eq_some_iff.mp hj
        subst e_b25
        obtain ⟨v26, g_v26, hj⟩ := Option.bind_eq_some_iff.mp hj
        refine r_aldD cx hP g_v26 dX4_unit_55 ?_
        obtain ⟨v27, g_v27, hj⟩ := Option.bind_eq_some_iff.mp hj
        obtain ⟨n_v27, e_v27⟩ := n64_eq g_v27
        refine lv_dmul hx hb dX4_unit_56 n_v27 ?_
        rw [← e_v27]
        refine lv_dstore (lv' := [(6, .double v27), (8, .int (0 : Int32)), (5, .int s0), (0, .ref p0), (1, .double p1), (4, .int p4)]) hx hb dX4_unit_57 hl (by decide) rfl (fun ls hl => ?_)
        refine lv_sipush (v := -512) hx hb dX4_unit_59 (by decide) ?_
        refine lv_istore (lv' := [(8, .int (-512 : Int32)), (6, .double v27), (5, .int s0), (0, .ref p0), (1, .double p1), (4, .int p4)]) hx hb dX4_unit_62 hl (by decide) rfl (fun ls hl => ?_)
        exact J_64 p0 p4 s0 v27 (-512 : Int32) H locs ls hj hP hS (lv_sub hl [3, 5, 2, 1, 0] rfl)
    have J_11 : ∀ (p0 : Nat) (p1 : UInt64) (p3 : Int32) (s0 : Int32) (H : Heap) (locs : List Loc) (ls : Array Slot), j_X4_unit_11 g M p0 p1 p3 s0 = some RR → hp X M H → va_S (hA X) s.heap H locs → lv_has ls 10 [(0, .ref p0), (1, .double p1), (3, .int p3)] → W p l e ({ frames := 0, cells := 0, slots := 0, locals := 0 } : Room) s m _ below meth c H locs 0 0 (MQ below (qI X (M, RR)) _ s 0 0 (hA X)) (F0 m 11 ls [.int s0]) := by
      intro p0 p1 p3 s0 H locs ls hj hP hS hl
      unfold j_X4_unit_11 at hj
      refine lv_istore (lv' := [(4, .int s0), (0, .ref p0), (1, .double p1), (3, .int p3)]) hx hb dX4_unit_11 hl (by decide) rfl (fun ls hl => ?_)
      refine lv_iload_n hx hb dX4_unit_13 rfl (lv_at hl 3 rfl) ?_
      refine lv_if_eq (tgt := 23) hx hb dX4_unit_14 (by decide) (fun c28 => ?_) (fun c28 => ?_)
      · have hj := if_t c28 hj
        refine lv_sipush (v := -1074) hx hb dX4_unit_23 (by decide) ?_
        exact J_26 p0 p1 s0 (-1074 : Int32) H locs ls hj hP hS (lv_sub hl [1, 2, 0] rfl)
      · have hj := if_f c28 hj
        refine lv_sipush (v := -149) hx hb dX4_unit_17 (by decide) ?_
        refine lv_goto (tgt := 26) hx hb dX4_unit_20 (by decide) ?_
        exact J_26 p0 p1 s0 (-149 : Int32) H locs ls hj hP hS (lv_sub hl [1, 2, 0] rfl)
    intro H locs hP hS
    refine lv_iload_n hx hb dX4_unit_0 rfl (lv_at hl 2 rfl) ?_
    refine lv_if_eq (tgt := 9) hx hb dX4_unit_1 (by decide) (fun c29 => ?_) (fun c29 => ?_)
    · have hj := if_t c29 hj
      refine lv_bipush (v := 52) hx hb dX4_unit_9 (by decide) ?_
      exact J_11 a0 a1 a3 (52 : Int32) H locs ls hj hP hS (lv_sub hl [0, 1, 2] rfl)
    · have hj := if_f c29 hj
      refine lv_bipush (v := 23) hx hb dX4_unit_4 (by decide) ?_
      refine lv_goto (tgt := 11) hx hb dX4_unit_6 (by decide) ?_
      exact J_11 a0 a1 a3 (23 : Int32) H locs ls hj hP hS (lv_sub hl [0, 1, 2] rfl)
  exact hgo _ _ hP hS
set_option maxHeartbeats 4000000 in
set_option maxRecDepth 100000 in
theorem c_X4_times (l : Launch) (X : hX) (g : Nat) (M : hm) (a0 : Nat) (a1 : UInt64) (a3 : Int32) (RR : UInt64) (hj : j_X4_times g M a0 a1 a3 = some RR) : Ct l X yX4_times cX4_times 9 (some .double) { frames := 0, cells := 0, slots := 0, locals := 0 } [.ref a0, .double a1, .int a3] M (qD X (M, RR)) := by
  refine h_enter (own := RX4) (by decide) rfl (Nat.le_of_ble_eq_true rfl) ?_
  intro p e s m below meth c ls cx hr hlocks hnm hP hS hl
  have hx := cx.1
  have hb := cx.2.1
  have hl : lv_has ls 9 [(0, .ref a0), (1, .double a1), (3, .int a3)] := hl
  unfold j_X4_times at hj
  have hgo : ∀ (H : Heap) (locs : List Loc), hp X M H → va_S (hA X) s.heap H locs → W p l e ({ frames := 0, cells := 0, slots := 0, locals := 0 } : Room) s m _ below meth c H locs 0 0 (MQ below (qD X (M, RR)) _ s 0 0 (hA X)) (F0 m 0 ls []) := by
    have J_78 : ∀ (p6 : UInt64) (H : Heap) (locs : List Loc) (ls : Array Slot), j_X4_times_78 g M p6 = some RR → hp X M H → va_S (hA X) s.heap H locs → lv_has ls 9 [(6, .double p6)] → W p l e ({ frames := 0, cells := 0, slots := 0, locals := 0 } : Room) s m _ below meth c H locs 0 0 (MQ below (qD X (M, RR)) _ s 0 0 (hA X)) (F0 m 78 ls []) := by
      intro p6 H locs ls hj hP hS hl
      unfold j_X4_times_78 at hj
      refine lv_dload hx hb dX4_times_78 (lv_at hl 0 rfl) ?_
      exact t_D cx hr hlocks hP hS (congrArg (Prod.mk M) (Option.some.inj hj)) (Nat.le_of_ble_eq_true rfl) (Nat.le_of_ble_eq_true rfl) dX4_times_80
    have L_36 : ∀ (n36 : Nat) (p4 : Option Nat) (p5 : Int32) (p6 : UInt64) (p8 : Int32) (H : Heap) (locs : List Loc) (ls : Array Slot), j_X4_times_36 g M n36 p4 p5 p6 p8 = some RR → hp X M H → va_S (hA X) s.heap H locs → lv_has ls 9 [(4, va_rf p4), (5, .int p5), (6, .double p6), (8, .int p8)] → W p l e ({ frames := 0, cells := 0, slots := 0, locals := 0 } : Room) s m _ below meth c H locs 0 0 (MQ below (qD X (M, RR)) _ s 0 0 (hA X)) (F0 m 36 ls []) := by
      intro n36
      induction n36 with
      | zero =>
        intro p4 p5 p6 p8 H locs ls hj
        exact no_zero hj
      | succ n36 ih_36 =>
        have J_72 : ∀ (p4 : Option Nat) (p5 : Int32) (p6 : UInt64) (p8 : Int32) (H : Heap) (locs : List Loc) (ls : Array Slot), j_X4_times_72 g (fun p4 p5 p6 p8 => j_X4_times_36 g M n36 p4 p5 p6 p8) M p4 p5 p6 p8 = some RR → hp X M H → va_S (hA X) s.heap H locs → lv_has ls 9 [(4, va_rf p4), (5, .int p5), (6, .double p6), (8, .int p8)] → W p l e ({ frames := 0, cells := 0, slots := 0, locals := 0 } : Room) s m _ below meth c H locs 0 0 (MQ below (qD X (M, RR)) _ s 0 0 (hA X)) (F0 m 72 ls []) := by
          intro p4 p5 p6 p8 H locs ls hj hP hS hl
          unfold j_X4_times_72 at hj
          refine lv_iinc (v := (p8 + (-1 : Int32))) (lv' := [(8, .int (p8 + (-1 : Int32))), (4, va_rf p4), (5, .int p5), (6, .double p6)]) hx hb dX4_times_72 hl (k := 3) rfl rfl (by decide) rfl (fun ls hl => ?_)
          refine lv_goto (tgt := 36) hx hb dX4_times_75 (by decide) ?_
          exact ih_36 p4 p5 p6 (p8 + (-1 : Int32)) H locs ls hj hP hS (lv_sub hl [1, 2, 3, 0] rfl)
        have L_41 : ∀ (n41 : Nat) (p4 : Option Nat) (p5 : Int32) (p6 : UInt64) (p8 : Int32) (H : Heap) (locs : List Loc) (ls : Array Slot), j_X4_times_41 g (fun p4 p5 p6 p8 => j_X4_times_36 g M n36 p4 p5 p6 p8) M n41 p4 p5 p6 p8 = some RR → hp X M H → va_S (hA X) s.heap H locs → lv_has ls 9 [(4, va_rf p4), (5, .int p5), (6, .double p6), (8, .int p8)] → W p l e ({ frames := 0, cells := 0, slots := 0, locals := 0 } : Room) s m _ below meth c H locs 0 0 (MQ below (qD X (M, RR)) _ s 0 0 (hA X)) (F0 m 41 ls []) := by
          intro n41
          induction n41 with
          | zero =>
            intro p4 p5 p6 p8 H locs ls hj
            exact no_zero hj
          | succ n41 ih_41 =>
            intro p4 p5 p6 p8 H locs ls hj hP hS hl
            rw [j_X4_times_41_s] at hj
            refine lv_iload hx hb dX4_times_41 (lv_at hl 1 rfl) ?_
            refine lv_iconst (v := 1) hx hb dX4_times_43 (by decide) ?_
            refine lv_iload hx hb dX4_times_44 (lv_at hl 3 rfl) ?_
            refine lv_ishl hx hb dX4_times_46 ?_
            refine lv_icmp_lt (tgt := 72) hx hb dX4_times_47 (by decide) (fun c1 => ?_) (fun c1 => ?_)
            · have hj := if_t c1 hj
              exact J_72 p4 p5 p6 p8 H locs ls hj hP hS (lv_sub hl [0, 1, 2, 3] rfl)
            · have hj := if_f c1 hj
              refine lv_dload hx hb dX4_times_50 (lv_at hl 2 rfl) ?_
              refine h_aload hx hb dX4_times_52 (lv_at hl 0 rfl) ?_
              refine lv_iload hx hb dX4_times_54 (lv_at hl 3 rfl) ?_
              obtain ⟨b2, e_b2, hj⟩ := Option.bind_eq_some_iff.mp hj
              subst e_b2
              obtain ⟨v3, g_v3, hj⟩ := Option.bind_eq_some_iff.mp hj
              refine r_aldD cx hP g_v3 dX4_times_56 ?_
              obtain ⟨v4, g_v4, hj⟩ := Option.bind_eq_some_iff.mp hj
              obtain ⟨n_v4, e_v4⟩ := n64_eq g_v4
              refine lv_dmul hx hb dX4_times_57 n_v4 ?_
              rw [← e_v4]
              refine lv_dstore (lv' := [(6, .double v4), (4, .ref b2), (5, .int p5), (8, .int p8)]) hx hb dX4_times_58 hl (by decide) rfl (fun ls hl => ?_)
              refine lv_iload hx hb dX4_times_60 (lv_at hl 2 rfl) ?_
              refine lv_iconst (v := 1) hx hb dX4_times_62 (by decide) ?_
              refine lv_iload hx hb dX4_times_63 (lv_at hl 3 rfl) ?_
              refine lv_ishl hx hb dX4_times_65 ?_
              refine lv_isub hx hb dX4_times_66 ?_
              refine lv_istore (lv' := [(5, .int (p5 - ((1 : Int32) <<< (p8 &&& 31)))), (6, .double v4), (4, .ref b2), (8, .int p8)]) hx hb dX4_times_67 hl (by decide) rfl (fun ls hl => ?_)
              refine lv_goto (tgt := 41) hx hb dX4_times_69 (by decide) ?_
              exact ih_41 (some b2) (p5 - ((1 : Int32) <<< (p8 &&& 31))) v4 p8 H locs ls hj hP hS (lv_sub hl [2, 0, 1, 3] rfl)
        intro p4 p5 p6 p8 H locs ls hj hP hS hl
        rw [j_X4_times_36_s] at hj
        refine lv_iload hx hb dX4_times_36 (lv_at hl 3 rfl) ?_
        refine lv_if_lt (tgt := 78) hx hb dX4_times_38 (by decide) (fun c5 => ?_) (fun c5 => ?_)
        · have hj := if_t c5 hj
          exact J_78 p6 H locs ls hj hP hS (lv_sub hl [2] rfl)
        · have hj := if_f c5 hj
          exact L_41 g p4 p5 p6 p8 H locs ls hj hP hS (lv_sub hl [0, 1, 2, 3] rfl)
    have J_27 : ∀ (p1 : UInt64) (p4 : Option Nat) (s0 : Int32) (H : Heap) (locs : List Loc) (ls : Array Slot), j_X4_times_27 g M p1 p4 s0 = some RR → hp X M H → va_S (hA X) s.heap H locs → lv_has ls 9 [(1, .double p1), (4, va_rf p4)] → W p l e ({ frames := 0, cells := 0, slots := 0, locals := 0 } : Room) s m _ below meth c H locs 0 0 (MQ below (qD X (M, RR)) _ s 0 0 (hA X)) (F0 m 27 ls [.int s0]) := by
      intro p1 p4 s0 H locs ls hj hP hS hl
      unfold j_X4_times_27 at hj
      refine lv_istore (lv' := [(5, .int s0), (1, .double p1), (4, va_rf p4)]) hx hb dX4_times_27 hl (by decide) rfl (fun ls hl => ?_)
      refine lv_dload_n hx hb dX4_times_29 rfl (lv_at hl 1 rfl) ?_
      refine lv_dstore (lv' := [(6, .double p1), (5, .int s0), (1, .double p1), (4, va_rf p4)]) hx hb dX4_times_30 hl (by decide) rfl (fun ls hl => ?_)
      refine lv_bipush (v := 9) hx hb dX4_times_32 (by decide) ?_
      refine lv_istore (lv' := [(8, .int (9 : Int32)), (6, .double p1), (5, .int s0), (1, .double p1), (4, va_rf p4)]) hx hb dX4_times_34 hl (by decide) rfl (fun ls hl => ?_)
      exact L_36 g p4 s0 p1 (9 : Int32) H locs ls hj hP hS (lv_sub hl [4, 2, 1, 0] rfl)
    have J_15 : ∀ (p1 : UInt64) (p3 : Int32) (s0 : Option Nat) (H : Heap) (locs : List Loc) (ls : Array Slot), j_X4_times_15 g M p1 p3 s0 = some RR → hp X M H → va_S (hA X) s.heap H locs → lv_has ls 9 [(1, .double p1), (3, .int p3)] → W p l e ({ frames := 0, cells := 0, slots := 0, locals := 0 } : Room) s m _ below meth c H locs 0 0 (MQ below (qD X (M, RR)) _ s 0 0 (hA X)) (F0 m 15 ls [va_rf s0]) := by
      intro p1 p3 s0 H locs ls hj hP hS hl
      unfold j_X4_times_15 at hj
      refine h_astore (lv' := [(4, va_rf s0), (1, .double p1), (3, .int p3)]) hx hb dX4_times_15 hl (by decide) rfl (fun ls hl => ?_)
      refine lv_iload_n hx hb dX4_times_17 rfl (lv_at hl 2 rfl) ?_
      refine lv_if_ge (tgt := 26) hx hb dX4_times_18 (by decide) (fun c6 => ?_) (fun c6 => ?_)
      · have hj := if_t c6 hj
        refine lv_iload_n hx hb dX4_times_26 rfl (lv_at hl 2 rfl) ?_
        exact J_27 p1 s0 p3 H locs ls hj hP hS (lv_sub hl [1, 0] rfl)
      · have hj := if_f c6 hj
        refine lv_iload_n hx hb dX4_times_21 rfl (lv_at hl 2 rfl) ?_
        refine lv_ineg hx hb dX4_times_22 ?_
        refine lv_goto (tgt := 27) hx hb dX4_times_23 (by decide) ?_
        exact J_27 p1 s0 (-p3) H locs ls hj hP hS (lv_sub hl [1, 0] rfl)
    intro H locs hP hS
    refine lv_iload_n hx hb dX4_times_0 rfl (lv_at hl 2 rfl) ?_
    refine lv_if_ge (tgt := 11) hx hb dX4_times_1 (by decide) (fun c7 => ?_) (fun c7 => ?_)
    · have hj := if_t c7 hj
      refine lv_aload_n hx hb dX4_times_11 rfl (lv_at hl 0 rfl) ?_
      obtain ⟨v8, g_v8, hj⟩ := Option.bind_eq_some_iff.mp hj
      refine r_getR cx hP g_v8 iX4 rfl (by decide) mF_X4_9 dX4_times_12 ?_
      exact J_15 a1 a3 v8 H locs ls hj hP hS (lv_sub hl [1, 2] rfl)
    · have hj := if_f c7 hj
      refine lv_aload_n hx hb dX4_times_4 rfl (lv_at hl 0 rfl) ?_
      obtain ⟨v9, g_v9, hj⟩ := Option.bind_eq_some_iff.mp hj
      refine r_getR cx hP g_v9 iX4 rfl (by decide) mF_X4_13 dX4_times_5 ?_
      refine lv_goto (tgt := 15) hx hb dX4_times_8 (by decide) ?_
      exact J_15 a1 a3 v9 H locs ls hj hP hS (lv_sub hl [1, 2] rfl)
  exact hgo _ _ hP hS
