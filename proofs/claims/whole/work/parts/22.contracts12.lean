set_option maxHeartbeats 4000000 in
set_option maxRecDepth 100000 in
theorem c_X6_rank (l : Launch) (X : hX) (g : Nat) (M : hm) (a0 : Nat) (a1 : Int32) (a2 : Int32) (a3 : Int32) (a4 : Int32) (RR : Int32) (hj : j_X6_rank g M a0 a1 a2 a3 a4 = some RR) : Ct l X yX6_rank cX6_rank 11 (some .int) { frames := 3, cells := 0, slots := 0, locals := 65 } [.ref a0, .int a1, .int a2, .int a3, .int a4] M (qI X (M, RR)) := by
  refine h_enter (own := RX6) (by decide) rfl (Nat.le_of_ble_eq_true rfl) ?_
  intro p e s m below meth c ls cx hr hlocks hnm hP hS hl
  have hx := cx.1
  have hb := cx.2.1
  have hl : lv_has ls 11 [(0, .ref a0), (1, .int a1), (2, .int a2), (3, .int a3), (4, .int a4)] := hl
  unfold j_X6_rank at hj
  have hgo : ∀ (H : Heap) (locs : List Loc), hp X M H → va_S (hA X) s.heap H locs → W p l e ({ frames := 3, cells := 0, slots := 0, locals := 65 } : Room) s m _ below meth c H locs 0 0 (MQ below (qI X (M, RR)) _ s 0 0 (hA X)) (F0 m 0 ls []) := by
    have J_83 : ∀ (p5 : Int32) (H : Heap) (locs : List Loc) (ls : Array Slot), j_X6_rank_83 g M p5 = some RR → hp X M H → va_S (hA X) s.heap H locs → lv_has ls 11 [(5, .int p5)] → W p l e ({ frames := 3, cells := 0, slots := 0, locals := 65 } : Room) s m _ below meth c H locs 0 0 (MQ below (qI X (M, RR)) _ s 0 0 (hA X)) (F0 m 83 ls []) := by
      intro p5 H locs ls hj hP hS hl
      unfold j_X6_rank_83 at hj
      refine lv_iload hx hb dX6_rank_83 (lv_at hl 0 rfl) ?_
      exact t_I cx hr hlocks hP hS (congrArg (Prod.mk M) (Option.some.inj hj)) (Nat.le_of_ble_eq_true rfl) (Nat.le_of_ble_eq_true rfl) dX6_rank_85
    have L_15 : ∀ (n15 : Nat) (p0 : Nat) (p1 : Int32) (p3 : Int32) (p4 : Int32) (p5 : Int32) (p6 : UInt64) (p8 : Int32) (H : Heap) (locs : List Loc) (ls : Array Slot), j_X6_rank_15 g M n15 p0 p1 p3 p4 p5 p6 p8 = some RR → hp X M H → va_S (hA X) s.heap H locs → lv_has ls 11 [(0, .ref p0), (1, .int p1), (3, .int p3), (4, .int p4), (5, .int p5), (6, .double p6), (8, .int p8)] → W p l e ({ frames := 3, cells := 0, slots := 0, locals := 65 } : Room) s m _ below meth c H locs 0 0 (MQ below (qI X (M, RR)) _ s 0 0 (hA X)) (F0 m 15 ls []) := by
      intro n15
      induction n15 with
      | zero =>
        intro p0 p1 p3 p4 p5 p6 p8 H locs ls hj
        exact no_zero hj
      | succ n15 ih_15 =>
        have J_77 : ∀ (p0 : Nat) (p1 : Int32) (p3 : Int32) (p4 : Int32) (p5 : Int32) (p6 : UInt64) (p8 : Int32) (H : Heap) (locs : List Loc) (ls : Array Slot), j_X6_rank_77 g (fun p0 p1 p3 p4 p5 p6 p8 => j_X6_rank_15 g M n15 p0 p1 p3 p4 p5 p6 p8) M p0 p1 p3 p4 p5 p6 p8 = some RR → hp X M H → va_S (hA X) s.heap H locs → lv_has ls 11 [(0, .ref p0), (1, .int p1), (3, .int p3), (4, .int p4), (5, .int p5), (6, .double p6), (8, .int p8)] → W p l e ({ frames := 3, cells := 0, slots := 0, locals := 65 } : Room) s m _ below meth c H locs 0 0 (MQ below (qI X (M, RR)) _ s 0 0 (hA X)) (F0 m 77 ls []) := by
          intro p0 p1 p3 p4 p5 p6 p8 H locs ls hj hP hS hl
          unfold j_X6_rank_77 at hj
          refine lv_iinc (v := (p8 + (1 : Int32))) (lv' := [(8, .int (p8 + (1 : Int32))), (0, .ref p0), (1, .int p1), (3, .int p3), (4, .int p4), (5, .int p5), (6, .double p6)]) hx hb dX6_rank_77 hl (k := 6) rfl rfl (by decide) rfl (fun ls hl => ?_)
          refine lv_goto (tgt := 15) hx hb dX6_rank_80 (by decide) ?_
          exact ih_15 p0 p1 p3 p4 p5 p6 (p8 + (1 : Int32)) H locs ls hj hP hS (lv_sub hl [1, 2, 3, 4, 5, 6, 0] rfl)
        have J_74 : ∀ (p0 : Nat) (p1 : Int32) (p3 : Int32) (p4 : Int32) (p6 : UInt64) (p8 : Int32) (s0 : Int32) (s1 : Int32) (H : Heap) (locs : List Loc) (ls : Array Slot), j_X6_rank_74 g (fun p0 p1 p3 p4 p5 p6 p8 => j_X6_rank_15 g M n15 p0 p1 p3 p4 p5 p6 p8) M p0 p1 p3 p4 p6 p8 s0 s1 = some RR → hp X M H → va_S (hA X) s.heap H locs → lv_has ls 11 [(0, .ref p0), (1, .int p1), (3, .int p3), (4, .int p4), (6, .double p6), (8, .int p8)] → W p l e ({ frames := 3, cells := 0, slots := 0, locals := 65 } : Room) s m _ below meth c H locs 0 0 (MQ below (qI X (M, RR)) _ s 0 0 (hA X)) (F0 m 74 ls [.int s0, .int s1]) := by
          intro p0 p1 p3 p4 p6 p8 s0 s1 H locs ls hj hP hS hl
          unfold j_X6_rank_74 at hj
          refine lv_iadd hx hb dX6_rank_74 ?_
          refine lv_istore (lv' := [(5, .int (s1 + s0)), (0, .ref p0), (1, .int p1), (3, .int p3), (4, .int p4), (6, .double p6), (8, .int p8)]) hx hb dX6_rank_75 hl (by decide) rfl (fun ls hl => ?_)
          exact J_77 p0 p1 p3 p4 (s1 + s0) p6 p8 H locs ls hj hP hS (lv_sub hl [1, 2, 3, 4, 0, 5, 6] rfl)
        have J_73 : ∀ (p0 : Nat) (p1 : Int32) (p3 : Int32) (p4 : Int32) (p6 : UInt64) (p8 : Int32) (s0 : Int32) (H : Heap) (locs : List Loc) (ls : Array Slot), j_X6_rank_73 g (fun p0 p1 p3 p4 p5 p6 p8 => j_X6_rank_15 g M n15 p0 p1 p3 p4 p5 p6 p8) M p0 p1 p3 p4 p6 p8 s0 = some RR → hp X M H → va_S (hA X) s.heap H locs → lv_has ls 11 [(0, .ref p0), (1, .int p1), (3, .int p3), (4, .int p4), (6, .double p6), (8, .int p8)] → W p l e ({ frames := 3, cells := 0, slots := 0, locals := 65 } : Room) s m _ below meth c H locs 0 0 (MQ below (qI X (M, RR)) _ s 0 0 (hA X)) (F0 m 73 ls [.int s0]) := by
          intro p0 p1 p3 p4 p6 p8 s0 H locs ls hj hP hS hl
          unfold j_X6_rank_73 at hj
          refine lv_iconst (v := 0) hx hb dX6_rank_73 (by decide) ?_
          exact J_74 p0 p1 p3 p4 p6 p8 (0 : Int32) s0 H locs ls hj hP hS (lv_sub hl [0, 1, 2, 3, 4, 5] rfl)
        have J_69 : ∀ (p0 : Nat) (p1 : Int32) (p3 : Int32) (p4 : Int32) (p6 : UInt64) (p8 : Int32) (s0 : Int32) (H : Heap) (locs : List Loc) (ls : Array Slot), j_X6_rank_69 g (fun p0 p1 p3 p4 p5 p6 p8 => j_X6_rank_15 g M n15 p0 p1 p3 p4 p5 p6 p8) M p0 p1 p3 p4 p6 p8 s0 = some RR → hp X M H → va_S (hA X) s.heap H locs → lv_has ls 11 [(0, .ref p0), (1, .int p1), (3, .int p3), (4, .int p4), (6, .double p6), (8, .int p8)] → W p l e ({ frames := 3, cells := 0, slots := 0, locals := 65 } : Room) s m _ below meth c H locs 0 0 (MQ below (qI X (M, RR)) _ s 0 0 (hA X)) (F0 m 69 ls [.int s0]) := by
          intro p0 p1 p3 p4 p6 p8 s0 H locs ls hj hP hS hl
          unfold j_X6_rank_69 at hj
          refine lv_iconst (v := 1) hx hb dX6_rank_69 (by decide) ?_
          refine lv_goto (tgt := 74) hx hb dX6_rank_70 (by decide) ?_
          exact J_74 p0 p1 p3 p4 p6 p8 (1 : Int32) s0 H locs ls hj hP hS (lv_sub hl [0, 1, 2, 3, 4, 5] rfl)
        intro p0 p1 p3 p4 p5 p6 p8 H locs ls hj hP hS hl
        rw [j_X6_rank_15_s] at hj
        refine lv_iload hx hb dX6_rank_15 (lv_at hl 6 rfl) ?_
        refine lv_iload_n hx hb dX6_rank_17 rfl (lv_at hl 2 rfl) ?_
        refine lv_icmp_gt (tgt := 83) hx hb dX6_rank_18 (by decide) (fun c1 => ?_) (fun c1 => ?_)
        · have hj := if_t c1 hj
          exact J_83 p5 H locs ls hj hP hS (lv_sub hl [4] rfl)
        · have hj := if_f c1 hj
          refine lv_aload_n hx hb dX6_rank_21 rfl (lv_at hl 0 rfl) ?_
          refine lv_iload_n hx hb dX6_rank_22 rfl (lv_at hl 1 rfl) ?_
          refine lv_iload hx hb dX6_rank_23 (lv_at hl 6 rfl) ?_
          obtain ⟨_, o2, hj⟩ := Option.bind_eq_some_iff.mp hj
          obtain ⟨v3, g_v3, hj⟩ := Option.bind_eq_some_iff.mp hj
          refine f_I (k_V (b := p0) (As := [.int p1, .int p8]) (n := 2) (rest := []) cx hl.1 hP hS (c_X6_noX l X g M p0 p1 p8 v3 g_v3) o2 rfl mC_X6_noX mM_X6_140 mI_X6_noX mS_X6_noX mZ_X6 (by decide +kernel) ⟨Nat.le_of_ble_eq_true rfl, Nat.le_of_ble_eq_true rfl⟩ rfl rfl (Nat.le_of_ble_eq_true rfl) dX6_rank_25 ⟨Nat.le_of_ble_eq_true rfl, Nat.le_of_ble_eq_true rfl⟩) hS (fun H locs hP hS => ?_)
          have hP : hp X M H := hP
          refine W.eq (g2 := F0 m 28 ls [.int v3]) rfl ?_
          refine W.widen (k := 0) (n := 0) (Nat.le_of_ble_eq_true rfl) (Nat.le_of_ble_eq_true rfl) ?_
          refine lv_if_ne (tgt := 77) hx hb dX6_rank_28 (by decide) (fun c4 => ?_) (fun c4 => ?_)
          · have hj := if_f c4 hj
            exact J_77 p0 p1 p3 p4 p5 p6 p8 H locs ls hj hP hS (lv_sub hl [0, 1, 2, 3, 4, 5, 6] rfl)
          · have hj := if_t c4 hj
            refine lv_aload_n hx hb dX6_rank_31 rfl (lv_at hl 0 rfl) ?_
            refine lv_iload_n hx hb dX6_rank_32 rfl (lv_at hl 1 rfl) ?_
            refine lv_iload hx hb dX6_rank_33 (lv_at hl 6 rfl) ?_
            obtain ⟨_, o5, hj⟩ := Option.bind_eq_some_iff.mp hj
            obtain ⟨v6, g_v6, hj⟩ := Option.bind_eq_some_iff.mp hj
            refine f_D (k_V (b := p0) (As := [.int p1, .int p8]) (n := 2) (rest := []) cx hl.1 hP hS (c_X6_x l X g M p0 p1 p8 v6 g_v6) o5 rfl mC_X6_x mM_X6_136 mI_X6_x mS_X6_x mZ_X6 (by decide +kernel) ⟨Nat.le_of_ble_eq_true rfl, Nat.le_of_ble_eq_true rfl⟩ rfl rfl (Nat.le_of_ble_eq_true rfl) dX6_rank_35 ⟨Nat.le_of_ble_eq_true rfl, Nat.le_of_ble_eq_true rfl⟩) hS (fun H locs hP hS => ?_)
            have hP : hp X M H := hP
            refine W.eq (g2 := F0 m 38 ls [.double v6]) rfl ?_
            refine W.widen (k := 0) (n := 0) (Nat.le_of_ble_eq_true rfl) (Nat.le_of_ble_eq_true rfl) ?_
            refine lv_dstore (lv' := [(9, .double v6), (0, .ref p0), (1, .int p1), (3, .int p3), (4, .int p4), (5, .int p5), (6, .double p6), (8, .int p8)]) hx hb dX6_rank_38 hl (by decide) rfl (fun ls hl => ?_)
            refine lv_iload hx hb dX6_rank_40 (lv_at hl 5 rfl) ?_
            refine lv_dload hx hb dX6_rank_42 (lv_at hl 0 rfl) ?_
            refine lv_dload hx hb dX6_rank_44 (lv_at hl 6 rfl) ?_
            obtain ⟨v7, g_v7, hj⟩ := Option.bind_eq_some_iff.mp hj
            refine f_I (k_S (As := [.double v6, .double p6]) (n := 2) (rest := [.int p5]) cx hl.1 hP hS (c_X6_isLower l X g M v6 p6 v7 g_v7) mC_X6_isLower mM_X6_124 mT_X6_isLower mZ_X6 (by decide +kernel) ⟨Nat.le_of_ble_eq_true rfl, Nat.le_of_ble_eq_true rfl⟩ rfl rfl (Nat.le_of_ble_eq_true rfl) dX6_rank_46 ⟨Nat.le_of_ble_eq_true rfl, Nat.le_of_ble_eq_true rfl⟩) hS (fun H locs hP hS => ?_)
            have hP : hp X M H := hP
            refine W.eq (g2 := F0 m 49 ls [.int v7, .int p5]) rfl ?_
            refine W.widen (k := 0) (n := 0) (Nat.le_of_ble_eq_true rfl) (Nat.le_of_ble_eq_true rfl) ?_
            refine lv_if_ne (tgt := 69) hx hb dX6_rank_49 (by decide) (fun c8 => ?_) (fun c8 => ?_)
            · have hj := if_f c8 hj
              exact J_69 p0 p1 p3 p4 p6 p8 p5 H locs ls hj hP hS (lv_sub hl [1, 2, 3, 4, 6, 7] rfl)
            · have hj := if_t c8 hj
              refine lv_iload hx hb dX6_rank_52 (lv_at hl 7 rfl) ?_
              refine lv_iload hx hb dX6_rank_54 (lv_at hl 4 rfl) ?_
              refine lv_icmp_ge (tgt := 73) hx hb dX6_rank_56 (by decide) (fun c9 => ?_) (fun c9 => ?_)
              · have hj := if_t c9 hj
                exact J_73 p0 p1 p3 p4 p6 p8 p5 H locs ls hj hP hS (lv_sub hl [1, 2, 3, 4, 6, 7] rfl)
              · have hj := if_f c9 hj
                refine lv_dload hx hb dX6_rank_59 (lv_at hl 6 rfl) ?_
                refine lv_dload hx hb dX6_rank_61 (lv_at hl 0 rfl) ?_
                obtain ⟨v10, g_v10, hj⟩ := Option.bind_eq_some_iff.mp hj
                refine f_I (k_S (As := [.double p6, .double v6]) (n := 2) (rest := [.int p5]) cx hl.1 hP hS (c_X6_isLower l X g M p6 v6 v10 g_v10) mC_X6_isLower mM_X6_124 mT_X6_isLower mZ_X6 (by decide +kernel) ⟨Nat.le_of_ble_eq_true rfl, Nat.le_of_ble_eq_true rfl⟩ rfl rfl (Nat.le_of_ble_eq_true rfl) dX6_rank_63 ⟨Nat.le_of_ble_eq_true rfl, Nat.le_of_ble_eq_true rfl⟩) hS (fun H locs hP hS => ?_)
                have hP : hp X M H := hP
                refine W.eq (g2 := F0 m 66 ls [.int v10, .int p5]) rfl ?_
                refine W.widen (k := 0) (n := 0) (Nat.le_of_ble_eq_true rfl) (Nat.le_of_ble_eq_true rfl) ?_
                refine lv_if_ne (tgt := 73) hx hb dX6_rank_66 (by decide) (fun c11 => ?_) (fun c11 => ?_)
                · have hj := if_f c11 hj
                  exact J_73 p0 p1 p3 p4 p6 p8 p5 H locs ls hj hP hS (lv_sub hl [1, 2, 3, 4, 6, 7] rfl)
                · have hj := if_t c11 hj
                  exact J_69 p0 p1 p3 p4 p6 p8 p5 H locs ls hj hP hS (lv_sub hl [1, 2, 3, 4, 6, 7] rfl)
    intro H locs hP hS
    refine lv_iconst (v := 0) hx hb dX6_rank_0 (by decide) ?_
    refine lv_istore (lv' := [(5, .int (0 : Int32)), (0, .ref a0), (1, .int a1), (2, .int a2), (3, .int a3), (4, .int a4)]) hx hb dX6_rank_1 hl (by decide) rfl (fun ls hl => ?_)
    refine lv_aload_n hx hb dX6_rank_3 rfl (lv_at hl 1 rfl) ?_
    refine lv_iload_n hx hb dX6_rank_4 rfl (lv_at hl 2 rfl) ?_
    refine lv_iload hx hb dX6_rank_5 (lv_at hl 5 rfl) ?_
    obtain ⟨_, o12, hj⟩ := Option.bind_eq_some_iff.mp hj
    obtain ⟨v13, g_v13, hj⟩ := Option.bind_eq_some_iff.mp hj
    refine f_D (k_V (b := a0) (As := [.int a1, .int a4]) (n := 2) (rest := []) cx hl.1 hP hS (c_X6_x l X g M a0 a1 a4 v13 g_v13) o12 rfl mC_X6_x mM_X6_136 mI_X6_x mS_X6_x mZ_X6 (by decide +kernel) ⟨Nat.le_of_ble_eq_true rfl, Nat.le_of_ble_eq_true rfl⟩ rfl rfl (Nat.le_of_ble_eq_true rfl) dX6_rank_7 ⟨Nat.le_of_ble_eq_true rfl, Nat.le_of_ble_eq_true rfl⟩) hS (fun H locs hP hS => ?_)
    have hP : hp X M H := hP
    refine W.eq (g2 := F0 m 10 ls [.double v13]) rfl ?_
    refine W.widen (k := 0) (n := 0) (Nat.le_of_ble_eq_true rfl) (Nat.le_of_ble_eq_true rfl) ?_
    refine lv_dstore (lv' := [(6, .double v13), (5, .int (0 : Int32)), (0, .ref a0), (1, .int a1), (2, .int a2), (3, .int a3), (4, .int a4)]) hx hb dX6_rank_10 hl (by decide) rfl (fun ls hl => ?_)
    refine lv_iload_n hx hb dX6_rank_12 rfl (lv_at hl 4 rfl) ?_
    refine lv_istore (lv' := [(8, .int a2), (6, .double v13), (5, .int (0 : Int32)), (0, .ref a0), (1, .int a1), (2, .int a2), (3, .int a3), (4, .int a4)]) hx hb dX6_rank_13 hl (by decide) rfl (fun ls hl => ?_)
    exact L_15 g a0 a1 a3 a4 (0 : Int32) v13 a2 H locs ls hj hP hS (lv_sub hl [3, 4, 6, 7, 2, 1, 0] rfl)
  exact hgo _ _ hP hS
set_option maxHeartbeats 4000000 in
set_option maxRecDepth 100000 in
theorem c_X6_ranked (l : Launch) (X : hX) (g : Nat) (M : hm) (a0 : Nat) (a1 : Int32) (a2 : Int32) (a3 : Int32) (a4 : Int32) (RR : hm) (hj : j_X6_ranked g M a0 a1 a2 a3 a4 = some RR) : Ct l X yX6_ranked cX6_ranked 6 none { frames := 4, cells := 0, slots := 0, locals := 95 } [.ref a0, .int a1, .int a2, .int a3, .int a4] M (qV X RR) := by
  refine h_enter (own := RX6) (by decide) rfl (Nat.le_of_ble_eq_true rfl) ?_
  intro p e s m below meth c ls cx hr hlocks hnm hP hS hl
  have hx := cx.1
  have hb := cx.2.1
  have hl : lv_has ls 6 [(0, .ref a0), (1, .int a1), (2, .int a2), (3, .int a3), (4, .int a4)] := hl
  unfold j_X6_ranked at hj
  have hgo : ∀ (H : Heap) (locs : List Loc), hp X M H → va_S (hA X) s.heap H locs → W p l e ({ frames := 4, cells := 0, slots := 0, locals := 95 } : Room) s m _ below meth c H locs 0 0 (MQ below (qV X RR) _ s 0 0 (hA X)) (F0 m 0 ls []) := by
    have J_54 : ∀ (M : hm) (H : Heap) (locs : List Loc) (ls : Array Slot), j_X6_ranked_54 g M = some RR → hp X M H → va_S (hA X) s.heap H locs → lv_has ls 6 [] → W p l e ({ frames := 4, cells := 0, slots := 0, locals := 95 } : Room) s m _ below meth c H locs 0 0 (MQ below (qV X RR) _ s 0 0 (hA X)) (F0 m 54 ls []) := by
      intro M H locs ls hj hP hS hl
      unfold j_X6_ranked_54 at hj
      exact t_V cx hr hlocks hP hS (Option.some.inj hj) (Nat.le_of_ble_eq_true rfl) (Nat.le_of_ble_eq_true rfl) dX6_ranked_54
    have L_7 : ∀ (n7 : Nat) (M : hm) (p0 : Nat) (p1 : Int32) (p2 : Int32) (p3 : Int32) (p4 : Int32) (p5 : Int32) (H : Heap) (locs : List Loc) (ls : Array Slot), j_X6_ranked_7 g n7 M p0 p1 p2 p3 p4 p5 = some RR → hp X M H → va_S (hA X) s.heap H locs → lv_has ls 6 [(0, .ref p0), (1, .int p1), (2, .int p2), (3, .int p3), (4, .int p4), (5, .int p5)] → W p l e ({ frames := 4, cells := 0, slots := 0, locals := 95 } : Room) s m _ below meth c H locs 0 0 (MQ below (qV X RR) _ s 0 0 (hA X)) (F0 m 7 ls []) := by
      intro n7
      induction n7 with
      | zero =>
        intro M p0 p1 p2 p3 p4 p5 H locs ls hj
        exact no_zero hj
      | succ n7 ih_7 =>
        have J_48 : ∀ (M : hm) (p0 : Nat) (p1 : Int32) (p2 : Int32) (p3 : Int32) (p4 : Int32) (p5 : Int32) (H : Heap) (locs : List Loc) (ls : Array Slot), j_X6_ranked_48 g (fun M p0 p1 p2 p3 p4 p5 => j_X6_ranked_7 g n7 M p0 p1 p2 p3 p4 p5) M p0 p1 p2 p3 p4 p5 = some RR → hp X M H → va_S (hA X) s.heap H locs → lv_has ls 6 [(0, .ref p0), (1, .int p1), (2, .int p2), (3, .int p3), (4, .int p4), (5, .int p5)] → W p l e ({ frames := 4, cells := 0, slots := 0, locals := 95 } : Room) s m _ below meth c H locs 0 0 (MQ below (qV X RR) _ s 0 0 (hA X)) (F0 m 48 ls []) := by
          intro M p0 p1 p2 p3 p4 p5 H locs ls hj hP hS hl
          unfold j_X6_ranked_48 at hj
          refine lv_iinc (v := (p5 + (1 : Int32))) (lv' := [(5, .int (p5 + (1 : Int32))), (0, .ref p0), (1, .int p1), (2, .int p2), (3, .int p3), (4, .int p4)]) hx hb dX6_ranked_48 hl (k := 5) rfl rfl (by decide) rfl (fun ls hl => ?_)
          refine lv_goto (tgt := 7) hx hb dX6_ranked_51 (by decide) ?_
          exact ih_7 M p0 p1 p2 p3 p4 (p5 + (1 : Int32)) H locs ls hj hP hS (lv_sub hl [1, 2, 3, 4, 5, 0] rfl)
        intro M p0 p1 p2 p3 p4 p5 H locs ls hj hP hS hl
        rw [j_X6_ranked_7_s] at hj
        refine lv_iload hx hb dX6_ranked_7 (lv_at hl 5 rfl) ?_
        refine lv_iload_n hx hb dX6_ranked_9 rfl (lv_at hl 3 rfl) ?_
        refine lv_icmp_gt (tgt := 54) hx hb dX6_ranked_10 (by decide) (fun c1 => ?_) (fun c1 => ?_)
        · have hj := if_t c1 hj
          exact J_54 M H locs ls hj hP hS (lv_sub hl [] rfl)
        · have hj := if_f c1 hj
          refine lv_aload_n hx hb dX6_ranked_13 rfl (lv_at hl 0 rfl) ?_
          refine lv_iload_n hx hb dX6_ranked_14 rfl (lv_at hl 1 rfl) ?_
          refine lv_iload hx hb dX6_ranked_15 (lv_at hl 5 rfl) ?_
          obtain ⟨_, o2, hj⟩ := Option.bind_eq_some_iff.mp hj
          obtain ⟨v3, g_v3, hj⟩ := Option.bind_eq_some_iff.mp hj
          refine f_I (k_V (b := p0) (As := [.int p1, .int p5]) (n := 2) (rest := []) cx hl.1 hP hS (c_X6_noX l X g M p0 p1 p5 v3 g_v3) o2 rfl mC_X6_noX mM_X6_140 mI_X6_noX mS_X6_noX mZ_X6 (by decide +kernel) ⟨Nat.le_of_ble_eq_true rfl, Nat.le_of_ble_eq_true rfl⟩ rfl rfl (Nat.le_of_ble_eq_true rfl) dX6_ranked_17 ⟨Nat.le_of_ble_eq_true rfl, Nat.le_of_ble_eq_true rfl⟩) hS (fun H locs hP hS => ?_)
          have hP : hp X M H := hP
          refine W.eq (g2 := F0 m 20 ls [.int v3]) rfl ?_
          refine W.widen (k := 0) (n := 0) (Nat.le_of_ble_eq_true rfl) (Nat.le_of_ble_eq_true rfl) ?_
          refine lv_if_ne (tgt := 48) hx hb dX6_ranked_20 (by decide) (fun c4 => ?_) (fun c4 => ?_)
          · have hj := if_f c4 hj
            exact J_48 M p0 p1 p2 p3 p4 p5 H locs ls hj hP hS (lv_sub hl [0, 1, 2, 3, 4, 5] rfl)
          · have hj := if_t c4 hj
            refine lv_aload_n hx hb dX6_ranked_23 rfl (lv_at hl 0 rfl) ?_
            refine lv_iload_n hx hb dX6_ranked_24 rfl (lv_at hl 1 rfl) ?_
            refine lv_iload_n hx hb dX6_ranked_25 rfl (lv_at hl 2 rfl) ?_
            refine lv_iload_n hx hb dX6_ranked_26 rfl (lv_at hl 3 rfl) ?_
            refine lv_iload hx hb dX6_ranked_27 (lv_at hl 5 rfl) ?_
            obtain ⟨_, o5, hj⟩ := Option.bind_eq_some_iff.mp hj
            obtain ⟨v6, g_v6, hj⟩ := Option.bind_eq_some_iff.mp hj
            refine f_I (k_V (b := p0) (As := [.int p1, .int p2, .int p3, .int p5]) (n := 4) (rest := []) cx hl.1 hP hS (c_X6_rank l X g M p0 p1 p2 p3 p5 v6 g_v6) o5 rfl mC_X6_rank mM_X6_154 mI_X6_rank mS_X6_rank mZ_X6 (by decide +kernel) ⟨Nat.le_of_ble_eq_true rfl, Nat.le_of_ble_eq_true rfl⟩ rfl rfl (Nat.le_of_ble_eq_true rfl) dX6_ranked_29 ⟨Nat.le_of_ble_eq_true rfl, Nat.le_of_ble_eq_true rfl⟩) hS (fun H locs hP hS => ?_)
            have hP : hp X M H := hP
            refine W.eq (g2 := F0 m 32 ls [.int v6]) rfl ?_
            refine W.widen (k := 0) (n := 0) (Nat.le_of_ble_eq_true rfl) (Nat.le_of_ble_eq_true rfl) ?_
            refine lv_iload hx hb dX6_ranked_32 (lv_at hl 4 rfl) ?_
            refine lv_icmp_ne (tgt := 48) hx hb dX6_ranked_34 (by decide) (fun c7 => ?_) (fun c7 => ?_)
            · have hj := if_f c7 hj
              exact J_48 M p0 p1 p2 p3 p4 p5 H locs ls hj hP hS (lv_sub hl [0, 1, 2, 3, 4, 5] rfl)
            · have hj := if_t c7 hj
              refine lv_aload_n hx hb dX6_ranked_37 rfl (lv_at hl 0 rfl) ?_
              refine lv_aload_n hx hb dX6_ranked_38 rfl (lv_at hl 0 rfl) ?_
              refine lv_iload_n hx hb dX6_ranked_39 rfl (lv_at hl 1 rfl) ?_
              refine lv_iload hx hb dX6_ranked_40 (lv_at hl 5 rfl) ?_
              obtain ⟨_, o8, hj⟩ := Option.bind_eq_some_iff.mp hj
              obtain ⟨v9, g_v9, hj⟩ := Option.bind_eq_some_iff.mp hj
              refine f_D (k_V (b := p0) (As := [.int p1, .int p5]) (n := 2) (rest := [.ref p0]) cx hl.1 hP hS (c_X6_x l X g M p0 p1 p5 v9 g_v9) o8 rfl mC_X6_x mM_X6_136 mI_X6_x mS_X6_x mZ_X6 (by decide +kernel) ⟨Nat.le_of_ble_eq_true rfl, Nat.le_of_ble_eq_true rfl⟩ rfl rfl (Nat.le_of_ble_eq_true rfl) dX6_ranked_42 ⟨Nat.le_of_ble_eq_true rfl, Nat.le_of_ble_eq_true rfl⟩) hS (fun H locs hP hS => ?_)
              have hP : hp X M H := hP
              refine W.eq (g2 := F0 m 45 ls [.double v9, .ref p0]) rfl ?_
              refine W.widen (k := 0) (n := 0) (Nat.le_of_ble_eq_true rfl) (Nat.le_of_ble_eq_true rfl) ?_
              obtain ⟨_, o10, hj⟩ := Option.bind_eq_some_iff.mp hj
              obtain ⟨M11, g_M11, hj⟩ := Option.bind_eq_some_iff.mp hj
              refine f_V (k_V (b := p0) (As := [.double v9]) (n := 1) (rest := []) cx hl.1 hP hS (c_X6_gives l X g M p0 v9 M11 g_M11) o10 rfl mC_X6_gives mM_X6_94 mI_X6_gives mS_X6_gives mZ_X6 (by decide +kernel) ⟨Nat.le_of_ble_eq_true rfl, Nat.le_of_ble_eq_true rfl⟩ rfl rfl (Nat.le_of_ble_eq_true rfl) dX6_ranked_45 ⟨Nat.le_of_ble_eq_true rfl, Nat.le_of_ble_eq_true rfl⟩) hS (fun H locs hP hS => ?_)
              have hP : hp X M11 H := hP
              refine W.eq (g2 := F0 m 48 ls []) rfl ?_
              refine W.widen (k := 0) (n := 0) (Nat.le_of_ble_eq_true rfl) (Nat.le_of_ble_eq_true rfl) ?_
              exact J_48 M11 p0 p1 p2 p3 p4 p5 H locs ls hj hP hS (lv_sub hl [0, 1, 2, 3, 4, 5] rfl)
    intro H locs hP hS
    refine lv_aload_n hx hb dX6_ranked_0 rfl (lv_at hl 0 rfl) ?_
    obtain ⟨_, o12, hj⟩ := Option.bind_eq_some_iff.mp hj
    obtain ⟨M13, g_M13, hj⟩ := Option.bind_eq_some_iff.mp hj
    refine f_V (k_V (b := a0) (As := []) (n := 0) (rest := []) cx hl.1 hP hS (c_X6_givesNothing l X g M a0 M13 g_M13) o12 rfl mC_X6_givesNothing mM_X6_114 mI_X6_givesNothing mS_X6_givesNothing mZ_X6 (by decide +kernel) ⟨Nat.le_of_ble_eq_true rfl, Nat.le_of_ble_eq_true rfl⟩ rfl rfl (Nat.le_of_ble_eq_true rfl) dX6_ranked_1 ⟨Nat.le_of_ble_eq_true rfl, Nat.le_of_ble_eq_true rfl⟩) hS (fun H locs hP hS => ?_)
    have hP : hp X M13 H := hP
    refine W.eq (g2 := F0 m 4 ls []) rfl ?_
    refine W.widen (k := 0) (n := 0) (Nat.le_of_ble_eq_true rfl) (Nat.le_of_ble_eq_true rfl) ?_
    refine lv_iload_n hx hb dX6_ranked_4 rfl (lv_at hl 2 rfl) ?_
    refine lv_istore (lv' := [(5, .int a2), (0, .ref a0), (1, .int a1), (2, .int a2), (3, .int a3), (4, .int a4)]) hx hb dX6_ranked_5 hl (by decide) rfl (fun ls hl => ?_)
    exact L_7 g M13 a0 a1 a2 a3 a4 a2 H locs ls hj hP hS (lv_sub hl [1, 2, 3, 4, 5, 0] rfl)
  exact hgo _ _ hP hS
set_option maxHeartbeats 4000000 in
set_option maxRecDepth 100000 in
theorem c_X6_lessThan (l : Launch) (X : hX) (g : Nat) (M : hm) (a0 : Nat) (a1 : Int32) (a2 : Int32) (RR : Int32) (hj : j_X6_lessThan g M a0 a1 a2 = some RR) : Ct l X yX6_lessThan cX6_lessThan 5 (some .int) { frames := 2, cells := 0, slots := 0, locals := 44 } [.ref a0, .int a1, .int a2] M (qI X (M, RR)) := by
  refine h_enter (own := RX6) (by decide) rfl (Nat.le_of_ble_eq_true rfl) ?_
  intro p e s m below meth c ls cx hr hlocks hnm hP hS hl
  have hx := cx.1
  have hb := cx.2.1
  have hl : lv_has ls 5 [(0, .ref a0), (1, .int a1), (2, .int a2)] := hl
  unfold j_X6_lessThan at hj
  have hgo : ∀ (H : Heap) (locs : List Loc), hp X M H → va_S (hA X) s.heap H locs → W p l e ({ frames := 2, cells := 0, slots := 0, locals := 44 } : Room) s m _ below meth c H locs 0 0 (MQ below (qI X (M, RR)) _ s 0 0 (hA X)) (F0 m 0 ls []) := by
    have J_53 : ∀ (p3 : Int32) (H : Heap) (locs : List Loc) (ls : Array Slot), j_X6_lessThan_53 g M p3 = some RR → hp X M H → va_S (hA X) s.heap H locs → lv_has ls 5 [(3, .int p3)] → W p l e ({ frames := 2, cells := 0, slots := 0, locals := 44 } : Room) s m _ below meth c H locs 0 0 (MQ below (qI X (M, RR)) _ s 0 0 (hA X)) (F0 m 53 ls []) := by
      intro p3 H locs ls hj hP hS hl
      unfold j_X6_lessThan_53 at hj
      refine lv_iload_n hx hb dX6_lessThan_53 rfl (lv_at hl 0 rfl) ?_
      exact t_I cx hr hlocks hP hS (congrArg (Prod.mk M) (Option.some.inj hj)) (Nat.le_of_ble_eq_true rfl) (Nat.le_of_ble_eq_true rfl) dX6_lessThan_54
    have L_5 : ∀ (n5 : Nat) (p0 : Nat) (p1 : Int32) (p2 : Int32) (p3 : Int32) (p4 : Int32) (H : Heap) (locs : List Loc) (ls : Array Slot), j_X6_lessThan_5 g M n5 p0 p1 p2 p3 p4 = some RR → hp X M H → va_S (hA X) s.heap H locs → lv_has ls 5 [(0, .ref p0), (1, .int p1), (2, .int p2), (3, .int p3), (4, .int p4)] → W p l e ({ frames := 2, cells := 0, slots := 0, locals := 44 } : Room) s m _ below meth c H locs 0 0 (MQ below (qI X (M, RR)) _ s 0 0 (hA X)) (F0 m 5 ls []) := by
      intro n5
      induction n5 with
      | zero =>
        intro p0 p1 p2 p3 p4 H locs ls hj
        exact no_zero hj
      | succ n5 ih_5 =>
        have J_45 : ∀ (p0 : Nat) (p1 : Int32) (p2 : Int32) (p4 : Int32) (s0 : Int32) (s1 : Int32) (H : Heap) (locs : List Loc) (ls : Array Slot), j_X6_lessThan_45 g (fun p0 p1 p2 p3 p4 => j_X6_lessThan_5 g M n5 p0 p1 p2 p3 p4) M p0 p1 p2 p4 s0 s1 = some RR → hp X M H → va_S (hA X) s.heap H locs → lv_has ls 5 [(0, .ref p0), (1, .int p1), (2, .int p2), (4, .int p4)] → W p l e ({ frames := 2, cells := 0, slots := 0, locals := 44 } : Room) s m _ below meth c H locs 0 0 (MQ below (qI X (M, RR)) _ s 0 0 (hA X)) (F0 m 45 ls [.int s0, .int s1]) := by
          intro p0 p1 p2 p4 s0 s1 H locs ls hj hP hS hl
          unfold j_X6_lessThan_45 at hj
          refine lv_iadd hx hb dX6_lessThan_45 ?_
          refine lv_istore_n (lv' := [(3, .int (s1 + s0)), (0, .ref p0), (1, .int p1), (2, .int p2), (4, .int p4)]) hx hb dX6_lessThan_46 rfl hl (by decide) rfl (fun ls hl => ?_)
          refine lv_iinc (v := (p4 + (1 : Int32))) (lv' := [(4, .int (p4 + (1 : Int32))), (3, .int (s1 + s0)), (0, .ref p0), (1, .int p1), (2, .int p2)]) hx hb dX6_lessThan_47 hl (k := 4) rfl rfl (by decide) rfl (fun ls hl => ?_)
          refine lv_goto (tgt := 5) hx hb dX6_lessThan_50 (by decide) ?_
          exact ih_5 p0 p1 p2 (s1 + s0) (p4 + (1 : Int32)) H locs ls hj hP hS (lv_sub hl [2, 3, 4, 1, 0] rfl)
        have J_44 : ∀ (p0 : Nat) (p1 : Int32) (p2 : Int32) (p4 : Int32) (s0 : Int32) (H : Heap) (locs : List Loc) (ls : Array Slot), j_X6_lessThan_44 g (fun p0 p1 p2 p3 p4 => j_X6_lessThan_5 g M n5 p0 p1 p2 p3 p4) M p0 p1 p2 p4 s0 = some RR → hp X M H → va_S (hA X) s.heap H locs → lv_has ls 5 [(0, .ref p0), (1, .int p1), (2, .int p2), (4, .int p4)] → W p l e ({ frames := 2, cells := 0, slots := 0, locals := 44 } : Room) s m _ below meth c H locs 0 0 (MQ below (qI X (M, RR)) _ s 0 0 (hA X)) (F0 m 44 ls [.int s0]) := by
          intro p0 p1 p2 p4 s0 H locs ls hj hP hS hl
          unfold j_X6_lessThan_44 at hj
          refine lv_iconst (v := 0) hx hb dX6_lessThan_44 (by decide) ?_
          exact J_45 p0 p1 p2 p4 (0 : Int32) s0 H locs ls hj hP hS (lv_sub hl [0, 1, 2, 3] rfl)
        intro p0 p1 p2 p3 p4 H locs ls hj hP hS hl
        rw [j_X6_lessThan_5_s] at hj
        refine lv_iload hx hb dX6_lessThan_5 (lv_at hl 4 rfl) ?_
        refine lv_bipush (v := 16) hx hb dX6_lessThan_7 (by decide) ?_
        refine lv_icmp_ge (tgt := 53) hx hb dX6_lessThan_9 (by decide) (fun c1 => ?_) (fun c1 => ?_)
        · have hj := if_t c1 hj
          exact J_53 p3 H locs ls hj hP hS (lv_sub hl [3] rfl)
        · have hj := if_f c1 hj
          refine lv_iload_n hx hb dX6_lessThan_12 rfl (lv_at hl 3 rfl) ?_
          refine lv_aload_n hx hb dX6_lessThan_13 rfl (lv_at hl 0 rfl) ?_
          refine lv_iload_n hx hb dX6_lessThan_14 rfl (lv_at hl 1 rfl) ?_
          refine lv_iload hx hb dX6_lessThan_15 (lv_at hl 4 rfl) ?_
          obtain ⟨_, o2, hj⟩ := Option.bind_eq_some_iff.mp hj
          obtain ⟨v3, g_v3, hj⟩ := Option.bind_eq_some_iff.mp hj
          refine f_I (k_V (b := p0) (As := [.int p1, .int p4]) (n := 2) (rest := [.int p3]) cx hl.1 hP hS (c_X6_noX l X g M p0 p1 p4 v3 g_v3) o2 rfl mC_X6_noX mM_X6_140 mI_X6_noX mS_X6_noX mZ_X6 (by decide +kernel) ⟨Nat.le_of_ble_eq_true rfl, Nat.le_of_ble_eq_true rfl⟩ rfl rfl (Nat.le_of_ble_eq_true rfl) dX6_lessThan_17 ⟨Nat.le_of_ble_eq_true rfl, Nat.le_of_ble_eq_true rfl⟩) hS (fun H locs hP hS => ?_)
          have hP : hp X M H := hP
          refine W.eq (g2 := F0 m 20 ls [.int v3, .int p3]) rfl ?_
          refine W.widen (k := 0) (n := 0) (Nat.le_of_ble_eq_true rfl) (Nat.le_of_ble_eq_true rfl) ?_
          refine lv_if_ne (tgt := 44) hx hb dX6_lessThan_20 (by decide) (fun c4 => ?_) (fun c4 => ?_)
          · have hj := if_f c4 hj
            exact J_44 p0 p1 p2 p4 p3 H locs ls hj hP hS (lv_sub hl [0, 1, 2, 4] rfl)
          · have hj := if_t c4 hj
            refine lv_aload_n hx hb dX6_lessThan_23 rfl (lv_at hl 0 rfl) ?_
            refine lv_iload_n hx hb dX6_lessThan_24 rfl (lv_at hl 1 rfl) ?_
            refine lv_iload hx hb dX6_lessThan_25 (lv_at hl 4 rfl) ?_
            obtain ⟨_, o5, hj⟩ := Option.bind_eq_some_iff.mp hj
            obtain ⟨v6, g_v6, hj⟩ := Option.bind_eq_some_iff.mp hj
            refine f_D (k_V (b := p0) (As := [.int p1, .int p4]) (n := 2) (rest := [.int p3]) cx hl.1 hP hS (c_X6_x l X g M p0 p1 p4 v6 g_v6) o5 rfl mC_X6_x mM_X6_136 mI_X6_x mS_X6_x mZ_X6 (by decide +kernel) ⟨Nat.le_of_ble_eq_true rfl, Nat.le_of_ble_eq_true rfl⟩ rfl rfl (Nat.le_of_ble_eq_true rfl) dX6_lessThan_27 ⟨Nat.le_of_ble_eq_true rfl, Nat.le_of_ble_eq_true rfl⟩) hS (fun H locs hP hS => ?_)
            have hP : hp X M H := hP
            refine W.eq (g2 := F0 m 30 ls [.double v6, .int p3]) rfl ?_
            refine W.widen (k := 0) (n := 0) (Nat.le_of_ble_eq_true rfl) (Nat.le_of_ble_eq_true rfl) ?_
            refine lv_aload_n hx hb dX6_lessThan_30 rfl (lv_at hl 0 rfl) ?_
            refine lv_iload_n hx hb dX6_lessThan_31 rfl (lv_at hl 1 rfl) ?_
            refine lv_iload_n hx hb dX6_lessThan_32 rfl (lv_at hl 2 rfl) ?_
            obtain ⟨_, o7, hj⟩ := Option.bind_eq_some_iff.mp hj
            obtain ⟨v8, g_v8, hj⟩ := Option.bind_eq_some_iff.mp hj
            refine f_D (k_V (b := p0) (As := [.int p1, .int p2]) (n := 2) (rest := [.double v6, .int p3]) cx hl.1 hP hS (c_X6_x l X g M p0 p1 p2 v8 g_v8) o7 rfl mC_X6_x mM_X6_136 mI_X6_x mS_X6_x mZ_X6 (by decide +kernel) ⟨Nat.le_of_ble_eq_true rfl, Nat.le_of_ble_eq_true rfl⟩ rfl rfl (Nat.le_of_ble_eq_true rfl) dX6_lessThan_33 ⟨Nat.le_of_ble_eq_true rfl, Nat.le_of_ble_eq_true rfl⟩) hS (fun H locs hP hS => ?_)
            have hP : hp X M H := hP
            refine W.eq (g2 := F0 m 36 ls [.double v8, .double v6, .int p3]) rfl ?_
            refine W.widen (k := 0) (n := 0) (Nat.le_of_ble_eq_true rfl) (Nat.le_of_ble_eq_true rfl) ?_
            refine lv_dcmp hx hb dX6_lessThan_36 ?_
            refine lv_if_ge (tgt := 44) hx hb dX6_lessThan_37 (by decide) (fun c9 => ?_) (fun c9 => ?_)
            · have hj := if_t c9 hj
              exact J_44 p0 p1 p2 p4 p3 H locs ls hj hP hS (lv_sub hl [0, 1, 2, 4] rfl)
            · have hj := if_f c9 hj
              refine lv_iconst (v := 1) hx hb dX6_lessThan_40 (by decide) ?_
              refine lv_goto (tgt := 45) hx hb dX6_lessThan_41 (by decide) ?_
              exact J_45 p0 p1 p2 p4 (1 : Int32) p3 H locs ls hj hP hS (lv_sub hl [0, 1, 2, 4] rfl)
    intro H locs hP hS
    refine lv_iconst (v := 0) hx hb dX6_lessThan_0 (by decide) ?_
    refine lv_istore_n (lv' := [(3, .int (0 : Int32)), (0, .ref a0), (1, .int a1), (2, .int a2)]) hx hb dX6_lessThan_1 rfl hl (by decide) rfl (fun ls hl => ?_)
    refine lv_iconst (v := 0) hx hb dX6_lessThan_2 (by decide) ?_
    refine lv_istore (lv' := [(4, .int (0 : Int32)), (3, .int (0 : Int32)), (0, .ref a0), (1, .int a1), (2, .int a2)]) hx hb dX6_lessThan_3 hl (by decide) rfl (fun ls hl => ?_)
    exact L_5 g a0 a1 a2 (0 : Int32) (0 : Int32) H locs ls hj hP hS (lv_sub hl [2, 3, 4, 1, 0] rfl)
  exact hgo _ _ hP hS
set_option maxHeartbeats 4000000 in
set_option maxRecDepth 100000 in
theorem c_X6_manySo (l : Launch) (X : hX) (g : Nat) (M : hm) (a0 : Nat) (a1 : Int32) (a2 : Int32) (RR : Int32) (hj : j_X6_manySo g M a0 a1 a2 = some RR) : Ct l X yX6_manySo cX6_manySo 5 (some .int) { frames := 3, cells := 0, slots := 0, locals := 66 } [.ref a0, .int a1, .int a2] M (qI X (M, RR)) := by
  refine h_enter (own := RX6) (by decide) rfl (Nat.le_of_ble_eq_true rfl) ?_
  intro p e s m below meth c ls cx hr hlocks hnm hP hS hl
  have hx := cx.1
  have hb := cx.2.1
  have hl : lv_has ls 5 [(0, .ref a0), (1, .int a1), (2, .int a2)] := hl
  unfold j_X6_manySo at hj
  have hgo : ∀ (H : Heap) (locs : List Loc), hp X M H → va_S (hA X) s.heap H locs → W p l e ({ frames := 3, cells := 0, slots := 0, locals := 66 } : Room) s m _ below meth c H locs 0 0 (MQ below (qI X (M, RR)) _ s 0 0 (hA X)) (F0 m 0 ls []) := by
    have J_35 : ∀ (p3 : Int32) (H : Heap) (locs : List Loc) (ls : Array Slot), j_X6_manySo_35 g M p3 = some RR → hp X M H → va_S (hA X) s.heap H locs → lv_has ls 5 [(3, .int p3)] → W p l e ({ frames := 3, cells := 0, slots := 0, locals := 66 } : Room) s m _ below meth c H locs 0 0 (MQ below (qI X (M, RR)) _ s 0 0 (hA X)) (F0 m 35 ls []) := by
      intro p3 H locs ls hj hP hS hl
      unfold j_X6_manySo_35 at hj
      refine lv_iload_n hx hb dX6_manySo_35 rfl (lv_at hl 0 rfl) ?_
      exact t_I cx hr hlocks hP hS (congrArg (Prod.mk M) (Option.some.inj hj)) (Nat.le_of_ble_eq_true rfl) (Nat.le_of_ble_eq_true rfl) dX6_manySo_36
    have L_5 : ∀ (n5 : Nat) (p0 : Nat) (p1 : Int32) (p2 : Int32) (p3 : Int32) (p4 : Int32) (H : Heap) (locs : List Loc) (ls : Array Slot), j_X6_manySo_5 g M n5 p0 p1 p2 p3 p4 = some RR → hp X M H → va_S (hA X) s.heap H locs → lv_has ls 5 [(0, .ref p0), (1, .int p1), (2, .int p2), (3, .int p3), (4, .int p4)] → W p l e ({ frames := 3, cells := 0, slots := 0, locals := 66 } : Room) s m _ below meth c H locs 0 0 (MQ below (qI X (M, RR)) _ s 0 0 (hA X)) (F0 m 5 ls []) := by
      intro n5
      induction n5 with
      | zero =>
        intro p0 p1 p2 p3 p4 H locs ls hj
        exact no_zero hj
      | succ n5 ih_5 =>
        have J_27 : ∀ (p0 : Nat) (p1 : Int32) (p2 : Int32) (p4 : Int32) (s0 : Int32) (s1 : Int32) (H : Heap) (locs : List Loc) (ls : Array Slot), j_X6_manySo_27 g (fun p0 p1 p2 p3 p4 => j_X6_manySo_5 g M n5 p0 p1 p2 p3 p4) M p0 p1 p2 p4 s0 s1 = some RR → hp X M H → va_S (hA X) s.heap H locs → lv_has ls 5 [(0, .ref p0), (1, .int p1), (2, .int p2), (4, .int p4)] → W p l e ({ frames := 3, cells := 0, slots := 0, locals := 66 } : Room) s m _ below meth c H locs 0 0 (MQ below (qI X (M, RR)) _ s 0 0 (hA X)) (F0 m 27 ls [.int s0, .int s1]) := by
          intro p0 p1 p2 p4 s0 s1 H locs ls hj hP hS hl
          unfold j_X6_manySo_27 at hj
          refine lv_iadd hx hb dX6_manySo_27 ?_
          refine lv_istore_n (lv' := [(3, .int (s1 + s0)), (0, .ref p0), (1, .int p1), (2, .int p2), (4, .int p4)]) hx hb dX6_manySo_28 rfl hl (by decide) rfl (fun ls hl => ?_)
          refine lv_iinc (v := (p4 + (1 : Int32))) (lv' := [(4, .int (p4 + (1 : Int32))), (3, .int (s1 + s0)), (0, .ref p0), (1, .int p1), (2, .int p2)]) hx hb dX6_manySo_29 hl (k := 4) rfl rfl (by decide) rfl (fun ls hl => ?_)
          refine lv_goto (tgt := 5) hx hb dX6_manySo_32 (by decide) ?_
          exact ih_5 p0 p1 p2 (s1 + s0) (p4 + (1 : Int32)) H locs ls hj hP hS (lv_sub hl [2, 3, 4, 1, 0] rfl)
        intro p0 p1 p2 p3 p4 H locs ls hj hP hS hl
        rw [j_X6_manySo_5_s] at hj
        refine lv_iload hx hb dX6_manySo_5 (lv_at hl 4 rfl) ?_
        refine lv_iload_n hx hb dX6_manySo_7 rfl (lv_at hl 2 rfl) ?_
        refine lv_icmp_gt (tgt := 35) hx hb dX6_manySo_8 (by decide) (fun c1 => ?_) (fun c1 => ?_)
        · have hj := if_t c1 hj
          exact J_35 p3 H locs ls hj hP hS (lv_sub hl [3] rfl)
        · have hj := if_f c1 hj
          refine lv_iload_n hx hb dX6_manySo_11 rfl (lv_at hl 3 rfl) ?_
          refine lv_aload_n hx hb dX6_manySo_12 rfl (lv_at hl 0 rfl) ?_
          refine lv_iload_n hx hb dX6_manySo_13 rfl (lv_at hl 1 rfl) ?_
          refine lv_iload hx hb dX6_manySo_14 (lv_at hl 4 rfl) ?_
          obtain ⟨_, o2, hj⟩ := Option.bind_eq_some_iff.mp hj
          obtain ⟨v3, g_v3, hj⟩ := Option.bind_eq_some_iff.mp hj
          refine f_I (k_V (b := p0) (As := [.int p1, .int p4]) (n := 2) (rest := [.int p3]) cx hl.1 hP hS (c_X6_compares l X g M p0 p1 p4 v3 g_v3) o2 rfl mC_X6_compares mM_X6_158 mI_X6_compares mS_X6_compares mZ_X6 (by decide +kernel) ⟨Nat.le_of_ble_eq_true rfl, Nat.le_of_ble_eq_true rfl⟩ rfl rfl (Nat.le_of_ble_eq_true rfl) dX6_manySo_16 ⟨Nat.le_of_ble_eq_true rfl, Nat.le_of_ble_eq_true rfl⟩) hS (fun H locs hP hS => ?_)
          have hP : hp X M H := hP
          refine W.eq (g2 := F0 m 19 ls [.int v3, .int p3]) rfl ?_
          refine W.widen (k := 0) (n := 0) (Nat.le_of_ble_eq_true rfl) (Nat.le_of_ble_eq_true rfl) ?_
          refine lv_if_eq (tgt := 26) hx hb dX6_manySo_19 (by decide) (fun c4 => ?_) (fun c4 => ?_)
          · have hj := if_t c4 hj
            refine lv_iconst (v := 0) hx hb dX6_manySo_26 (by decide) ?_
            exact J_27 p0 p1 p2 p4 (0 : Int32) p3 H locs ls hj hP hS (lv_sub hl [0, 1, 2, 4] rfl)
          · have hj := if_f c4 hj
            refine lv_iconst (v := 1) hx hb dX6_manySo_22 (by decide) ?_
            refine lv_goto (tgt := 27) hx hb dX6_manySo_23 (by decide) ?_
            exact J_27 p0 p1 p2 p4 (1 : Int32) p3 H locs ls hj hP hS (lv_sub hl [0, 1, 2, 4] rfl)
    intro H locs hP hS
    refine lv_iconst (v := 0) hx hb dX6_manySo_0 (by decide) ?_
    refine lv_istore_n (lv' := [(3, .int (0 : Int32)), (0, .ref a0), (1, .int a1), (2, .int a2)]) hx hb dX6_manySo_1 rfl hl (by decide) rfl (fun ls hl => ?_)
    refine lv_iconst (v := 0) hx hb dX6_manySo_2 (by decide) ?_
    refine lv_istore (lv' := [(4, .int (0 : Int32)), (3, .int (0 : Int32)), (0, .ref a0), (1, .int a1), (2, .int a2)]) hx hb dX6_manySo_3 hl (by decide) rfl (fun ls hl => ?_)
    exact L_5 g a0 a1 a2 (0 : Int32) (0 : Int32) H locs ls hj hP hS (lv_sub hl [2, 3, 4, 1, 0] rfl)
  exact hgo _ _ hP hS
