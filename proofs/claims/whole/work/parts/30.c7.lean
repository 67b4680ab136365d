/-! the class: refusals and questions (made by wip/whole/c2.py) -/
set_option maxRecDepth 100000 in
theorem c_X7_requireArgument_1 {Z : ia_Z} {V : ia_H} {Q : ia_O → ia_Z → ia_H → Prop}    (q1 : Q (.inl none) Z V) : ia_K yX7_requireArgument cX7_requireArgument 1 none [(0, 1)] Z V 1 0 0 Q := by
  refine ia_start RX7 "requireArgument" ⟨by decide, rfl, rfl⟩ (Nat.le_of_ble_eq_true rfl) (ia_tg rfl) (fun X F M => ?_)
  show ia_G X 0 0 0 [(0, 1)] [] Z V
  refine ia_iload_n (pc := 0) F dX7_requireArgument_0 rfl ?_
  refine ia_if_ne (pc := 1) F 15 dX7_requireArgument_1 rfl (by omega) (fun _ => ?_) (fun h9 => absurd h9 (by omega))
  refine ia_return (pc := 15) F M (by decide) (by decide) dX7_requireArgument_15 ?_
  exact q1 
set_option maxRecDepth 100000 in
theorem c_X7_requireArgument_0 {Z : ia_Z} {V : ia_H} {Q : ia_O → ia_Z → ia_H → Prop}    (q1 : Q (.inr "java/lang/IllegalArgumentException") Z V) : ia_K yX7_requireArgument cX7_requireArgument 1 none [(0, 0)] Z V 6 1 6 Q := by
  refine ia_start RX7 "requireArgument" ⟨by decide, rfl, rfl⟩ (Nat.le_of_ble_eq_true rfl) (ia_tg rfl) (fun X F M => ?_)
  show ia_G X 0 0 0 [(0, 0)] [] Z V
  refine ia_iload_n (pc := 0) F dX7_requireArgument_0 rfl ?_
  refine ia_if_ne (pc := 1) F 15 dX7_requireArgument_1 rfl (by omega) (fun h9 => absurd h9 (by omega)) (fun _ => ?_)
  refine th_RX7_301_396_305 (pc := 4) F M dX7_requireArgument_4 dX7_requireArgument_7 dX7_requireArgument_8 dX7_requireArgument_11 dX7_requireArgument_14 ⟨by decide, by decide, by decide, by decide, by decide⟩ ?_
  exact q1
set_option maxRecDepth 100000 in
theorem c_X7_requireState_1 {Z : ia_Z} {V : ia_H} {Q : ia_O → ia_Z → ia_H → Prop}    (q1 : Q (.inl none) Z V) : ia_K yX7_requireState cX7_requireState 1 none [(0, 1)] Z V 1 0 0 Q := by
  refine ia_start RX7 "requireState" ⟨by decide, rfl, rfl⟩ (Nat.le_of_ble_eq_true rfl) (ia_tg rfl) (fun X F M => ?_)
  show ia_G X 0 0 0 [(0, 1)] [] Z V
  refine ia_iload_n (pc := 0) F dX7_requireState_0 rfl ?_
  refine ia_if_ne (pc := 1) F 15 dX7_requireState_1 rfl (by omega) (fun _ => ?_) (fun h9 => absurd h9 (by omega))
  refine ia_return (pc := 15) F M (by decide) (by decide) dX7_requireState_15 ?_
  exact q1 
set_option maxRecDepth 100000 in
theorem c_X7_requireState_0 {Z : ia_Z} {V : ia_H} {Q : ia_O → ia_Z → ia_H → Prop}    (q1 : Q (.inr "java/lang/IllegalStateException") Z V) : ia_K yX7_requireState cX7_requireState 1 none [(0, 0)] Z V 6 1 6 Q := by
  refine ia_start RX7 "requireState" ⟨by decide, rfl, rfl⟩ (Nat.le_of_ble_eq_true rfl) (ia_tg rfl) (fun X F M => ?_)
  show ia_G X 0 0 0 [(0, 0)] [] Z V
  refine ia_iload_n (pc := 0) F dX7_requireState_0 rfl ?_
  refine ia_if_ne (pc := 1) F 15 dX7_requireState_1 rfl (by omega) (fun h9 => absurd h9 (by omega)) (fun _ => ?_)
  refine th_RX7_315_398_319 (pc := 4) F M dX7_requireState_4 dX7_requireState_7 dX7_requireState_8 dX7_requireState_11 dX7_requireState_14 ⟨by decide, by decide, by decide, by decide, by decide⟩ ?_
  exact q1
set_option maxRecDepth 100000 in
theorem c_X7_requireIndex_1 {Z : ia_Z} {V : ia_H} {Q : ia_O → ia_Z → ia_H → Prop}    (q1 : Q (.inl none) Z V) : ia_K yX7_requireIndex cX7_requireIndex 1 none [(0, 1)] Z V 1 0 0 Q := by
  refine ia_start RX7 "requireIndex" ⟨by decide, rfl, rfl⟩ (Nat.le_of_ble_eq_true rfl) (ia_tg rfl) (fun X F M => ?_)
  show ia_G X 0 0 0 [(0, 1)] [] Z V
  refine ia_iload_n (pc := 0) F dX7_requireIndex_0 rfl ?_
  refine ia_if_ne (pc := 1) F 15 dX7_requireIndex_1 rfl (by omega) (fun _ => ?_) (fun h9 => absurd h9 (by omega))
  refine ia_return (pc := 15) F M (by decide) (by decide) dX7_requireIndex_15 ?_
  exact q1 
set_option maxRecDepth 100000 in
theorem c_X7_requireIndex_0 {Z : ia_Z} {V : ia_H} {Q : ia_O → ia_Z → ia_H → Prop}    (q1 : Q (.inr "java/lang/IndexOutOfBoundsException") Z V) : ia_K yX7_requireIndex cX7_requireIndex 1 none [(0, 0)] Z V 6 1 6 Q := by
  refine ia_start RX7 "requireIndex" ⟨by decide, rfl, rfl⟩ (Nat.le_of_ble_eq_true rfl) (ia_tg rfl) (fun X F M => ?_)
  show ia_G X 0 0 0 [(0, 0)] [] Z V
  refine ia_iload_n (pc := 0) F dX7_requireIndex_0 rfl ?_
  refine ia_if_ne (pc := 1) F 15 dX7_requireIndex_1 rfl (by omega) (fun h9 => absurd h9 (by omega)) (fun _ => ?_)
  refine th_RX7_400_402_404 (pc := 4) F M dX7_requireIndex_4 dX7_requireIndex_7 dX7_requireIndex_8 dX7_requireIndex_11 dX7_requireIndex_14 ⟨by decide, by decide, by decide, by decide, by decide⟩ ?_
  exact q1
set_option maxRecDepth 100000 in
theorem c_X7_requireElement_1 {Z : ia_Z} {V : ia_H} {Q : ia_O → ia_Z → ia_H → Prop}    (q1 : Q (.inl none) Z V) : ia_K yX7_requireElement cX7_requireElement 1 none [(0, 1)] Z V 1 0 0 Q := by
  refine ia_start RX7 "requireElement" ⟨by decide, rfl, rfl⟩ (Nat.le_of_ble_eq_true rfl) (ia_tg rfl) (fun X F M => ?_)
  show ia_G X 0 0 0 [(0, 1)] [] Z V
  refine ia_iload_n (pc := 0) F dX7_requireElement_0 rfl ?_
  refine ia_if_ne (pc := 1) F 15 dX7_requireElement_1 rfl (by omega) (fun _ => ?_) (fun h9 => absurd h9 (by omega))
  refine ia_return (pc := 15) F M (by decide) (by decide) dX7_requireElement_15 ?_
  exact q1 
set_option maxRecDepth 100000 in
theorem c_X7_requireElement_0 {Z : ia_Z} {V : ia_H} {Q : ia_O → ia_Z → ia_H → Prop}    (q1 : Q (.inr "java/util/NoSuchElementException") Z V) : ia_K yX7_requireElement cX7_requireElement 1 none [(0, 0)] Z V 6 1 6 Q := by
  refine ia_start RX7 "requireElement" ⟨by decide, rfl, rfl⟩ (Nat.le_of_ble_eq_true rfl) (ia_tg rfl) (fun X F M => ?_)
  show ia_G X 0 0 0 [(0, 0)] [] Z V
  refine ia_iload_n (pc := 0) F dX7_requireElement_0 rfl ?_
  refine ia_if_ne (pc := 1) F 15 dX7_requireElement_1 rfl (by omega) (fun h9 => absurd h9 (by omega)) (fun _ => ?_)
  refine th_RX7_405_407_409 (pc := 4) F M dX7_requireElement_4 dX7_requireElement_7 dX7_requireElement_8 dX7_requireElement_11 dX7_requireElement_14 ⟨by decide, by decide, by decide, by decide, by decide⟩ ?_
  exact q1
set_option maxRecDepth 100000 in
theorem c_X7_paper {Z : ia_Z} {V : ia_H} {Q : ia_O → ia_Z → ia_H → Prop} {σ : Nat → Int} {m : Int} (hZ : ZI Z) (hP : PI V) (hS : Sh 1 V σ) (hI : SI σ m)   (q1 : Q (.inl (some (0, (σ 2)))) Z V) : ia_K yX7_paper cX7_paper 1 (some .int) [(4, ((0 : Nat) : Int))] Z V 1 0 0 Q := by
  refine ia_start RX7 "paper" ⟨by decide, rfl, rfl⟩ (Nat.le_of_ble_eq_true rfl) (ia_tg rfl) (fun X F M => ?_)
  show ia_G X 0 0 0 [(4, ((0 : Nat) : Int))] [] Z V
  obtain ⟨s0, s1, s2, s3, s4, s5, s6, s7, s18, sb, sw, se, sp⟩ := id hI
  refine ia_aload_n (pc := 0) F dX7_paper_0 rfl ?_
  refine jg (pc := 1) F (z0 hZ) cls10 f10_0 (hP 0 0 1 rfl) il_RX7_12 dX7_paper_1 ?_
  refine jg (pc := 4) F (x := σ 2) (z1 hZ) cls9 f9_8 hS.f8 il_RX7_100 dX7_paper_4 ?_
  refine ia_ireturn (pc := 7) F M (by decide) (by decide) dX7_paper_7 ?_
  exact q1 
set_option maxRecDepth 100000 in
theorem c_X7_hour {Z : ia_Z} {V : ia_H} {Q : ia_O → ia_Z → ia_H → Prop} {σ : Nat → Int} {m : Int} (hZ : ZI Z) (hP : PI V) (hS : Sh 1 V σ) (hI : SI σ m)   (q1 : Q (.inl (some (0, (σ 3)))) Z V) : ia_K yX7_hour cX7_hour 1 (some .int) [(4, ((0 : Nat) : Int))] Z V 1 0 0 Q := by
  refine ia_start RX7 "hour" ⟨by decide, rfl, rfl⟩ (Nat.le_of_ble_eq_true rfl) (ia_tg rfl) (fun X F M => ?_)
  show ia_G X 0 0 0 [(4, ((0 : Nat) : Int))] [] Z V
  obtain ⟨s0, s1, s2, s3, s4, s5, s6, s7, s18, sb, sw, se, sp⟩ := id hI
  refine ia_aload_n (pc := 0) F dX7_hour_0 rfl ?_
  refine jg (pc := 1) F (z0 hZ) cls10 f10_0 (hP 0 0 1 rfl) il_RX7_12 dX7_hour_1 ?_
  refine jg (pc := 4) F (x := σ 3) (z1 hZ) cls9 f9_9 hS.f9 il_RX7_103 dX7_hour_4 ?_
  refine ia_ireturn (pc := 7) F M (by decide) (by decide) dX7_hour_7 ?_
  exact q1 
set_option maxRecDepth 100000 in
theorem c_X7_editionCount {Z : ia_Z} {V : ia_H} {Q : ia_O → ia_Z → ia_H → Prop} {σ : Nat → Int} {m : Int} (hZ : ZI Z) (hP : PI V) (hS : Sh 1 V σ) (hI : SI σ m)   (q1 : Q (.inl (some (0, (σ 0)))) Z V) : ia_K yX7_editionCount cX7_editionCount 1 (some .int) [(4, ((0 : Nat) : Int))] Z V 1 0 0 Q := by
  refine ia_start RX7 "editionCount" ⟨by decide, rfl, rfl⟩ (Nat.le_of_ble_eq_true rfl) (ia_tg rfl) (fun X F M => ?_)
  show ia_G X 0 0 0 [(4, ((0 : Nat) : Int))] [] Z V
  obtain ⟨s0, s1, s2, s3, s4, s5, s6, s7, s18, sb, sw, se, sp⟩ := id hI
  refine ia_aload_n (pc := 0) F dX7_editionCount_0 rfl ?_
  refine jg (pc := 1) F (z0 hZ) cls10 f10_0 (hP 0 0 1 rfl) il_RX7_12 dX7_editionCount_1 ?_
  refine jg (pc := 4) F (x := σ 0) (z1 hZ) cls9 f9_6 hS.f6 il_RX7_132 dX7_editionCount_4 ?_
  refine ia_ireturn (pc := 7) F M (by decide) (by decide) dX7_editionCount_7 ?_
  exact q1 
set_option maxRecDepth 100000 in
theorem c_X7_proofCount {Z : ia_Z} {V : ia_H} {Q : ia_O → ia_Z → ia_H → Prop} {σ : Nat → Int} {m : Int} (hZ : ZI Z) (hP : PI V) (hS : Sh 1 V σ) (hI : SI σ m)   (q1 : Q (.inl (some (0, (σ 1)))) Z V) : ia_K yX7_proofCount cX7_proofCount 1 (some .int) [(4, ((0 : Nat) : Int))] Z V 1 0 0 Q := by
  refine ia_start RX7 "proofCount" ⟨by decide, rfl, rfl⟩ (Nat.le_of_ble_eq_true rfl) (ia_tg rfl) (fun X F M => ?_)
  show ia_G X 0 0 0 [(4, ((0 : Nat) : Int))] [] Z V
  obtain ⟨s0, s1, s2, s3, s4, s5, s6, s7, s18, sb, sw, se, sp⟩ := id hI
  refine ia_aload_n (pc := 0) F dX7_proofCount_0 rfl ?_
  refine jg (pc := 1) F (z0 hZ) cls10 f10_0 (hP 0 0 1 rfl) il_RX7_12 dX7_proofCount_1 ?_
  refine jg (pc := 4) F (x := σ 1) (z1 hZ) cls9 f9_7 hS.f7 il_RX7_198 dX7_proofCount_4 ?_
  refine ia_ireturn (pc := 7) F M (by decide) (by decide) dX7_proofCount_7 ?_
  exact q1 
set_option maxRecDepth 100000 in
theorem c_X7_minutes {Z : ia_Z} {V : ia_H} {Q : ia_O → ia_Z → ia_H → Prop} {σ : Nat → Int} {m : Int} (hZ : ZI Z) (hP : PI V) (hS : Sh 1 V σ) (hI : SI σ m)   (q1 : Q (.inl (some (0, (σ 5)))) Z V) : ia_K yX7_minutes cX7_minutes 1 (some .int) [(4, ((0 : Nat) : Int))] Z V 1 0 0 Q := by
  refine ia_start RX7 "minutes" ⟨by decide, rfl, rfl⟩ (Nat.le_of_ble_eq_true rfl) (ia_tg rfl) (fun X F M => ?_)
  show ia_G X 0 0 0 [(4, ((0 : Nat) : Int))] [] Z V
  obtain ⟨s0, s1, s2, s3, s4, s5, s6, s7, s18, sb, sw, se, sp⟩ := id hI
  refine ia_aload_n (pc := 0) F dX7_minutes_0 rfl ?_
  refine jg (pc := 1) F (z0 hZ) cls10 f10_0 (hP 0 0 1 rfl) il_RX7_12 dX7_minutes_1 ?_
  refine jg (pc := 4) F (x := σ 5) (z1 hZ) cls9 f9_11 hS.f11 il_RX7_219 dX7_minutes_4 ?_
  refine ia_ireturn (pc := 7) F M (by decide) (by decide) dX7_minutes_7 ?_
  exact q1 
set_option maxRecDepth 100000 in
theorem c_X7_poured {Z : ia_Z} {V : ia_H} {Q : ia_O → ia_Z → ia_H → Prop} {σ : Nat → Int} {m : Int} (hZ : ZI Z) (hP : PI V) (hS : Sh 1 V σ) (hI : SI σ m)   (q1 : Q (.inl (some (0, (σ 6)))) Z V) : ia_K yX7_poured cX7_poured 1 (some .int) [(4, ((0 : Nat) : Int))] Z V 1 0 0 Q := by
  refine ia_start RX7 "poured" ⟨by decide, rfl, rfl⟩ (Nat.le_of_ble_eq_true rfl) (ia_tg rfl) (fun X F M => ?_)
  show ia_G X 0 0 0 [(4, ((0 : Nat) : Int))] [] Z V
  obtain ⟨s0, s1, s2, s3, s4, s5, s6, s7, s18, sb, sw, se, sp⟩ := id hI
  refine ia_aload_n (pc := 0) F dX7_poured_0 rfl ?_
  refine jg (pc := 1) F (z0 hZ) cls10 f10_0 (hP 0 0 1 rfl) il_RX7_12 dX7_poured_1 ?_
  refine jg (pc := 4) F (x := σ 6) (z1 hZ) cls9 f9_12 hS.f12 il_RX7_220 dX7_poured_4 ?_
  refine ia_ireturn (pc := 7) F M (by decide) (by decide) dX7_poured_7 ?_
  exact q1 
set_option maxRecDepth 100000 in
theorem c_X7_used {Z : ia_Z} {V : ia_H} {Q : ia_O → ia_Z → ia_H → Prop} {σ : Nat → Int} {m : Int} (hZ : ZI Z) (hP : PI V) (hS : Sh 1 V σ) (hI : SI σ m)   (q1 : Q (.inl (some (0, (σ 7)))) Z V) : ia_K yX7_used cX7_used 1 (some .int) [(4, ((0 : Nat) : Int))] Z V 1 0 0 Q := by
  refine ia_start RX7 "used" ⟨by decide, rfl, rfl⟩ (Nat.le_of_ble_eq_true rfl) (ia_tg rfl) (fun X F M => ?_)
  show ia_G X 0 0 0 [(4, ((0 : Nat) : Int))] [] Z V
  obtain ⟨s0, s1, s2, s3, s4, s5, s6, s7, s18, sb, sw, se, sp⟩ := id hI
  refine ia_aload_n (pc := 0) F dX7_used_0 rfl ?_
  refine jg (pc := 1) F (z0 hZ) cls10 f10_0 (hP 0 0 1 rfl) il_RX7_12 dX7_used_1 ?_
  refine jg (pc := 4) F (x := σ 7) (z1 hZ) cls9 f9_13 hS.f13 il_RX7_223 dX7_used_4 ?_
  refine ia_ireturn (pc := 7) F M (by decide) (by decide) dX7_used_7 ?_
  exact q1 
set_option maxRecDepth 100000 in
theorem c_X7_pressColour {Z : ia_Z} {V : ia_H} {Q : ia_O → ia_Z → ia_H → Prop} {σ : Nat → Int} {m : Int} (hZ : ZI Z) (hP : PI V) (hS : Sh 1 V σ) (hI : SI σ m)   (q1 : Q (.inl (some (0, (σ 4)))) Z V) : ia_K yX7_pressColour cX7_pressColour 1 (some .int) [(4, ((0 : Nat) : Int))] Z V 1 0 0 Q := by
  refine ia_start RX7 "pressColour" ⟨by decide, rfl, rfl⟩ (Nat.le_of_ble_eq_true rfl) (ia_tg rfl) (fun X F M => ?_)
  show ia_G X 0 0 0 [(4, ((0 : Nat) : Int))] [] Z V
  obtain ⟨s0, s1, s2, s3, s4, s5, s6, s7, s18, sb, sw, se, sp⟩ := id hI
  refine ia_aload_n (pc := 0) F dX7_pressColour_0 rfl ?_
  refine jg (pc := 1) F (z0 hZ) cls10 f10_0 (hP 0 0 1 rfl) il_RX7_12 dX7_pressColour_1 ?_
  refine jg (pc := 4) F (x := σ 4) (z1 hZ) cls9 f9_10 hS.f10 il_RX7_157 dX7_pressColour_4 ?_
  refine ia_ireturn (pc := 7) F M (by decide) (by decide) dX7_pressColour_7 ?_
  exact q1 
set_option maxRecDepth 100000 in
theorem c_X7_ink {Z : ia_Z} {V : ia_H} {Q : ia_O → ia_Z → ia_H → Prop} {σ : Nat → Int} {m : Int} (c : Int) (hZ : ZI Z) (hP : PI V) (hS : Sh 1 V σ) (hI : SI σ m)  (rc : -2147483648 ≤ c ∧ c ≤ 2147483647) (q1 : (0 ≤ c ∧ c ≤ 9) → Q (.inl (some (0, (wel σ c.toNat)))) Z V) (q2 : (¬ (0 ≤ c ∧ c ≤ 9)) → Q (.inr "java/lang/IllegalArgumentException") Z V) : ia_K yX7_ink cX7_ink 2 (some .int) [(4, ((0 : Nat) : Int)), (0, c)] Z V 8 1 6 Q := by
  refine ia_start RX7 "ink" ⟨by decide, rfl, rfl⟩ (Nat.le_of_ble_eq_true rfl) (ia_tg rfl) (fun X F M => ?_)
  show ia_G X 0 0 0 [(4, ((0 : Nat) : Int)), (0, c)] [] Z V
  obtain ⟨s0, s1, s2, s3, s4, s5, s6, s7, s18, sb, sw, se, sp⟩ := id hI
  refine ia_iload_n (pc := 0) F dX7_ink_0 rfl ?_
  refine jS (pc := 1) F 0 0 (c_X7_isColour c (by omega) (fun h_1 => ?_) (fun h_2 => ?_)) rfl ⟨k_X7_isColour, il_RX7_88, it_X7_isColour, ii_RX7⟩ rfl 1 rfl hd_X7_isColour ⟨by decide, by decide, by decide, by decide, Nat.le_of_ble_eq_true rfl⟩ dX7_ink_1
  · refine j1 ?_
    refine jS (pc := 4) F 0 0 (c_X7_requireArgument_1  ?_) rfl ⟨k_X7_requireArgument, il_RX7_92, it_X7_requireArgument, ii_RX7⟩ rfl 1 rfl hd_X7_requireArgument ⟨by decide, by decide, by decide, by decide, Nat.le_of_ble_eq_true rfl⟩ dX7_ink_4
    refine j0 ?_
    refine ia_aload_n (pc := 7) F dX7_ink_7 rfl ?_
    refine jg (pc := 8) F (z0 hZ) cls10 f10_0 (hP 0 0 1 rfl) il_RX7_12 dX7_ink_8 ?_
    refine jg (pc := 11) F (z1 hZ) cls9 f9_0 (hP 1 0 2 rfl) il_RX7_96 dX7_ink_11 ?_
    refine ia_iload_n (pc := 14) F dX7_ink_14 rfl ?_
    have r_3 := sw c.toNat (by omega)
    refine ja (pc := 15) F (v := wel σ c.toNat) (z2 hZ) c.toNat (by omega) (by omega) (hS.wel c.toNat (by omega)) dX7_ink_15 ?_
    refine ia_ireturn (pc := 16) F M (by decide) (by decide) dX7_ink_16 ?_
    first | exact q1 (by omega) | (exfalso; omega)
  · refine j1 ?_
    refine jS (pc := 4) F 1 6 (c_X7_requireArgument_0  ?_) rfl ⟨k_X7_requireArgument, il_RX7_92, it_X7_requireArgument, ii_RX7⟩ rfl 1 rfl hd_X7_requireArgument ⟨by decide, by decide, by decide, by decide, Nat.le_of_ble_eq_true rfl⟩ dX7_ink_4
    refine jx ?_
    refine ia_out F M (by decide) (by decide) ?_
    first | exact q2 (by omega) | (exfalso; omega)
set_option maxRecDepth 100000 in
theorem c_X7_inkAfter {Z : ia_Z} {V : ia_H} {Q : ia_O → ia_Z → ia_H → Prop} {σ : Nat → Int} {m : Int} (c : Int) (h : Int) (hZ : ZI Z) (hP : PI V) (hS : Sh 1 V σ) (hI : SI σ m)  (rc : -2147483648 ≤ c ∧ c ≤ 2147483647) (rh : -2147483648 ≤ h ∧ h ≤ 2147483647) (q1 : ((0 ≤ c ∧ c ≤ 9) ∧ (0 ≤ h ∧ h ≤ 99)) → Q (.inl (some (0, (la σ c.toNat h.toNat)))) Z V) (q2 : (¬ ((0 ≤ c ∧ c ≤ 9) ∧ (0 ≤ h ∧ h ≤ 99))) → Q (.inr "java/lang/IllegalArgumentException") Z V) : ia_K yX7_inkAfter cX7_inkAfter 3 (some .int) [(4, ((0 : Nat) : Int)), (0, c), (0, h)] Z V 8 1 6 Q := by
  refine ia_start RX7 "inkAfter" ⟨by decide, rfl, rfl⟩ (Nat.le_of_ble_eq_true rfl) (ia_tg rfl) (fun X F M => ?_)
  show ia_G X 0 0 0 [(4, ((0 : Nat) : Int)), (0, c), (0, h)] [] Z V
  obtain ⟨s0, s1, s2, s3, s4, s5, s6, s7, s18, sb, sw, se, sp⟩ := id hI
  refine ia_iload_n (pc := 0) F dX7_inkAfter_0 rfl ?_
  refine jS (pc := 1) F 0 0 (c_X7_isColour c (by omega) (fun h_1 => ?_) (fun h_2 => ?_)) rfl ⟨k_X7_isColour, il_RX7_88, it_X7_isColour, ii_RX7⟩ rfl 1 rfl hd_X7_isColour ⟨by decide, by decide, by decide, by decide, Nat.le_of_ble_eq_true rfl⟩ dX7_inkAfter_1
  · refine j1 ?_
    refine ia_if_eq (pc := 4) F 21 dX7_inkAfter_4 rfl (by omega) (fun h9 => absurd h9 (by omega)) (fun _ => ?_)
    refine ia_iload_n (pc := 7) F dX7_inkAfter_7 rfl ?_
    refine ia_iconst (pc := 8) F dX7_inkAfter_8 ?_
    refine ia_bipush (pc := 9) F dX7_inkAfter_9 (by decide) ?_
    refine jS (pc := 11) F 0 0 (c_X7_isWithin h 0 99 (by omega) (by omega) (by omega) (fun h_3 => ?_) (fun h_4 => ?_)) rfl ⟨k_X7_isWithin, il_RX7_106, it_X7_isWithin, ii_RX7⟩ rfl 3 rfl hd_X7_isWithin ⟨by decide, by decide, by decide, by decide, Nat.le_of_ble_eq_true rfl⟩ dX7_inkAfter_11
    · refine j1 ?_
      refine ia_if_eq (pc := 14) F 21 dX7_inkAfter_14 rfl (by omega) (fun h9 => absurd h9 (by omega)) (fun _ => ?_)
      refine ia_iconst (pc := 17) F dX7_inkAfter_17 ?_
      refine ia_goto (pc := 18) F 22 dX7_inkAfter_18 rfl ?_
      refine jS (pc := 22) F 0 0 (c_X7_requireArgument_1  ?_) rfl ⟨k_X7_requireArgument, il_RX7_92, it_X7_requireArgument, ii_RX7⟩ rfl 1 rfl hd_X7_requireArgument ⟨by decide, by decide, by decide, by decide, Nat.le_of_ble_eq_true rfl⟩ dX7_inkAfter_22
      refine j0 ?_
      refine ia_aload_n (pc := 25) F dX7_inkAfter_25 rfl ?_
      refine jg (pc := 26) F (z0 hZ) cls10 f10_0 (hP 0 0 1 rfl) il_RX7_12 dX7_inkAfter_26 ?_
      refine ia_iload_n (pc := 29) F dX7_inkAfter_29 rfl ?_
      refine ia_iload_n (pc := 30) F dX7_inkAfter_30 rfl ?_
      refine jV (pc := 31) F 0 0 (z1 hZ) cls9.1 (c_X6_inkHourByHour c h hZ hP hS hI (by omega) (by omega) ?_) rfl ⟨k_X6_inkHourByHour, il_RX7_110, im_X6_inkHourByHour, is_X6_inkHourByHour, ii_RX6⟩ 2 rfl hd_X6_inkHourByHour ⟨by decide, by decide, by decide, by decide, Nat.le_of_ble_eq_true rfl⟩ dX7_inkAfter_31
      refine j1 ?_
      refine ia_ireturn (pc := 34) F M (by decide) (by decide) dX7_inkAfter_34 ?_
      first | exact q1 (by omega) | (exfalso; omega)
    · refine j1 ?_
      refine ia_if_eq (pc := 14) F 21 dX7_inkAfter_14 rfl (by omega) (fun _ => ?_) (fun h9 => absurd h9 (by omega))
      refine ia_iconst (pc := 21) F dX7_inkAfter_21 ?_
      refine jS (pc := 22) F 1 6 (c_X7_requireArgument_0  ?_) rfl ⟨k_X7_requireArgument, il_RX7_92, it_X7_requireArgument, ii_RX7⟩ rfl 1 rfl hd_X7_requireArgument ⟨by decide, by decide, by decide, by decide, Nat.le_of_ble_eq_true rfl⟩ dX7_inkAfter_22
      refine jx ?_
      refine ia_out F M (by decide) (by decide) ?_
      first | exact q2 (by omega) | (exfalso; omega)
  · refine j1 ?_
    refine ia_if_eq (pc := 4) F 21 dX7_inkAfter_4 rfl (by omega) (fun _ => ?_) (fun h9 => absurd h9 (by omega))
    refine ia_iconst (pc := 21) F dX7_inkAfter_21 ?_
    refine jS (pc := 22) F 1 6 (c_X7_requireArgument_0  ?_) rfl ⟨k_X7_requireArgument, il_RX7_92, it_X7_requireArgument, ii_RX7⟩ rfl 1 rfl hd_X7_requireArgument ⟨by decide, by decide, by decide, by decide, Nat.le_of_ble_eq_true rfl⟩ dX7_inkAfter_22
    refine jx ?_
    refine ia_out F M (by decide) (by decide) ?_
    first | exact q2 (by omega) | (exfalso; omega)
set_option maxRecDepth 100000 in
theorem c_X7_inkByHalvings {Z : ia_Z} {V : ia_H} {Q : ia_O → ia_Z → ia_H → Prop} {σ : Nat → Int} {m : Int} (c : Int) (h : Int) (hZ : ZI Z) (hP : PI V) (hS : Sh 1 V σ) (hI : SI σ m)  (rc : -2147483648 ≤ c ∧ c ≤ 2147483647) (rh : -2147483648 ≤ h ∧ h ≤ 2147483647) (q1 : ((0 ≤ c ∧ c ≤ 9) ∧ (0 ≤ h ∧ h ≤ 99)) → Q (.inl (some (0, (la σ c.toNat h.toNat)))) Z V) (q2 : (¬ ((0 ≤ c ∧ c ≤ 9) ∧ (0 ≤ h ∧ h ≤ 99))) → Q (.inr "java/lang/IllegalArgumentException") Z V) : ia_K yX7_inkByHalvings cX7_inkByHalvings 3 (some .int) [(4, ((0 : Nat) : Int)), (0, c), (0, h)] Z V 8 1 6 Q := by
  refine ia_start RX7 "inkByHalvings" ⟨by decide, rfl, rfl⟩ (Nat.le_of_ble_eq_true rfl) (ia_tg rfl) (fun X F M => ?_)
  show ia_G X 0 0 0 [(4, ((0 : Nat) : Int)), (0, c), (0, h)] [] Z V
  obtain ⟨s0, s1, s2, s3, s4, s5, s6, s7, s18, sb, sw, se, sp⟩ := id hI
  refine ia_iload_n (pc := 0) F dX7_inkByHalvings_0 rfl ?_
  refine jS (pc := 1) F 0 0 (c_X7_isColour c (by omega) (fun h_1 => ?_) (fun h_2 => ?_)) rfl ⟨k_X7_isColour, il_RX7_88, it_X7_isColour, ii_RX7⟩ rfl 1 rfl hd_X7_isColour ⟨by decide, by decide, by decide, by decide, Nat.le_of_ble_eq_true rfl⟩ dX7_inkByHalvings_1
  · refine j1 ?_
    refine ia_if_eq (pc := 4) F 21 dX7_inkByHalvings_4 rfl (by omega) (fun h9 => absurd h9 (by omega)) (fun _ => ?_)
    refine ia_iload_n (pc := 7) F dX7_inkByHalvings_7 rfl ?_
    refine ia_iconst (pc := 8) F dX7_inkByHalvings_8 ?_
    refine ia_bipush (pc := 9) F dX7_inkByHalvings_9 (by decide) ?_
    refine jS (pc := 11) F 0 0 (c_X7_isWithin h 0 99 (by omega) (by omega) (by omega) (fun h_3 => ?_) (fun h_4 => ?_)) rfl ⟨k_X7_isWithin, il_RX7_106, it_X7_isWithin, ii_RX7⟩ rfl 3 rfl hd_X7_isWithin ⟨by decide, by decide, by decide, by decide, Nat.le_of_ble_eq_true rfl⟩ dX7_inkByHalvings_11
    · refine j1 ?_
      refine ia_if_eq (pc := 14) F 21 dX7_inkByHalvings_14 rfl (by omega) (fun h9 => absurd h9 (by omega)) (fun _ => ?_)
      refine ia_iconst (pc := 17) F dX7_inkByHalvings_17 ?_
      refine ia_goto (pc := 18) F 22 dX7_inkByHalvings_18 rfl ?_
      refine jS (pc := 22) F 0 0 (c_X7_requireArgument_1  ?_) rfl ⟨k_X7_requireArgument, il_RX7_92, it_X7_requireArgument, ii_RX7⟩ rfl 1 rfl hd_X7_requireArgument ⟨by decide, by decide, by decide, by decide, Nat.le_of_ble_eq_true rfl⟩ dX7_inkByHalvings_22
      refine j0 ?_
      refine ia_aload_n (pc := 25) F dX7_inkByHalvings_25 rfl ?_
      refine jg (pc := 26) F (z0 hZ) cls10 f10_0 (hP 0 0 1 rfl) il_RX7_12 dX7_inkByHalvings_26 ?_
      refine ia_iload_n (pc := 29) F dX7_inkByHalvings_29 rfl ?_
      refine ia_iload_n (pc := 30) F dX7_inkByHalvings_30 rfl ?_
      refine jV (pc := 31) F 0 0 (z1 hZ) cls9.1 (c_X6_inkHalved c h hZ hP hS hI (by omega) (by omega) ?_) rfl ⟨k_X6_inkHalved, il_RX7_114, im_X6_inkHalved, is_X6_inkHalved, ii_RX6⟩ 2 rfl hd_X6_inkHalved ⟨by decide, by decide, by decide, by decide, Nat.le_of_ble_eq_true rfl⟩ dX7_inkByHalvings_31
      refine j1 ?_
      refine ia_ireturn (pc := 34) F M (by decide) (by decide) dX7_inkByHalvings_34 ?_
      first | exact q1 (by omega) | (exfalso; omega)
    · refine j1 ?_
      refine ia_if_eq (pc := 14) F 21 dX7_inkByHalvings_14 rfl (by omega) (fun _ => ?_) (fun h9 => absurd h9 (by omega))
      refine ia_iconst (pc := 21) F dX7_inkByHalvings_21 ?_
      refine jS (pc := 22) F 1 6 (c_X7_requireArgument_0  ?_) rfl ⟨k_X7_requireArgument, il_RX7_92, it_X7_requireArgument, ii_RX7⟩ rfl 1 rfl hd_X7_requireArgument ⟨by decide, by decide, by decide, by decide, Nat.le_of_ble_eq_true rfl⟩ dX7_inkByHalvings_22
      refine jx ?_
      refine ia_out F M (by decide) (by decide) ?_
      first | exact q2 (by omega) | (exfalso; omega)
  · refine j1 ?_
    refine ia_if_eq (pc := 4) F 21 dX7_inkByHalvings_4 rfl (by omega) (fun _ => ?_) (fun h9 => absurd h9 (by omega))
    refine ia_iconst (pc := 21) F dX7_inkByHalvings_21 ?_
    refine jS (pc := 22) F 1 6 (c_X7_requireArgument_0  ?_) rfl ⟨k_X7_requireArgument, il_RX7_92, it_X7_requireArgument, ii_RX7⟩ rfl 1 rfl hd_X7_requireArgument ⟨by decide, by decide, by decide, by decide, Nat.le_of_ble_eq_true rfl⟩ dX7_inkByHalvings_22
    refine jx ?_
    refine ia_out F M (by decide) (by decide) ?_
    first | exact q2 (by omega) | (exfalso; omega)
set_option maxRecDepth 100000 in
theorem c_X7_hoursUntilLess {Z : ia_Z} {V : ia_H} {Q : ia_O → ia_Z → ia_H → Prop} {σ : Nat → Int} {m : Int} (c : Int) (u : Int) (hZ : ZI Z) (hP : PI V) (hS : Sh 1 V σ) (hI : SI σ m)  (rc : -2147483648 ≤ c ∧ c ≤ 2147483647) (ru : -2147483648 ≤ u ∧ u ≤ 2147483647) (q1 : ∀ (j : Nat), ((0 ≤ c ∧ c ≤ 9) ∧ (1 ≤ u ∧ u ≤ 999)) → (j < 101) → (∀ i, i < j → u ≤ la σ c.toNat i) → (la σ c.toNat j < u) → Q (.inl (some (0, (j : Int)))) Z V) (q2 : (¬ ((0 ≤ c ∧ c ≤ 9) ∧ (1 ≤ u ∧ u ≤ 999))) → Q (.inr "java/lang/IllegalArgumentException") Z V) : ia_K yX7_hoursUntilLess cX7_hoursUntilLess 3 (some .int) [(4, ((0 : Nat) : Int)), (0, c), (0, u)] Z V 8 1 6 Q := by
  refine ia_start RX7 "hoursUntilLess" ⟨by decide, rfl, rfl⟩ (Nat.le_of_ble_eq_true rfl) (ia_tg rfl) (fun X F M => ?_)
  show ia_G X 0 0 0 [(4, ((0 : Nat) : Int)), (0, c), (0, u)] [] Z V
  obtain ⟨s0, s1, s2, s3, s4, s5, s6, s7, s18, sb, sw, se, sp⟩ := id hI
  refine ia_iload_n (pc := 0) F dX7_hoursUntilLess_0 rfl ?_
  refine jS (pc := 1) F 0 0 (c_X7_isColour c (by omega) (fun h_1 => ?_) (fun h_2 => ?_)) rfl ⟨k_X7_isColour, il_RX7_88, it_X7_isColour, ii_RX7⟩ rfl 1 rfl hd_X7_isColour ⟨by decide, by decide, by decide, by decide, Nat.le_of_ble_eq_true rfl⟩ dX7_hoursUntilLess_1
  · refine j1 ?_
    refine ia_if_eq (pc := 4) F 22 dX7_hoursUntilLess_4 rfl (by omega) (fun h9 => absurd h9 (by omega)) (fun _ => ?_)
    refine ia_iload_n (pc := 7) F dX7_hoursUntilLess_7 rfl ?_
    refine ia_iconst (pc := 8) F dX7_hoursUntilLess_8 ?_
    refine ia_sipush (pc := 9) F dX7_hoursUntilLess_9 (by decide) ?_
    refine jS (pc := 12) F 0 0 (c_X7_isWithin u 1 999 (by omega) (by omega) (by omega) (fun h_3 => ?_) (fun h_4 => ?_)) rfl ⟨k_X7_isWithin, il_RX7_106, it_X7_isWithin, ii_RX7⟩ rfl 3 rfl hd_X7_isWithin ⟨by decide, by decide, by decide, by decide, Nat.le_of_ble_eq_true rfl⟩ dX7_hoursUntilLess_12
    · refine j1 ?_
      refine ia_if_eq (pc := 15) F 22 dX7_hoursUntilLess_15 rfl (by omega) (fun h9 => absurd h9 (by omega)) (fun _ => ?_)
      refine ia_iconst (pc := 18) F dX7_hoursUntilLess_18 ?_
      refine ia_goto (pc := 19) F 23 dX7_hoursUntilLess_19 rfl ?_
      refine jS (pc := 23) F 0 0 (c_X7_requireArgument_1  ?_) rfl ⟨k_X7_requireArgument, il_RX7_92, it_X7_requireArgument, ii_RX7⟩ rfl 1 rfl hd_X7_requireArgument ⟨by decide, by decide, by decide, by decide, Nat.le_of_ble_eq_true rfl⟩ dX7_hoursUntilLess_23
      refine j0 ?_
      refine ia_aload_n (pc := 26) F dX7_hoursUntilLess_26 rfl ?_
      refine jg (pc := 27) F (z0 hZ) cls10 f10_0 (hP 0 0 1 rfl) il_RX7_12 dX7_hoursUntilLess_27 ?_
      refine ia_iload_n (pc := 30) F dX7_hoursUntilLess_30 rfl ?_
      refine ia_iload_n (pc := 31) F dX7_hoursUntilLess_31 rfl ?_
      refine jV (pc := 32) F 0 0 (z1 hZ) cls9.1 (c_X6_hoursToFallBelow c u hZ hP hS hI (by omega) (by omega) (fun j_5 h_6 h_7 h_8 => ?_)) rfl ⟨k_X6_hoursToFallBelow, il_RX7_117, im_X6_hoursToFallBelow, is_X6_hoursToFallBelow, ii_RX6⟩ 2 rfl hd_X6_hoursToFallBelow ⟨by decide, by decide, by decide, by decide, Nat.le_of_ble_eq_true rfl⟩ dX7_hoursUntilLess_32
      refine j1 ?_
      refine ia_ireturn (pc := 35) F M (by decide) (by decide) dX7_hoursUntilLess_35 ?_
      exact q1 _ (by omega) (by omega) (by assumption) (by omega)
    · refine j1 ?_
      refine ia_if_eq (pc := 15) F 22 dX7_hoursUntilLess_15 rfl (by omega) (fun _ => ?_) (fun h9 => absurd h9 (by omega))
      refine ia_iconst (pc := 22) F dX7_hoursUntilLess_22 ?_
      refine jS (pc := 23) F 1 6 (c_X7_requireArgument_0  ?_) rfl ⟨k_X7_requireArgument, il_RX7_92, it_X7_requireArgument, ii_RX7⟩ rfl 1 rfl hd_X7_requireArgument ⟨by decide, by decide, by decide, by decide, Nat.le_of_ble_eq_true rfl⟩ dX7_hoursUntilLess_23
      refine jx ?_
      refine ia_out F M (by decide) (by decide) ?_
      first | exact q2 (by omega) | (exfalso; omega)
  · refine j1 ?_
    refine ia_if_eq (pc := 4) F 22 dX7_hoursUntilLess_4 rfl (by omega) (fun _ => ?_) (fun h9 => absurd h9 (by omega))
    refine ia_iconst (pc := 22) F dX7_hoursUntilLess_22 ?_
    refine jS (pc := 23) F 1 6 (c_X7_requireArgument_0  ?_) rfl ⟨k_X7_requireArgument, il_RX7_92, it_X7_requireArgument, ii_RX7⟩ rfl 1 rfl hd_X7_requireArgument ⟨by decide, by decide, by decide, by decide, Nat.le_of_ble_eq_true rfl⟩ dX7_hoursUntilLess_23
    refine jx ?_
    refine ia_out F M (by decide) (by decide) ?_
    first | exact q2 (by omega) | (exfalso; omega)
set_option maxRecDepth 100000 in
theorem c_X7_colourOf {Z : ia_Z} {V : ia_H} {Q : ia_O → ia_Z → ia_H → Prop} {σ : Nat → Int} {m : Int} (e : Int) (hZ : ZI Z) (hP : PI V) (hS : Sh 1 V σ) (hI : SI σ m)  (re : -2147483648 ≤ e ∧ e ≤ 2147483647) (q1 : (0 ≤ e ∧ e < σ 0) → Q (.inl (some (0, (col σ e.toNat)))) Z V) (q2 : (¬ (0 ≤ e ∧ e < σ 0)) → Q (.inr "java/lang/IndexOutOfBoundsException") Z V) : ia_K yX7_colourOf cX7_colourOf 2 (some .int) [(4, ((0 : Nat) : Int)), (0, e)] Z V 8 1 6 Q := by
  refine ia_start RX7 "colourOf" ⟨by decide, rfl, rfl⟩ (Nat.le_of_ble_eq_true rfl) (ia_tg rfl) (fun X F M => ?_)
  show ia_G X 0 0 0 [(4, ((0 : Nat) : Int)), (0, e)] [] Z V
  obtain ⟨s0, s1, s2, s3, s4, s5, s6, s7, s18, sb, sw, se, sp⟩ := id hI
  refine ia_aload_n (pc := 0) F dX7_colourOf_0 rfl ?_
  refine jg (pc := 1) F (z0 hZ) cls10 f10_0 (hP 0 0 1 rfl) il_RX7_12 dX7_colourOf_1 ?_
  refine ia_iload_n (pc := 4) F dX7_colourOf_4 rfl ?_
  refine jV (pc := 5) F 0 0 (z1 hZ) cls9.1 (c_X6_hasEdition e hZ hP hS hI (by omega) (fun h_1 => ?_) (fun h_2 => ?_)) rfl ⟨k_X6_hasEdition, il_RX7_135, im_X6_hasEdition, is_X6_hasEdition, ii_RX6⟩ 1 rfl hd_X6_hasEdition ⟨by decide, by decide, by decide, by decide, Nat.le_of_ble_eq_true rfl⟩ dX7_colourOf_5
  · refine j1 ?_
    refine jS (pc := 8) F 0 0 (c_X7_requireIndex_1  ?_) rfl ⟨k_X7_requireIndex, il_RX7_138, it_X7_requireIndex, ii_RX7⟩ rfl 1 rfl hd_X7_requireIndex ⟨by decide, by decide, by decide, by decide, Nat.le_of_ble_eq_true rfl⟩ dX7_colourOf_8
    refine j0 ?_
    refine ia_aload_n (pc := 11) F dX7_colourOf_11 rfl ?_
    refine jg (pc := 12) F (z0 hZ) cls10 f10_0 (hP 0 0 1 rfl) il_RX7_12 dX7_colourOf_12 ?_
    refine jg (pc := 15) F (z1 hZ) cls9 f9_1 (hP 1 1 3 rfl) il_RX7_141 dX7_colourOf_15 ?_
    refine ia_iload_n (pc := 18) F dX7_colourOf_18 rfl ?_
    have r_3 := se e.toNat (by omega)
    refine ja (pc := 19) F (v := col σ e.toNat) (z3 hZ) e.toNat (by omega) (by omega) (hS.col e.toNat (by omega)) dX7_colourOf_19 ?_
    refine ia_ireturn (pc := 20) F M (by decide) (by decide) dX7_colourOf_20 ?_
    first | exact q1 (by omega) | (exfalso; omega)
  · refine j1 ?_
    refine jS (pc := 8) F 1 6 (c_X7_requireIndex_0  ?_) rfl ⟨k_X7_requireIndex, il_RX7_138, it_X7_requireIndex, ii_RX7⟩ rfl 1 rfl hd_X7_requireIndex ⟨by decide, by decide, by decide, by decide, Nat.le_of_ble_eq_true rfl⟩ dX7_colourOf_8
    refine jx ?_
    refine ia_out F M (by decide) (by decide) ?_
    first | exact q2 (by omega) | (exfalso; omega)
set_option maxRecDepth 100000 in
theorem c_X7_runOf {Z : ia_Z} {V : ia_H} {Q : ia_O → ia_Z → ia_H → Prop} {σ : Nat → Int} {m : Int} (e : Int) (hZ : ZI Z) (hP : PI V) (hS : Sh 1 V σ) (hI : SI σ m)  (re : -2147483648 ≤ e ∧ e ≤ 2147483647) (q1 : (0 ≤ e ∧ e < σ 0) → Q (.inl (some (0, (run σ e.toNat)))) Z V) (q2 : (¬ (0 ≤ e ∧ e < σ 0)) → Q (.inr "java/lang/IndexOutOfBoundsException") Z V) : ia_K yX7_runOf cX7_runOf 2 (some .int) [(4, ((0 : Nat) : Int)), (0, e)] Z V 8 1 6 Q := by
  refine ia_start RX7 "runOf" ⟨by decide, rfl, rfl⟩ (Nat.le_of_ble_eq_true rfl) (ia_tg rfl) (fun X F M => ?_)
  show ia_G X 0 0 0 [(4, ((0 : Nat) : Int)), (0, e)] [] Z V
  obtain ⟨s0, s1, s2, s3, s4, s5, s6, s7, s18, sb, sw, se, sp⟩ := id hI
  refine ia_aload_n (pc := 0) F dX7_runOf_0 rfl ?_
  refine jg (pc := 1) F (z0 hZ) cls10 f10_0 (hP 0 0 1 rfl) il_RX7_12 dX7_runOf_1 ?_
  refine ia_iload_n (pc := 4) F dX7_runOf_4 rfl ?_
  refine jV (pc := 5) F 0 0 (z1 hZ) cls9.1 (c_X6_hasEdition e hZ hP hS hI (by omega) (fun h_1 => ?_) (fun h_2 => ?_)) rfl ⟨k_X6_hasEdition, il_RX7_135, im_X6_hasEdition, is_X6_hasEdition, ii_RX6⟩ 1 rfl hd_X6_hasEdition ⟨by decide, by decide, by decide, by decide, Nat.le_of_ble_eq_true rfl⟩ dX7_runOf_5
  · refine j1 ?_
    refine jS (pc := 8) F 0 0 (c_X7_requireIndex_1  ?_) rfl ⟨k_X7_requireIndex, il_RX7_138, it_X7_requireIndex, ii_RX7⟩ rfl 1 rfl hd_X7_requireIndex ⟨by decide, by decide, by decide, by decide, Nat.le_of_ble_eq_true rfl⟩ dX7_runOf_8
    refine j0 ?_
    refine ia_aload_n (pc := 11) F dX7_runOf_11 rfl ?_
    refine jg (pc := 12) F (z0 hZ) cls10 f10_0 (hP 0 0 1 rfl) il_RX7_12 dX7_runOf_12 ?_
    refine jg (pc := 15) F (z1 hZ) cls9 f9_2 (hP 1 2 4 rfl) il_RX7_144 dX7_runOf_15 ?_
    refine ia_iload_n (pc := 18) F dX7_runOf_18 rfl ?_
    have r_3 := se e.toNat (by omega)
    refine ja (pc := 19) F (v := run σ e.toNat) (z4 hZ) e.toNat (by omega) (by omega) (hS.run e.toNat (by omega)) dX7_runOf_19 ?_
    refine ia_ireturn (pc := 20) F M (by decide) (by decide) dX7_runOf_20 ?_
    first | exact q1 (by omega) | (exfalso; omega)
  · refine j1 ?_
    refine jS (pc := 8) F 1 6 (c_X7_requireIndex_0  ?_) rfl ⟨k_X7_requireIndex, il_RX7_138, it_X7_requireIndex, ii_RX7⟩ rfl 1 rfl hd_X7_requireIndex ⟨by decide, by decide, by decide, by decide, Nat.le_of_ble_eq_true rfl⟩ dX7_runOf_8
    refine jx ?_
    refine ia_out F M (by decide) (by decide) ?_
    first | exact q2 (by omega) | (exfalso; omega)
set_option maxRecDepth 100000 in
theorem c_X7_printedOf {Z : ia_Z} {V : ia_H} {Q : ia_O → ia_Z → ia_H → Prop} {σ : Nat → Int} {m : Int} (e : Int) (hZ : ZI Z) (hP : PI V) (hS : Sh 1 V σ) (hI : SI σ m)  (re : -2147483648 ≤ e ∧ e ≤ 2147483647) (q1 : (0 ≤ e ∧ e < σ 0) → Q (.inl (some (0, (prt σ e.toNat)))) Z V) (q2 : (¬ (0 ≤ e ∧ e < σ 0)) → Q (.inr "java/lang/IndexOutOfBoundsException") Z V) : ia_K yX7_printedOf cX7_printedOf 2 (some .int) [(4, ((0 : Nat) : Int)), (0, e)] Z V 8 1 6 Q := by
  refine ia_start RX7 "printedOf" ⟨by decide, rfl, rfl⟩ (Nat.le_of_ble_eq_true rfl) (ia_tg rfl) (fun X F M => ?_)
  show ia_G X 0 0 0 [(4, ((0 : Nat) : Int)), (0, e)] [] Z V
  obtain ⟨s0, s1, s2, s3, s4, s5, s6, s7, s18, sb, sw, se, sp⟩ := id hI
  refine ia_aload_n (pc := 0) F dX7_printedOf_0 rfl ?_
  refine jg (pc := 1) F (z0 hZ) cls10 f10_0 (hP 0 0 1 rfl) il_RX7_12 dX7_printedOf_1 ?_
  refine ia_iload_n (pc := 4) F dX7_printedOf_4 rfl ?_
  refine jV (pc := 5) F 0 0 (z1 hZ) cls9.1 (c_X6_hasEdition e hZ hP hS hI (by omega) (fun h_1 => ?_) (fun h_2 => ?_)) rfl ⟨k_X6_hasEdition, il_RX7_135, im_X6_hasEdition, is_X6_hasEdition, ii_RX6⟩ 1 rfl hd_X6_hasEdition ⟨by decide, by decide, by decide, by decide, Nat.le_of_ble_eq_true rfl⟩ dX7_printedOf_5
  · refine j1 ?_
    refine jS (pc := 8) F 0 0 (c_X7_requireIndex_1  ?_) rfl ⟨k_X7_requireIndex, il_RX7_138, it_X7_requireIndex, ii_RX7⟩ rfl 1 rfl hd_X7_requireIndex ⟨by decide, by decide, by decide, by decide, Nat.le_of_ble_eq_true rfl⟩ dX7_printedOf_8
    refine j0 ?_
    refine ia_aload_n (pc := 11) F dX7_printedOf_11 rfl ?_
    refine jg (pc := 12) F (z0 hZ) cls10 f10_0 (hP 0 0 1 rfl) il_RX7_12 dX7_printedOf_12 ?_
    refine jg (pc := 15) F (z1 hZ) cls9 f9_3 (hP 1 3 5 rfl) il_RX7_147 dX7_printedOf_15 ?_
    refine ia_iload_n (pc := 18) F dX7_printedOf_18 rfl ?_
    have r_3 := se e.toNat (by omega)
    refine ja (pc := 19) F (v := prt σ e.toNat) (z5 hZ) e.toNat (by omega) (by omega) (hS.prt e.toNat (by omega)) dX7_printedOf_19 ?_
    refine ia_ireturn (pc := 20) F M (by decide) (by decide) dX7_printedOf_20 ?_
    first | exact q1 (by omega) | (exfalso; omega)
  · refine j1 ?_
    refine jS (pc := 8) F 1 6 (c_X7_requireIndex_0  ?_) rfl ⟨k_X7_requireIndex, il_RX7_138, it_X7_requireIndex, ii_RX7⟩ rfl 1 rfl hd_X7_requireIndex ⟨by decide, by decide, by decide, by decide, Nat.le_of_ble_eq_true rfl⟩ dX7_printedOf_8
    refine jx ?_
    refine ia_out F M (by decide) (by decide) ?_
    first | exact q2 (by omega) | (exfalso; omega)
set_option maxRecDepth 100000 in
theorem c_X7_marksOf {Z : ia_Z} {V : ia_H} {Q : ia_O → ia_Z → ia_H → Prop} {σ : Nat → Int} {m : Int} (p : Int) (hZ : ZI Z) (hP : PI V) (hS : Sh 1 V σ) (hI : SI σ m)  (rp : -2147483648 ≤ p ∧ p ≤ 2147483647) (q1 : (0 ≤ p ∧ p < σ 1) → Q (.inl (some (0, (mrk σ p.toNat)))) Z V) (q2 : (¬ (0 ≤ p ∧ p < σ 1)) → Q (.inr "java/lang/IndexOutOfBoundsException") Z V) : ia_K yX7_marksOf cX7_marksOf 2 (some .int) [(4, ((0 : Nat) : Int)), (0, p)] Z V 8 1 6 Q := by
  refine ia_start RX7 "marksOf" ⟨by decide, rfl, rfl⟩ (Nat.le_of_ble_eq_true rfl) (ia_tg rfl) (fun X F M => ?_)
  show ia_G X 0 0 0 [(4, ((0 : Nat) : Int)), (0, p)] [] Z V
  obtain ⟨s0, s1, s2, s3, s4, s5, s6, s7, s18, sb, sw, se, sp⟩ := id hI
  refine ia_aload_n (pc := 0) F dX7_marksOf_0 rfl ?_
  refine jg (pc := 1) F (z0 hZ) cls10 f10_0 (hP 0 0 1 rfl) il_RX7_12 dX7_marksOf_1 ?_
  refine ia_iload_n (pc := 4) F dX7_marksOf_4 rfl ?_
  refine jV (pc := 5) F 0 0 (z1 hZ) cls9.1 (c_X6_hasProof p hZ hP hS hI (by omega) (fun h_1 => ?_) (fun h_2 => ?_)) rfl ⟨k_X6_hasProof, il_RX7_201, im_X6_hasProof, is_X6_hasProof, ii_RX6⟩ 1 rfl hd_X6_hasProof ⟨by decide, by decide, by decide, by decide, Nat.le_of_ble_eq_true rfl⟩ dX7_marksOf_5
  · refine j1 ?_
    refine jS (pc := 8) F 0 0 (c_X7_requireIndex_1  ?_) rfl ⟨k_X7_requireIndex, il_RX7_138, it_X7_requireIndex, ii_RX7⟩ rfl 1 rfl hd_X7_requireIndex ⟨by decide, by decide, by decide, by decide, Nat.le_of_ble_eq_true rfl⟩ dX7_marksOf_8
    refine j0 ?_
    refine ia_aload_n (pc := 11) F dX7_marksOf_11 rfl ?_
    refine jg (pc := 12) F (z0 hZ) cls10 f10_0 (hP 0 0 1 rfl) il_RX7_12 dX7_marksOf_12 ?_
    refine jg (pc := 15) F (z1 hZ) cls9 f9_4 (hP 1 4 6 rfl) il_RX7_204 dX7_marksOf_15 ?_
    refine ia_iload_n (pc := 18) F dX7_marksOf_18 rfl ?_
    have r_3 := sp p.toNat (by omega)
    refine ja (pc := 19) F (v := mrk σ p.toNat) (z6 hZ) p.toNat (by omega) (by omega) (hS.mrk p.toNat (by omega)) dX7_marksOf_19 ?_
    refine ia_ireturn (pc := 20) F M (by decide) (by decide) dX7_marksOf_20 ?_
    first | exact q1 (by omega) | (exfalso; omega)
  · refine j1 ?_
    refine jS (pc := 8) F 1 6 (c_X7_requireIndex_0  ?_) rfl ⟨k_X7_requireIndex, il_RX7_138, it_X7_requireIndex, ii_RX7⟩ rfl 1 rfl hd_X7_requireIndex ⟨by decide, by decide, by decide, by decide, Nat.le_of_ble_eq_true rfl⟩ dX7_marksOf_8
    refine jx ?_
    refine ia_out F M (by decide) (by decide) ?_
    first | exact q2 (by omega) | (exfalso; omega)
set_option maxRecDepth 100000 in
theorem c_X7_hourOf {Z : ia_Z} {V : ia_H} {Q : ia_O → ia_Z → ia_H → Prop} {σ : Nat → Int} {m : Int} (p : Int) (hZ : ZI Z) (hP : PI V) (hS : Sh 1 V σ) (hI : SI σ m)  (rp : -2147483648 ≤ p ∧ p ≤ 2147483647) (q1 : (0 ≤ p ∧ p < σ 1) → Q (.inl (some (0, (mad σ p.toNat)))) Z V) (q2 : (¬ (0 ≤ p ∧ p < σ 1)) → Q (.inr "java/lang/IndexOutOfBoundsException") Z V) : ia_K yX7_hourOf cX7_hourOf 2 (some .int) [(4, ((0 : Nat) : Int)), (0, p)] Z V 8 1 6 Q := by
  refine ia_start RX7 "hourOf" ⟨by decide, rfl, rfl⟩ (Nat.le_of_ble_eq_true rfl) (ia_tg rfl) (fun X F M => ?_)
  show ia_G X 0 0 0 [(4, ((0 : Nat) : Int)), (0, p)] [] Z V
  obtain ⟨s0, s1, s2, s3, s4, s5, s6, s7, s18, sb, sw, se, sp⟩ := id hI
  refine ia_aload_n (pc := 0) F dX7_hourOf_0 rfl ?_
  refine jg (pc := 1) F (z0 hZ) cls10 f10_0 (hP 0 0 1 rfl) il_RX7_12 dX7_hourOf_1 ?_
  refine ia_iload_n (pc := 4) F dX7_hourOf_4 rfl ?_
  refine jV (pc := 5) F 0 0 (z1 hZ) cls9.1 (c_X6_hasProof p hZ hP hS hI (by omega) (fun h_1 => ?_) (fun h_2 => ?_)) rfl ⟨k_X6_hasProof, il_RX7_201, im_X6_hasProof, is_X6_hasProof, ii_RX6⟩ 1 rfl hd_X6_hasProof ⟨by decide, by decide, by decide, by decide, Nat.le_of_ble_eq_true rfl⟩ dX7_hourOf_5
  · refine j1 ?_
    refine jS (pc := 8) F 0 0 (c_X7_requireIndex_1  ?_) rfl ⟨k_X7_requireIndex, il_RX7_138, it_X7_requireIndex, ii_RX7⟩ rfl 1 rfl hd_X7_requireIndex ⟨by decide, by decide, by decide, by decide, Nat.le_of_ble_eq_true rfl⟩ dX7_hourOf_8
    refine j0 ?_
    refine ia_aload_n (pc := 11) F dX7_hourOf_11 rfl ?_
    refine jg (pc := 12) F (z0 hZ) cls10 f10_0 (hP 0 0 1 rfl) il_RX7_12 dX7_hourOf_12 ?_
    refine jg (pc := 15) F (z1 hZ) cls9 f9_5 (hP 1 5 7 rfl) il_RX7_207 dX7_hourOf_15 ?_
    refine ia_iload_n (pc := 18) F dX7_hourOf_18 rfl ?_
    have r_3 := sp p.toNat (by omega)
    refine ja (pc := 19) F (v := mad σ p.toNat) (z7 hZ) p.toNat (by omega) (by omega) (hS.mad p.toNat (by omega)) dX7_hourOf_19 ?_
    refine ia_ireturn (pc := 20) F M (by decide) (by decide) dX7_hourOf_20 ?_
    first | exact q1 (by omega) | (exfalso; omega)
  · refine j1 ?_
    refine jS (pc := 8) F 1 6 (c_X7_requireIndex_0  ?_) rfl ⟨k_X7_requireIndex, il_RX7_138, it_X7_requireIndex, ii_RX7⟩ rfl 1 rfl hd_X7_requireIndex ⟨by decide, by decide, by decide, by decide, Nat.le_of_ble_eq_true rfl⟩ dX7_hourOf_8
    refine jx ?_
    refine ia_out F M (by decide) (by decide) ?_
    first | exact q2 (by omega) | (exfalso; omega)
set_option maxRecDepth 100000 in
theorem c_X7_isComplete {Z : ia_Z} {V : ia_H} {Q : ia_O → ia_Z → ia_H → Prop} {σ : Nat → Int} {m : Int} (e : Int) (hZ : ZI Z) (hP : PI V) (hS : Sh 1 V σ) (hI : SI σ m)  (re : -2147483648 ≤ e ∧ e ≤ 2147483647) (q1 : (0 ≤ e ∧ e < σ 0) → (miss σ e.toNat = 0) → Q (.inl (some (0, 1))) Z V) (q2 : (0 ≤ e ∧ e < σ 0) → (¬ miss σ e.toNat = 0) → Q (.inl (some (0, 0))) Z V) (q3 : (¬ (0 ≤ e ∧ e < σ 0)) → Q (.inr "java/lang/IndexOutOfBoundsException") Z V) : ia_K yX7_isComplete cX7_isComplete 2 (some .boolean) [(4, ((0 : Nat) : Int)), (0, e)] Z V 8 1 6 Q := by
  refine ia_start RX7 "isComplete" ⟨by decide, rfl, rfl⟩ (Nat.le_of_ble_eq_true rfl) (ia_tg rfl) (fun X F M => ?_)
  show ia_G X 0 0 0 [(4, ((0 : Nat) : Int)), (0, e)] [] Z V
  obtain ⟨s0, s1, s2, s3, s4, s5, s6, s7, s18, sb, sw, se, sp⟩ := id hI
  refine ia_aload_n (pc := 0) F dX7_isComplete_0 rfl ?_
  refine jg (pc := 1) F (z0 hZ) cls10 f10_0 (hP 0 0 1 rfl) il_RX7_12 dX7_isComplete_1 ?_
  refine ia_iload_n (pc := 4) F dX7_isComplete_4 rfl ?_
  refine jV (pc := 5) F 0 0 (z1 hZ) cls9.1 (c_X6_hasEdition e hZ hP hS hI (by omega) (fun h_1 => ?_) (fun h_2 => ?_)) rfl ⟨k_X6_hasEdition, il_RX7_135, im_X6_hasEdition, is_X6_hasEdition, ii_RX6⟩ 1 rfl hd_X6_hasEdition ⟨by decide, by decide, by decide, by decide, Nat.le_of_ble_eq_true rfl⟩ dX7_isComplete_5
  · refine j1 ?_
    refine jS (pc := 8) F 0 0 (c_X7_requireIndex_1  ?_) rfl ⟨k_X7_requireIndex, il_RX7_138, it_X7_requireIndex, ii_RX7⟩ rfl 1 rfl hd_X7_requireIndex ⟨by decide, by decide, by decide, by decide, Nat.le_of_ble_eq_true rfl⟩ dX7_isComplete_8
    refine j0 ?_
    refine ia_aload_n (pc := 11) F dX7_isComplete_11 rfl ?_
    refine jg (pc := 12) F (z0 hZ) cls10 f10_0 (hP 0 0 1 rfl) il_RX7_12 dX7_isComplete_12 ?_
    refine ia_iload_n (pc := 15) F dX7_isComplete_15 rfl ?_
    refine jV (pc := 16) F 0 0 (z1 hZ) cls9.1 (c_X6_missing e hZ hP hS hI (by omega) ?_) rfl ⟨k_X6_missing, il_RX7_150, im_X6_missing, is_X6_missing, ii_RX6⟩ 1 rfl hd_X6_missing ⟨by decide, by decide, by decide, by decide, Nat.le_of_ble_eq_true rfl⟩ dX7_isComplete_16
    refine j1 ?_
    have r9 := se e.toNat (by omega)
    have r8 : miss σ e.toNat = run σ e.toNat - prt σ e.toNat := rfl
    refine ia_if_ne (pc := 19) F 26 dX7_isComplete_19 rfl (by omega) (fun h_3 => ?_) (fun h_3 => ?_)
    · refine ia_iconst (pc := 26) F dX7_isComplete_26 ?_
      refine ia_zreturn (pc := 27) F M (Or.inl rfl) (by decide) (by decide) dX7_isComplete_27 ?_
      first | exact q2 (by omega) (by omega) | (exfalso; omega)
    · refine ia_iconst (pc := 22) F dX7_isComplete_22 ?_
      refine ia_goto (pc := 23) F 27 dX7_isComplete_23 rfl ?_
      refine ia_zreturn (pc := 27) F M (Or.inr rfl) (by decide) (by decide) dX7_isComplete_27 ?_
      first | exact q1 (by omega) (by omega) | (exfalso; omega)
  · refine j1 ?_
    refine jS (pc := 8) F 1 6 (c_X7_requireIndex_0  ?_) rfl ⟨k_X7_requireIndex, il_RX7_138, it_X7_requireIndex, ii_RX7⟩ rfl 1 rfl hd_X7_requireIndex ⟨by decide, by decide, by decide, by decide, Nat.le_of_ble_eq_true rfl⟩ dX7_isComplete_8
    refine jx ?_
    refine ia_out F M (by decide) (by decide) ?_
    first | exact q3 (by omega) | (exfalso; omega)
set_option maxRecDepth 100000 in
theorem c_X7_changeMinutes {Z : ia_Z} {V : ia_H} {Q : ia_O → ia_Z → ia_H → Prop} {σ : Nat → Int} {m : Int} (a : Int) (b : Int) (hZ : ZI Z) (hP : PI V) (hS : Sh 1 V σ) (hI : SI σ m)  (ra : -2147483648 ≤ a ∧ a ≤ 2147483647) (rb : -2147483648 ≤ b ∧ b ≤ 2147483647) (q1 : ((0 ≤ a ∧ a ≤ 9) ∧ (0 ≤ b ∧ b ≤ 9)) → Q (.inl (some (0, (wash a b)))) Z V) (q2 : (¬ ((0 ≤ a ∧ a ≤ 9) ∧ (0 ≤ b ∧ b ≤ 9))) → Q (.inr "java/lang/IllegalArgumentException") Z V) : ia_K yX7_changeMinutes cX7_changeMinutes 3 (some .int) [(4, ((0 : Nat) : Int)), (0, a), (0, b)] Z V 8 1 6 Q := by
  refine ia_start RX7 "changeMinutes" ⟨by decide, rfl, rfl⟩ (Nat.le_of_ble_eq_true rfl) (ia_tg rfl) (fun X F M => ?_)
  show ia_G X 0 0 0 [(4, ((0 : Nat) : Int)), (0, a), (0, b)] [] Z V
  obtain ⟨s0, s1, s2, s3, s4, s5, s6, s7, s18, sb, sw, se, sp⟩ := id hI
  refine ia_iload_n (pc := 0) F dX7_changeMinutes_0 rfl ?_
  refine jS (pc := 1) F 0 0 (c_X7_isColour a (by omega) (fun h_1 => ?_) (fun h_2 => ?_)) rfl ⟨k_X7_isColour, il_RX7_88, it_X7_isColour, ii_RX7⟩ rfl 1 rfl hd_X7_isColour ⟨by decide, by decide, by decide, by decide, Nat.le_of_ble_eq_true rfl⟩ dX7_changeMinutes_1
  · refine j1 ?_
    refine ia_if_eq (pc := 4) F 18 dX7_changeMinutes_4 rfl (by omega) (fun h9 => absurd h9 (by omega)) (fun _ => ?_)
    refine ia_iload_n (pc := 7) F dX7_changeMinutes_7 rfl ?_
    refine jS (pc := 8) F 0 0 (c_X7_isColour b (by omega) (fun h_3 => ?_) (fun h_4 => ?_)) rfl ⟨k_X7_isColour, il_RX7_88, it_X7_isColour, ii_RX7⟩ rfl 1 rfl hd_X7_isColour ⟨by decide, by decide, by decide, by decide, Nat.le_of_ble_eq_true rfl⟩ dX7_changeMinutes_8
    · refine j1 ?_
      refine ia_if_eq (pc := 11) F 18 dX7_changeMinutes_11 rfl (by omega) (fun h9 => absurd h9 (by omega)) (fun _ => ?_)
      refine ia_iconst (pc := 14) F dX7_changeMinutes_14 ?_
      refine ia_goto (pc := 15) F 19 dX7_changeMinutes_15 rfl ?_
      refine jS (pc := 19) F 0 0 (c_X7_requireArgument_1  ?_) rfl ⟨k_X7_requireArgument, il_RX7_92, it_X7_requireArgument, ii_RX7⟩ rfl 1 rfl hd_X7_requireArgument ⟨by decide, by decide, by decide, by decide, Nat.le_of_ble_eq_true rfl⟩ dX7_changeMinutes_19
      refine j0 ?_
      refine ia_iload_n (pc := 22) F dX7_changeMinutes_22 rfl ?_
      refine ia_iload_n (pc := 23) F dX7_changeMinutes_23 rfl ?_
      refine jS (pc := 24) F 0 0 (c_X7_washMinutes a b (by omega) (by omega) ?_) rfl ⟨k_X7_washMinutes, il_RX7_154, it_X7_washMinutes, ii_RX7⟩ rfl 2 rfl hd_X7_washMinutes ⟨by decide, by decide, by decide, by decide, Nat.le_of_ble_eq_true rfl⟩ dX7_changeMinutes_24
      refine j1 ?_
      refine ia_ireturn (pc := 27) F M (by decide) (by decide) dX7_changeMinutes_27 ?_
      first | exact q1 (by omega) | (exfalso; omega)
    · refine j1 ?_
      refine ia_if_eq (pc := 11) F 18 dX7_changeMinutes_11 rfl (by omega) (fun _ => ?_) (fun h9 => absurd h9 (by omega))
      refine ia_iconst (pc := 18) F dX7_changeMinutes_18 ?_
      refine jS (pc := 19) F 1 6 (c_X7_requireArgument_0  ?_) rfl ⟨k_X7_requireArgument, il_RX7_92, it_X7_requireArgument, ii_RX7⟩ rfl 1 rfl hd_X7_requireArgument ⟨by decide, by decide, by decide, by decide, Nat.le_of_ble_eq_true rfl⟩ dX7_changeMinutes_19
      refine jx ?_
      refine ia_out F M (by decide) (by decide) ?_
      first | exact q2 (by omega) | (exfalso; omega)
  · refine j1 ?_
    refine ia_if_eq (pc := 4) F 18 dX7_changeMinutes_4 rfl (by omega) (fun _ => ?_) (fun h9 => absurd h9 (by omega))
    refine ia_iconst (pc := 18) F dX7_changeMinutes_18 ?_
    refine jS (pc := 19) F 1 6 (c_X7_requireArgument_0  ?_) rfl ⟨k_X7_requireArgument, il_RX7_92, it_X7_requireArgument, ii_RX7⟩ rfl 1 rfl hd_X7_requireArgument ⟨by decide, by decide, by decide, by decide, Nat.le_of_ble_eq_true rfl⟩ dX7_changeMinutes_19
    refine jx ?_
    refine ia_out F M (by decide) (by decide) ?_
    first | exact q2 (by omega) | (exfalso; omega)
