/-! the model: shares, rises, the order by missing copies (made by wip/whole/m1.py) -/
set_option maxRecDepth 100000 in
theorem c_X8_share {Z : ia_Z} {V : ia_H} {Q : ia_O → ia_Z → ia_H → Prop} {σ : Nat → Int} {μ : Nat → Int} {ψ : Nat → Int} {m : Int} (hZ : ZI Z) (hP : PI V) (hI : SI σ m) (h99 : V 99 = μ) (h100 : V 100 = σ) (h105 : V 105 = ψ)  (q1 : ∀ (V1 : ia_H), PI V1 → (V1 105 = mgk 7 (shs σ (σ 2).toNat) ψ) → (∀ pp, pp ∉ ([105] : List Nat) → V1 pp = V pp) → Q (.inl none) Z V1) : ia_K yX8_share cX8_share 2 none [(4, ((99 : Nat) : Int))] Z V 4 0 0 Q := by
  refine ia_start RX8 "share" ⟨by decide, rfl, rfl⟩ (Nat.le_of_ble_eq_true rfl) (ia_tg rfl) (fun X F M => ?_)
  show ia_G X 0 0 0 [(4, ((99 : Nat) : Int)), (9, 0)] [] Z V
  obtain ⟨s0, s1, s2, s3, s4, s5, s6, s7, s18, sb, sw, se, sp⟩ := id hI
  refine ia_iconst (pc := 0) F dX8_share_0 ?_
  refine ia_istore_n (pc := 1) F (ls' := [(4, ((99 : Nat) : Int)), (0, 0)]) dX8_share_1 (Nat.le_of_ble_eq_true rfl) rfl rfl ?_
  have L2 : ∀ (fu : Nat) (k : Nat) (V2 : ia_H), (7 - k < fu) → (k ≤ 7) → (PI V2) → (V2 105 = mgk k (fun _ => 0) ψ) → (∀ pp, pp ∉ ([105] : List Nat) → V2 pp = V pp) → ia_G X 0 0 2 [(4, ((99 : Nat) : Int)), (0, (k : Int))] [] Z V2 := by
    intro fu
    induction fu with
    | zero => intro k V2 hm; exact absurd hm (Nat.not_lt_zero _)
    | succ fu ih =>
      intro k V2 hm hk hP2 w2_105 hF2
      have ih2 := ih
      refine ia_iload_n (pc := 2) F dX8_share_2 rfl ?_
      refine ia_bipush (pc := 3) F dX8_share_3 (by decide) ?_
      refine ia_icmp_ge (pc := 5) F 21 dX8_share_5 rfl (by omega) (by omega) (fun h_1 => ?_) (fun h_1 => ?_)
      · refine ia_iconst (pc := 21) F dX8_share_21 ?_
        refine ia_istore_n (pc := 22) F (ls' := [(4, ((99 : Nat) : Int)), (0, 0)]) dX8_share_22 (Nat.le_of_ble_eq_true rfl) rfl rfl ?_
        have L23 : ∀ (fu : Nat) (s : Nat) (V3 : ia_H), ((σ 2).toNat - s < fu) → ((s : Int) ≤ σ 2) → (PI V3) → (V3 105 = mgk 7 (shs σ s) ψ) → (∀ pp, pp ∉ ([105] : List Nat) → V3 pp = V pp) → ia_G X 0 0 23 [(4, ((99 : Nat) : Int)), (0, (s : Int))] [] Z V3 := by
          intro fu
          induction fu with
          | zero => intro s V3 hm; exact absurd hm (Nat.not_lt_zero _)
          | succ fu ih =>
            intro s V3 hm hs hP3 w3_105 hF3
            have ih23 := ih
            refine ia_iload_n (pc := 23) F dX8_share_23 rfl ?_
            have r9 := nsh_rng (σ := σ) (f := mgk 7 (shs σ s) ψ) (σ 0).toNat
            refine ia_aload_n (pc := 24) F dX8_share_24 rfl ?_
            refine jg (pc := 25) F (z99 hZ) cls11 f11_0 (hP3 99 0 100 rfl) il_RX8_7 dX8_share_25 ?_
            refine ia_iconst (pc := 28) F dX8_share_28 ?_
            refine ja (pc := 29) F (v := σ 2) (z100 hZ) 2 rfl (by omega) (congrFun ((hF3 100 (by decide)).trans h100) 2) dX8_share_29 ?_
            refine ia_icmp_ge (pc := 30) F 59 dX8_share_30 rfl (by omega) (by omega) (fun h_2 => ?_) (fun h_2 => ?_)
            · refine ia_return (pc := 59) F M (by decide) (by decide) dX8_share_59 ?_
              exact q1 _ hP3 (w3_105.trans (by rw [show (σ 2).toNat = s by omega])) hF3
            · refine ia_aload_n (pc := 33) F dX8_share_33 rfl ?_
              refine jV (pc := 34) F 0 0 (z99 hZ) cls11.1 (c_X8_nextShare hZ hP3 hI ((hF3 99 (by decide)).trans h99) ((hF3 100 (by decide)).trans h100) w3_105 (fun j hj => by rw [mgk_lt hj]; have := shs_rng (σ := σ) j s; omega) ?_) rfl ⟨k_X8_nextShare, il_RX8_195, im_X8_nextShare, is_X8_nextShare, ii_RX8⟩ 0 rfl hd_X8_nextShare ⟨by decide, by decide, by decide, by decide, Nat.le_of_ble_eq_true rfl⟩ dX8_share_34
              refine j1 ?_
              refine ia_if_lt (pc := 37) F 59 dX8_share_37 rfl (by omega) (fun h_3 => ?_) (fun h_3 => ?_)
              · refine ia_return (pc := 59) F M (by decide) (by decide) dX8_share_59 ?_
                exact q1 _ hP3 (w3_105.trans (shs_fin s0.2 rfl (by omega) _ (by omega))) hF3
              · refine ia_aload_n (pc := 40) F dX8_share_40 rfl ?_
                refine jg (pc := 41) F (z99 hZ) cls11 f11_5 (hP3 99 5 105 rfl) il_RX8_25 dX8_share_41 ?_
                refine ia_aload_n (pc := 44) F dX8_share_44 rfl ?_
                refine jV (pc := 45) F 0 0 (z99 hZ) cls11.1 (c_X8_nextShare hZ hP3 hI ((hF3 99 (by decide)).trans h99) ((hF3 100 (by decide)).trans h100) w3_105 (fun j hj => by rw [mgk_lt hj]; have := shs_rng (σ := σ) j s; omega) ?_) rfl ⟨k_X8_nextShare, il_RX8_195, im_X8_nextShare, is_X8_nextShare, ii_RX8⟩ 0 rfl hd_X8_nextShare ⟨by decide, by decide, by decide, by decide, Nat.le_of_ble_eq_true rfl⟩ dX8_share_45
                refine j1 ?_
                refine ia_dup2 (pc := 48) F dX8_share_48 (Or.inl rfl) (Or.inr (Or.inr rfl)) ?_
                refine ja (pc := 49) F (v := (mgk 7 (shs σ s) ψ) ((nsh σ (mgk 7 (shs σ s) ψ) (σ 0).toNat).toNat)) (z105 hZ) ((nsh σ (mgk 7 (shs σ s) ψ) (σ 0).toNat).toNat) (by omega) (by omega) (congrFun w3_105 ((nsh σ (mgk 7 (shs σ s) ψ) (σ 0).toNat).toNat)) dX8_share_49 ?_
                refine ia_iconst (pc := 50) F dX8_share_50 ?_
                refine ia_iadd (pc := 51) F dX8_share_51 ?_
                refine js (pc := 52) F (z105 hZ) ((nsh σ (mgk 7 (shs σ s) ψ) (σ 0).toNat).toNat) (by omega) (by omega) dX8_share_52 ?_
                refine ia_iinc (pc := 53) F (ls' := [(4, ((99 : Nat) : Int)), (0, ((s + 1 : Nat) : Int))]) dX8_share_53 rfl rfl rfl rfl ?_
                refine ia_goto (pc := 56) F 23 dX8_share_56 rfl ?_
                exact ih23 (s + 1) _ (by omega) (by omega) (PI_u hP3 rfl) ((rowU w3_105).trans (shs_step s0.2 rfl (by omega))) (Fr_u hF3 (by decide))
        exact L23 ((σ 2).toNat + 1) 0 _ (by omega) (by omega) hP2 (w2_105.trans (by rw [show k = 7 by omega]; rfl)) hF2
      · refine ia_aload_n (pc := 8) F dX8_share_8 rfl ?_
        refine jg (pc := 9) F (z99 hZ) cls11 f11_5 (hP2 99 5 105 rfl) il_RX8_25 dX8_share_9 ?_
        refine ia_iload_n (pc := 12) F dX8_share_12 rfl ?_
        refine ia_iconst (pc := 13) F dX8_share_13 ?_
        refine js (pc := 14) F (z105 hZ) k rfl (by omega) dX8_share_14 ?_
        refine ia_iinc (pc := 15) F (ls' := [(4, ((99 : Nat) : Int)), (0, ((k + 1 : Nat) : Int))]) dX8_share_15 rfl rfl rfl rfl ?_
        refine ia_goto (pc := 18) F 2 dX8_share_18 rfl ?_
        exact ih2 (k + 1) _ (by omega) (by omega) (PI_u hP2 rfl) ((rowU w2_105).trans mgk_z) (Fr_u hF2 (by decide))
  exact L2 (7 + 1) 0 _ (by omega) (by omega) hP (h105.trans mgk_0) (Fr_0 (V := V) (S := [105]))
set_option maxRecDepth 100000 in
theorem c_X8_rises {Z : ia_Z} {V : ia_H} {Q : ia_O → ia_Z → ia_H → Prop} {σ : Nat → Int} {μ : Nat → Int} {θ1 : Nat → Int} {θ2 : Nat → Int} {m : Int} (hZ : ZI Z) (hP : PI V) (hI : SI σ m) (h99 : V 99 = μ) (h100 : V 100 = σ) (h106 : V 106 = θ1) (h107 : V 107 = θ2)  (q1 : ∀ (V1 : ia_H), PI V1 → (V1 106 = mgk (σ 1).toNat (rtb σ (σ 1).toNat).1 θ1) → (V1 107 = mgk (σ 1).toNat (rtb σ (σ 1).toNat).2 θ2) → (∀ pp, pp ∉ ([106, 107] : List Nat) → V1 pp = V pp) → Q (.inl (some (0, (rmx σ (σ 1).toNat)))) Z V1) : ia_K yX8_rises cX8_rises 4 (some .int) [(4, ((99 : Nat) : Int))] Z V 2 0 0 Q := by
  refine ia_start RX8 "rises" ⟨by decide, rfl, rfl⟩ (Nat.le_of_ble_eq_true rfl) (ia_tg rfl) (fun X F M => ?_)
  show ia_G X 0 0 0 [(4, ((99 : Nat) : Int)), (9, 0), (9, 0), (9, 0)] [] Z V
  obtain ⟨s0, s1, s2, s3, s4, s5, s6, s7, s18, sb, sw, se, sp⟩ := id hI
  refine ia_iconst (pc := 0) F dX8_rises_0 ?_
  refine ia_istore_n (pc := 1) F (ls' := [(4, ((99 : Nat) : Int)), (0, 0), (9, 0), (9, 0)]) dX8_rises_1 (Nat.le_of_ble_eq_true rfl) rfl rfl ?_
  refine ia_iconst (pc := 2) F dX8_rises_2 ?_
  refine ia_istore_n (pc := 3) F (ls' := [(4, ((99 : Nat) : Int)), (0, 0), (0, 0), (9, 0)]) dX8_rises_3 (Nat.le_of_ble_eq_true rfl) rfl rfl ?_
  have L4 : ∀ (fu : Nat) (k : Nat) (a : Int) (V2 : ia_H), ((σ 1).toNat - k < fu) → ((k : Int) ≤ σ 1) → (a = rmx σ k) → (PI V2) → (V2 106 = mgk k (rtb σ k).1 θ1) → (V2 107 = mgk k (rtb σ k).2 θ2) → (∀ pp, pp ∉ ([106, 107] : List Nat) → V2 pp = V pp) → ia_G X 0 0 4 [(4, ((99 : Nat) : Int)), (0, a), (0, (k : Int)), (9, 0)] [] Z V2 := by
    intro fu
    induction fu with
    | zero => intro k a V2 hm; exact absurd hm (Nat.not_lt_zero _)
    | succ fu ih =>
      intro k a V2 hm hk ha hP2 w2_106 w2_107 hF2
      have ih4 := ih
      refine ia_iload_n (pc := 4) F dX8_rises_4 rfl ?_
      refine ia_aload_n (pc := 5) F dX8_rises_5 rfl ?_
      refine jg (pc := 6) F (z99 hZ) cls11 f11_0 (hP2 99 0 100 rfl) il_RX8_7 dX8_rises_6 ?_
      refine ia_iconst (pc := 9) F dX8_rises_9 ?_
      refine ja (pc := 10) F (v := σ 1) (z100 hZ) 1 rfl (by omega) (congrFun ((hF2 100 (by decide)).trans h100) 1) dX8_rises_10 ?_
      refine ia_icmp_ge (pc := 11) F 162 dX8_rises_11 rfl (by omega) (by omega) (fun h_1 => ?_) (fun h_1 => ?_)
      · refine ia_iload_n (pc := 162) F dX8_rises_162 rfl ?_
        refine ia_ireturn (pc := 163) F M (by decide) (by decide) dX8_rises_163 ?_
        have ek : (σ 1).toNat = k := by omega
        rw [ek, ← ha] at q1
        exact q1 _ hP2 w2_106 w2_107 hF2
      · refine ia_aload_n (pc := 14) F dX8_rises_14 rfl ?_
        refine jg (pc := 15) F (z99 hZ) cls11 f11_6 (hP2 99 6 106 rfl) il_RX8_28 dX8_rises_15 ?_
        refine ia_iload_n (pc := 18) F dX8_rises_18 rfl ?_
        refine ia_iconst (pc := 19) F dX8_rises_19 ?_
        refine js (pc := 20) F (z106 hZ) k rfl (by omega) dX8_rises_20 ?_
        refine ia_aload_n (pc := 21) F dX8_rises_21 rfl ?_
        refine jg (pc := 22) F (z99 hZ) cls11 f11_7 ((PI_u hP2 rfl) 99 7 107 rfl) il_RX8_31 dX8_rises_22 ?_
        refine ia_iload_n (pc := 25) F dX8_rises_25 rfl ?_
        refine ia_iconst (pc := 26) F dX8_rises_26 ?_
        refine js (pc := 27) F (z107 hZ) k rfl (by omega) dX8_rises_27 ?_
        refine ia_iconst (pc := 28) F dX8_rises_28 ?_
        refine ia_istore_n (pc := 29) F (ls' := [(4, ((99 : Nat) : Int)), (0, a), (0, (k : Int)), (0, 0)]) dX8_rises_29 (Nat.le_of_ble_eq_true rfl) rfl rfl ?_
        have L30 : ∀ (fu : Nat) (o : Nat) (x y : Int) (V3 : ia_H), (k - o < fu) → (o ≤ k) → (x = (rin σ (rtb σ k).1 (rtb σ k).2 k o).1) → (y = (rin σ (rtb σ k).1 (rtb σ k).2 k o).2) → (PI V3) → (V3 106 = up (mgk k (rtb σ k).1 θ1) k x) → (V3 107 = up (mgk k (rtb σ k).2 θ2) k y) → (∀ pp, pp ∉ ([106, 107] : List Nat) → V3 pp = V pp) → ia_G X 0 0 30 [(4, ((99 : Nat) : Int)), (0, a), (0, (k : Int)), (0, (o : Int))] [] Z V3 := by
          intro fu
          induction fu with
          | zero => intro o x y V3 hm; exact absurd hm (Nat.not_lt_zero _)
          | succ fu ih =>
            intro o x y V3 hm ho hx hy hP3 w3_106 w3_107 hF3
            have ih30 := ih
            refine ia_iload_n (pc := 30) F dX8_rises_30 rfl ?_
            refine ia_iload_n (pc := 31) F dX8_rises_31 rfl ?_
            refine ia_icmp_ge (pc := 32) F 135 dX8_rises_32 rfl (by omega) (by omega) (fun h_2 => ?_) (fun h_2 => ?_)
            · have r9 := rin_rng (σ := σ) (C := (rtb σ k).2) (rtb_rng (σ := σ) k) o (by omega)
              rw [← hx] at r9
              have r8 := rmx_rng (σ := σ) k
              rw [← ha] at r8
              have e7 : x = (rin σ (rtb σ k).1 (rtb σ k).2 k k).1 := by rw [hx, show o = k by omega]
              have e8 : y = (rin σ (rtb σ k).1 (rtb σ k).2 k k).2 := by rw [hy, show o = k by omega]
              refine ia_aload_n (pc := 135) F dX8_rises_135 rfl ?_
              refine jg (pc := 136) F (z99 hZ) cls11 f11_6 (hP3 99 6 106 rfl) il_RX8_28 dX8_rises_136 ?_
              refine ia_iload_n (pc := 139) F dX8_rises_139 rfl ?_
              refine ja (pc := 140) F (v := x) (z106 hZ) k rfl (by omega) ((congrFun w3_106 k).trans (up_self _ _ _)) dX8_rises_140 ?_
              refine ia_iload_n (pc := 141) F dX8_rises_141 rfl ?_
              refine ia_icmp_le (pc := 142) F 154 dX8_rises_142 rfl (by omega) (by omega) (fun h_3 => ?_) (fun h_3 => ?_)
              · refine ia_iload_n (pc := 154) F dX8_rises_154 rfl ?_
                refine ia_istore_n (pc := 155) F (ls' := [(4, ((99 : Nat) : Int)), (0, a), (0, (k : Int)), (0, (o : Int))]) dX8_rises_155 (Nat.le_of_ble_eq_true rfl) rfl rfl ?_
                refine ia_iinc (pc := 156) F (ls' := [(4, ((99 : Nat) : Int)), (0, a), (0, ((k + 1 : Nat) : Int)), (0, (o : Int))]) dX8_rises_156 rfl rfl rfl rfl ?_
                refine ia_goto (pc := 159) F 4 dX8_rises_159 rfl ?_
                refine jw (ls' := [(4, ((99 : Nat) : Int)), (0, a), (0, ((k + 1 : Nat) : Int)), (9, 0)]) [false, false, false, true] rfl ?_
                exact ih4 (k + 1) a _ (by omega) (by omega) (by rw [rmx_s, ← ha, ← e7]; first | rw [if_pos (by omega)] | rw [if_neg (by omega)]) hP3 (w3_106.trans (by rw [mgk_up, rtb_s1, e7])) (w3_107.trans (by rw [mgk_up, rtb_s2, e8])) hF3
              · refine ia_aload_n (pc := 145) F dX8_rises_145 rfl ?_
                refine jg (pc := 146) F (z99 hZ) cls11 f11_6 (hP3 99 6 106 rfl) il_RX8_28 dX8_rises_146 ?_
                refine ia_iload_n (pc := 149) F dX8_rises_149 rfl ?_
                refine ja (pc := 150) F (v := x) (z106 hZ) k rfl (by omega) ((congrFun w3_106 k).trans (up_self _ _ _)) dX8_rises_150 ?_
                refine ia_goto (pc := 151) F 155 dX8_rises_151 rfl ?_
                refine ia_istore_n (pc := 155) F (ls' := [(4, ((99 : Nat) : Int)), (0, x), (0, (k : Int)), (0, (o : Int))]) dX8_rises_155 (Nat.le_of_ble_eq_true rfl) rfl rfl ?_
                refine ia_iinc (pc := 156) F (ls' := [(4, ((99 : Nat) : Int)), (0, x), (0, ((k + 1 : Nat) : Int)), (0, (o : Int))]) dX8_rises_156 rfl rfl rfl rfl ?_
                refine ia_goto (pc := 159) F 4 dX8_rises_159 rfl ?_
                refine jw (ls' := [(4, ((99 : Nat) : Int)), (0, x), (0, ((k + 1 : Nat) : Int)), (9, 0)]) [false, false, false, true] rfl ?_
                exact ih4 (k + 1) x _ (by omega) (by omega) (by rw [rmx_s, ← ha, ← e7]; first | rw [if_pos (by omega)] | rw [if_neg (by omega)]) hP3 (w3_106.trans (by rw [mgk_up, rtb_s1, e7])) (w3_107.trans (by rw [mgk_up, rtb_s2, e8])) hF3
            · have r9 := rtb_rng (σ := σ) k o (by omega)
              have r8 := rin_rng (σ := σ) (C := (rtb σ k).2) (rtb_rng (σ := σ) k) o (by omega)
              rw [← hx] at r8
              have r7 := sp o (by omega)
              have r6 := sp k (by omega)
              refine ia_aload_n (pc := 35) F dX8_rises_35 rfl ?_
              refine ia_iload_n (pc := 36) F dX8_rises_36 rfl ?_
              refine ia_iconst (pc := 37) F dX8_rises_37 ?_
              refine jV (pc := 38) F 0 0 (z99 hZ) cls11.1 (c_X8_p0 (o : Int) hZ hP3 hI ((hF3 99 (by decide)).trans h99) ((hF3 100 (by decide)).trans h100) (by omega) ?_) rfl ⟨k_X8_p, il_RX8_222, im_X8_p, is_X8_p, ii_RX8⟩ 2 rfl hd_X8_p ⟨by decide, by decide, by decide, by decide, Nat.le_of_ble_eq_true rfl⟩ dX8_rises_38
              change ia_ct X _ _ (38 + 3) _ _ _ (.inl (some (0, (mrk σ o)))) _ _
              refine j1 ?_
              refine ia_aload_n (pc := 41) F dX8_rises_41 rfl ?_
              refine ia_iload_n (pc := 42) F dX8_rises_42 rfl ?_
              refine ia_iconst (pc := 43) F dX8_rises_43 ?_
              refine jV (pc := 44) F 0 0 (z99 hZ) cls11.1 (c_X8_p0 (k : Int) hZ hP3 hI ((hF3 99 (by decide)).trans h99) ((hF3 100 (by decide)).trans h100) (by omega) ?_) rfl ⟨k_X8_p, il_RX8_222, im_X8_p, is_X8_p, ii_RX8⟩ 2 rfl hd_X8_p ⟨by decide, by decide, by decide, by decide, Nat.le_of_ble_eq_true rfl⟩ dX8_rises_44
              change ia_ct X _ _ (44 + 3) _ _ _ (.inl (some (0, (mrk σ k)))) _ _
              refine j1 ?_
              refine ia_icmp_ge (pc := 47) F 129 dX8_rises_47 rfl (by omega) (by omega) (fun h_4 => ?_) (fun h_4 => ?_)
              · refine ia_iinc (pc := 129) F (ls' := [(4, ((99 : Nat) : Int)), (0, a), (0, (k : Int)), (0, ((o + 1 : Nat) : Int))]) dX8_rises_129 rfl rfl rfl rfl ?_
                refine ia_goto (pc := 132) F 30 dX8_rises_132 rfl ?_
                exact ih30 (o + 1) _ _ _ (by omega) (by omega) (by (rw [rin_skip (by omega)]) <;> first | exact hx | rfl) (by (rw [rin_skip (by omega)]) <;> first | exact hy | rfl | (rw [hy])) hP3 w3_106 w3_107 hF3
              · refine ia_aload_n (pc := 50) F dX8_rises_50 rfl ?_
                refine jg (pc := 51) F (z99 hZ) cls11 f11_6 (hP3 99 6 106 rfl) il_RX8_28 dX8_rises_51 ?_
                refine ia_iload_n (pc := 54) F dX8_rises_54 rfl ?_
                refine ja (pc := 55) F (v := (rtb σ k).1 o) (z106 hZ) o rfl (by omega) ((congrFun w3_106 o).trans ((up_ne (by omega)).trans (mgk_lt (by omega)))) dX8_rises_55 ?_
                refine ia_iconst (pc := 56) F dX8_rises_56 ?_
                refine ia_iadd (pc := 57) F dX8_rises_57 ?_
                refine ia_aload_n (pc := 58) F dX8_rises_58 rfl ?_
                refine jg (pc := 59) F (z99 hZ) cls11 f11_6 (hP3 99 6 106 rfl) il_RX8_28 dX8_rises_59 ?_
                refine ia_iload_n (pc := 62) F dX8_rises_62 rfl ?_
                refine ja (pc := 63) F (v := x) (z106 hZ) k rfl (by omega) ((congrFun w3_106 k).trans (up_self _ _ _)) dX8_rises_63 ?_
                refine ia_icmp_ge (pc := 64) F 70 dX8_rises_64 rfl (by omega) (by omega) (fun h_5 => ?_) (fun h_5 => ?_)
                · refine ia_aload_n (pc := 70) F dX8_rises_70 rfl ?_
                  refine jg (pc := 71) F (z99 hZ) cls11 f11_7 (hP3 99 7 107 rfl) il_RX8_31 dX8_rises_71 ?_
                  refine ia_iload_n (pc := 74) F dX8_rises_74 rfl ?_
                  refine ia_aload_n (pc := 75) F dX8_rises_75 rfl ?_
                  refine jg (pc := 76) F (z99 hZ) cls11 f11_6 (hP3 99 6 106 rfl) il_RX8_28 dX8_rises_76 ?_
                  refine ia_iload_n (pc := 79) F dX8_rises_79 rfl ?_
                  refine ja (pc := 80) F (v := (rtb σ k).1 o) (z106 hZ) o rfl (by omega) ((congrFun w3_106 o).trans ((up_ne (by omega)).trans (mgk_lt (by omega)))) dX8_rises_80 ?_
                  refine ia_iconst (pc := 81) F dX8_rises_81 ?_
                  refine ia_iadd (pc := 82) F dX8_rises_82 ?_
                  refine ia_aload_n (pc := 83) F dX8_rises_83 rfl ?_
                  refine jg (pc := 84) F (z99 hZ) cls11 f11_6 (hP3 99 6 106 rfl) il_RX8_28 dX8_rises_84 ?_
                  refine ia_iload_n (pc := 87) F dX8_rises_87 rfl ?_
                  refine ja (pc := 88) F (v := x) (z106 hZ) k rfl (by omega) ((congrFun w3_106 k).trans (up_self _ _ _)) dX8_rises_88 ?_
                  refine ia_icmp_le (pc := 89) F 101 dX8_rises_89 rfl (by omega) (by omega) (fun h_6 => ?_) (fun h_6 => ?_)
                  · refine ia_aload_n (pc := 101) F dX8_rises_101 rfl ?_
                    refine jg (pc := 102) F (z99 hZ) cls11 f11_7 (hP3 99 7 107 rfl) il_RX8_31 dX8_rises_102 ?_
                    refine ia_iload_n (pc := 105) F dX8_rises_105 rfl ?_
                    refine ja (pc := 106) F (v := y) (z107 hZ) k rfl (by omega) ((congrFun w3_107 k).trans (up_self _ _ _)) dX8_rises_106 ?_
                    refine ia_aload_n (pc := 107) F dX8_rises_107 rfl ?_
                    refine jg (pc := 108) F (z99 hZ) cls11 f11_7 (hP3 99 7 107 rfl) il_RX8_31 dX8_rises_108 ?_
                    refine ia_iload_n (pc := 111) F dX8_rises_111 rfl ?_
                    refine ja (pc := 112) F (v := (rtb σ k).2 o) (z107 hZ) o rfl (by omega) ((congrFun w3_107 o).trans ((up_ne (by omega)).trans (mgk_lt (by omega)))) dX8_rises_112 ?_
                    refine ia_iadd (pc := 113) F dX8_rises_113 ?_
                    refine js (pc := 114) F (z107 hZ) k rfl (by omega) dX8_rises_114 ?_
                    refine ia_aload_n (pc := 115) F dX8_rises_115 rfl ?_
                    refine jg (pc := 116) F (z99 hZ) cls11 f11_6 ((PI_u hP3 rfl) 99 6 106 rfl) il_RX8_28 dX8_rises_116 ?_
                    refine ia_iload_n (pc := 119) F dX8_rises_119 rfl ?_
                    refine ia_aload_n (pc := 120) F dX8_rises_120 rfl ?_
                    refine jg (pc := 121) F (z99 hZ) cls11 f11_6 ((PI_u hP3 rfl) 99 6 106 rfl) il_RX8_28 dX8_rises_121 ?_
                    refine ia_iload_n (pc := 124) F dX8_rises_124 rfl ?_
                    refine ja (pc := 125) F (v := (rtb σ k).1 o) (z106 hZ) o rfl (by omega) ((congrFun ((rowN (by decide)).trans w3_106) o).trans ((up_ne (by omega)).trans (mgk_lt (by omega)))) dX8_rises_125 ?_
                    refine ia_iconst (pc := 126) F dX8_rises_126 ?_
                    refine ia_iadd (pc := 127) F dX8_rises_127 ?_
                    refine js (pc := 128) F (z106 hZ) k rfl (by omega) dX8_rises_128 ?_
                    refine ia_iinc (pc := 129) F (ls' := [(4, ((99 : Nat) : Int)), (0, a), (0, (k : Int)), (0, ((o + 1 : Nat) : Int))]) dX8_rises_129 rfl rfl rfl rfl ?_
                    refine ia_goto (pc := 132) F 30 dX8_rises_132 rfl ?_
                    exact ih30 (o + 1) _ _ _ (by omega) (by omega) (by (rw [rin_eq (by omega) (by omega)]) <;> first | exact hx | rfl) (by (rw [rin_eq (by omega) (by omega)]) <;> first | exact hy | rfl | (rw [hy])) (PI_u (PI_u hP3 rfl) rfl) ((rowU ((rowN (by decide)).trans w3_106)).trans up_up) (((rowN (by decide)).trans (rowU w3_107)).trans up_up) (Fr_u (Fr_u hF3 (by decide)) (by decide))
                  · refine ia_aload_n (pc := 92) F dX8_rises_92 rfl ?_
                    refine jg (pc := 93) F (z99 hZ) cls11 f11_7 (hP3 99 7 107 rfl) il_RX8_31 dX8_rises_93 ?_
                    refine ia_iload_n (pc := 96) F dX8_rises_96 rfl ?_
                    refine ja (pc := 97) F (v := (rtb σ k).2 o) (z107 hZ) o rfl (by omega) ((congrFun w3_107 o).trans ((up_ne (by omega)).trans (mgk_lt (by omega)))) dX8_rises_97 ?_
                    refine ia_goto (pc := 98) F 114 dX8_rises_98 rfl ?_
                    refine js (pc := 114) F (z107 hZ) k rfl (by omega) dX8_rises_114 ?_
                    refine ia_aload_n (pc := 115) F dX8_rises_115 rfl ?_
                    refine jg (pc := 116) F (z99 hZ) cls11 f11_6 ((PI_u hP3 rfl) 99 6 106 rfl) il_RX8_28 dX8_rises_116 ?_
                    refine ia_iload_n (pc := 119) F dX8_rises_119 rfl ?_
                    refine ia_aload_n (pc := 120) F dX8_rises_120 rfl ?_
                    refine jg (pc := 121) F (z99 hZ) cls11 f11_6 ((PI_u hP3 rfl) 99 6 106 rfl) il_RX8_28 dX8_rises_121 ?_
                    refine ia_iload_n (pc := 124) F dX8_rises_124 rfl ?_
                    refine ja (pc := 125) F (v := (rtb σ k).1 o) (z106 hZ) o rfl (by omega) ((congrFun ((rowN (by decide)).trans w3_106) o).trans ((up_ne (by omega)).trans (mgk_lt (by omega)))) dX8_rises_125 ?_
                    refine ia_iconst (pc := 126) F dX8_rises_126 ?_
                    refine ia_iadd (pc := 127) F dX8_rises_127 ?_
                    refine js (pc := 128) F (z106 hZ) k rfl (by omega) dX8_rises_128 ?_
                    refine ia_iinc (pc := 129) F (ls' := [(4, ((99 : Nat) : Int)), (0, a), (0, (k : Int)), (0, ((o + 1 : Nat) : Int))]) dX8_rises_129 rfl rfl rfl rfl ?_
                    refine ia_goto (pc := 132) F 30 dX8_rises_132 rfl ?_
                    exact ih30 (o + 1) _ _ _ (by omega) (by omega) (by (rw [rin_gt (by omega) (by omega)]) <;> first | exact hx | rfl) (by (rw [rin_gt (by omega) (by omega)]) <;> first | exact hy | rfl | (rw [hy])) (PI_u (PI_u hP3 rfl) rfl) ((rowU ((rowN (by decide)).trans w3_106)).trans up_up) (((rowN (by decide)).trans (rowU w3_107)).trans up_up) (Fr_u (Fr_u hF3 (by decide)) (by decide))
                · refine ia_goto (pc := 67) F 129 dX8_rises_67 rfl ?_
                  refine ia_iinc (pc := 129) F (ls' := [(4, ((99 : Nat) : Int)), (0, a), (0, (k : Int)), (0, ((o + 1 : Nat) : Int))]) dX8_rises_129 rfl rfl rfl rfl ?_
                  refine ia_goto (pc := 132) F 30 dX8_rises_132 rfl ?_
                  exact ih30 (o + 1) _ _ _ (by omega) (by omega) (by (rw [rin_skip (by omega)]) <;> first | exact hx | rfl) (by (rw [rin_skip (by omega)]) <;> first | exact hy | rfl | (rw [hy])) hP3 w3_106 w3_107 hF3
        exact L30 (k + 1) 0 1 1 _ (by omega) (by omega) rfl rfl (PI_u (PI_u hP2 rfl) rfl) ((rowN (by decide)).trans (rowU w2_106)) (rowU ((rowN (by decide)).trans w2_107)) (Fr_u (Fr_u hF2 (by decide)) (by decide))
  exact L4 ((σ 1).toNat + 1) 0 0 _ (by omega) (by omega) rfl hP (h106.trans mgk_0) (h107.trans mgk_0) (Fr_0 (V := V) (S := [106, 107]))
set_option maxRecDepth 100000 in
theorem c_X8_riseCount {Z : ia_Z} {V : ia_H} {Q : ia_O → ia_Z → ia_H → Prop} {σ : Nat → Int} {μ : Nat → Int} {θ1 : Nat → Int} {θ2 : Nat → Int} {m : Int} (hZ : ZI Z) (hP : PI V) (hI : SI σ m) (h99 : V 99 = μ) (h100 : V 100 = σ) (h106 : V 106 = θ1) (h107 : V 107 = θ2)  (q1 : ∀ (V1 : ia_H), PI V1 → (V1 99 = up μ 9 0) → (V1 106 = mgk (σ 1).toNat (rtb σ (σ 1).toNat).1 θ1) → (V1 107 = mgk (σ 1).toNat (rtb σ (σ 1).toNat).2 θ2) → (∀ pp, pp ∉ ([99, 106, 107] : List Nat) → V1 pp = V pp) → Q (.inl (some (0, (rct σ (σ 1).toNat)))) Z V1) : ia_K yX8_riseCount cX8_riseCount 4 (some .int) [(4, ((99 : Nat) : Int))] Z V 3 0 0 Q := by
  refine ia_start RX8 "riseCount" ⟨by decide, rfl, rfl⟩ (Nat.le_of_ble_eq_true rfl) (ia_tg rfl) (fun X F M => ?_)
  show ia_G X 0 0 0 [(4, ((99 : Nat) : Int)), (9, 0), (9, 0), (9, 0)] [] Z V
  obtain ⟨s0, s1, s2, s3, s4, s5, s6, s7, s18, sb, sw, se, sp⟩ := id hI
  refine ia_aload_n (pc := 0) F dX8_riseCount_0 rfl ?_
  refine ia_iconst (pc := 1) F dX8_riseCount_1 ?_
  refine jp (pc := 2) F (z99 hZ) cls11 f11_9 rfl (ia_nI rfl _) il_RX8_37 dX8_riseCount_2 ?_
  refine ia_aload_n (pc := 5) F dX8_riseCount_5 rfl ?_
  refine jV (pc := 6) F 0 0 (z99 hZ) cls11.1 (c_X8_rises hZ (PI_u hP rfl) hI (rowU h99) ((rowN (by decide)).trans h100) ((rowN (by decide)).trans h106) ((rowN (by decide)).trans h107) (fun V_1 p_2 w_3 w_4 f_5 => ?_)) rfl ⟨k_X8_rises, il_RX8_225, im_X8_rises, is_X8_rises, ii_RX8⟩ 0 rfl hd_X8_rises ⟨by decide, by decide, by decide, by decide, Nat.le_of_ble_eq_true rfl⟩ dX8_riseCount_6
  refine j1 ?_
  refine ia_istore_n (pc := 9) F (ls' := [(4, ((99 : Nat) : Int)), (0, (rmx σ (σ 1).toNat)), (9, 0), (9, 0)]) dX8_riseCount_9 (Nat.le_of_ble_eq_true rfl) rfl rfl ?_
  have r9 := rmx_rng (σ := σ) (σ 1).toNat
  refine ia_iload_n (pc := 10) F dX8_riseCount_10 rfl ?_
  refine ia_if_ne (pc := 11) F 18 dX8_riseCount_11 rfl (by omega) (fun h_6 => ?_) (fun h_6 => ?_)
  · refine ia_iconst (pc := 18) F dX8_riseCount_18 ?_
    refine ia_istore_n (pc := 19) F (ls' := [(4, ((99 : Nat) : Int)), (0, (rmx σ (σ 1).toNat)), (0, 0), (9, 0)]) dX8_riseCount_19 (Nat.le_of_ble_eq_true rfl) rfl rfl ?_
    refine ia_iconst (pc := 20) F dX8_riseCount_20 ?_
    refine ia_istore_n (pc := 21) F (ls' := [(4, ((99 : Nat) : Int)), (0, (rmx σ (σ 1).toNat)), (0, 0), (0, 0)]) dX8_riseCount_21 (Nat.le_of_ble_eq_true rfl) rfl rfl ?_
    have L22 : ∀ (fu : Nat) (k : Nat) (a : Int) (V2 : ia_H), ((σ 1).toNat - k < fu) → ((k : Int) ≤ σ 1) → (a = (if rmx σ (σ 1).toNat = 0 then 1 else 0) + psum (rcf σ (σ 1).toNat) k) → (PI V2) → (V2 99 = up μ 9 0) → (V2 106 = mgk (σ 1).toNat (rtb σ (σ 1).toNat).1 θ1) → (V2 107 = mgk (σ 1).toNat (rtb σ (σ 1).toNat).2 θ2) → (∀ pp, pp ∉ ([99, 106, 107] : List Nat) → V2 pp = V pp) → ia_G X 0 0 22 [(4, ((99 : Nat) : Int)), (0, (rmx σ (σ 1).toNat)), (0, a), (0, (k : Int))] [] Z V2 := by
      intro fu
      induction fu with
      | zero => intro k a V2 hm; exact absurd hm (Nat.not_lt_zero _)
      | succ fu ih =>
        intro k a V2 hm hk ha hP2 w2_99 w2_106 w2_107 hF2
        have ih22 := ih
        refine ia_iload_n (pc := 22) F dX8_riseCount_22 rfl ?_
        refine ia_aload_n (pc := 23) F dX8_riseCount_23 rfl ?_
        refine jg (pc := 24) F (z99 hZ) cls11 f11_0 (hP2 99 0 100 rfl) il_RX8_7 dX8_riseCount_24 ?_
        refine ia_iconst (pc := 27) F dX8_riseCount_27 ?_
        refine ja (pc := 28) F (v := σ 1) (z100 hZ) 1 rfl (by omega) (congrFun ((hF2 100 (by decide)).trans h100) 1) dX8_riseCount_28 ?_
        refine ia_icmp_ge (pc := 29) F 61 dX8_riseCount_29 rfl (by omega) (by omega) (fun h_7 => ?_) (fun h_7 => ?_)
        · refine ia_iload_n (pc := 61) F dX8_riseCount_61 rfl ?_
          refine ia_ireturn (pc := 62) F M (by decide) (by decide) dX8_riseCount_62 ?_
          have ek : k = (σ 1).toNat := by omega
          rw [ek] at ha
          unfold rct at q1
          rw [← ha] at q1
          exact q1 _ hP2 w2_99 w2_106 w2_107 hF2
        · have r8 := rtb_rng (σ := σ) (σ 1).toNat k (by omega)
          refine ia_iload_n (pc := 32) F dX8_riseCount_32 rfl ?_
          refine ia_aload_n (pc := 33) F dX8_riseCount_33 rfl ?_
          refine jg (pc := 34) F (z99 hZ) cls11 f11_6 (hP2 99 6 106 rfl) il_RX8_28 dX8_riseCount_34 ?_
          refine ia_iload_n (pc := 37) F dX8_riseCount_37 rfl ?_
          refine ja (pc := 38) F (v := (rtb σ (σ 1).toNat).1 k) (z106 hZ) k rfl (by omega) ((congrFun w2_106 k).trans (mgk_lt (by omega))) dX8_riseCount_38 ?_
          refine ia_iload_n (pc := 39) F dX8_riseCount_39 rfl ?_
          refine ia_icmp_ne (pc := 40) F 52 dX8_riseCount_40 rfl (by omega) (by omega) (fun h_8 => ?_) (fun h_8 => ?_)
          · refine ia_iconst (pc := 52) F dX8_riseCount_52 ?_
            refine ia_iadd (pc := 53) F dX8_riseCount_53 ?_
            refine ia_istore_n (pc := 54) F (ls' := [(4, ((99 : Nat) : Int)), (0, (rmx σ (σ 1).toNat)), (0, (a + 0)), (0, (k : Int))]) dX8_riseCount_54 (Nat.le_of_ble_eq_true rfl) rfl rfl ?_
            refine ia_iinc (pc := 55) F (ls' := [(4, ((99 : Nat) : Int)), (0, (rmx σ (σ 1).toNat)), (0, (a + 0)), (0, ((k + 1 : Nat) : Int))]) dX8_riseCount_55 rfl rfl rfl rfl ?_
            refine ia_goto (pc := 58) F 22 dX8_riseCount_58 rfl ?_
            exact ih22 (k + 1) (a + 0) _ (by omega) (by omega) (by rw [psum_s, ha]; first | (rw [rcf_1 (by omega)]; omega) | (rw [rcf_0 (by omega)]; omega)) hP2 w2_99 w2_106 w2_107 hF2
          · refine ia_aload_n (pc := 43) F dX8_riseCount_43 rfl ?_
            refine jg (pc := 44) F (z99 hZ) cls11 f11_7 (hP2 99 7 107 rfl) il_RX8_31 dX8_riseCount_44 ?_
            refine ia_iload_n (pc := 47) F dX8_riseCount_47 rfl ?_
            refine ja (pc := 48) F (v := (rtb σ (σ 1).toNat).2 k) (z107 hZ) k rfl (by omega) ((congrFun w2_107 k).trans (mgk_lt (by omega))) dX8_riseCount_48 ?_
            refine ia_goto (pc := 49) F 53 dX8_riseCount_49 rfl ?_
            refine ia_iadd (pc := 53) F dX8_riseCount_53 ?_
            refine ia_istore_n (pc := 54) F (ls' := [(4, ((99 : Nat) : Int)), (0, (rmx σ (σ 1).toNat)), (0, (a + (rtb σ (σ 1).toNat).2 k)), (0, (k : Int))]) dX8_riseCount_54 (Nat.le_of_ble_eq_true rfl) rfl rfl ?_
            refine ia_iinc (pc := 55) F (ls' := [(4, ((99 : Nat) : Int)), (0, (rmx σ (σ 1).toNat)), (0, (a + (rtb σ (σ 1).toNat).2 k)), (0, ((k + 1 : Nat) : Int))]) dX8_riseCount_55 rfl rfl rfl rfl ?_
            refine ia_goto (pc := 58) F 22 dX8_riseCount_58 rfl ?_
            exact ih22 (k + 1) (a + (rtb σ (σ 1).toNat).2 k) _ (by omega) (by omega) (by rw [psum_s, ha]; first | (rw [rcf_1 (by omega)]; omega) | (rw [rcf_0 (by omega)]; omega)) hP2 w2_99 w2_106 w2_107 hF2
    exact L22 ((σ 1).toNat + 1) 0 0 _ (by omega) (by omega) (by (first | rw [if_pos (by omega)] | rw [if_neg (by omega)]) <;> rfl) p_2 ((f_5 99 (by decide)).trans (rowU h99)) w_3 w_4 (Fr_c (Fr_u (Fr_0 (V := V) (S := [99, 106, 107])) (by decide)) f_5 (by decide))
  · refine ia_iconst (pc := 14) F dX8_riseCount_14 ?_
    refine ia_goto (pc := 15) F 19 dX8_riseCount_15 rfl ?_
    refine ia_istore_n (pc := 19) F (ls' := [(4, ((99 : Nat) : Int)), (0, (rmx σ (σ 1).toNat)), (0, 1), (9, 0)]) dX8_riseCount_19 (Nat.le_of_ble_eq_true rfl) rfl rfl ?_
    refine ia_iconst (pc := 20) F dX8_riseCount_20 ?_
    refine ia_istore_n (pc := 21) F (ls' := [(4, ((99 : Nat) : Int)), (0, (rmx σ (σ 1).toNat)), (0, 1), (0, 0)]) dX8_riseCount_21 (Nat.le_of_ble_eq_true rfl) rfl rfl ?_
    have L22 : ∀ (fu : Nat) (k : Nat) (a : Int) (V2 : ia_H), ((σ 1).toNat - k < fu) → ((k : Int) ≤ σ 1) → (a = (if rmx σ (σ 1).toNat = 0 then 1 else 0) + psum (rcf σ (σ 1).toNat) k) → (PI V2) → (V2 99 = up μ 9 0) → (V2 106 = mgk (σ 1).toNat (rtb σ (σ 1).toNat).1 θ1) → (V2 107 = mgk (σ 1).toNat (rtb σ (σ 1).toNat).2 θ2) → (∀ pp, pp ∉ ([99, 106, 107] : List Nat) → V2 pp = V pp) → ia_G X 0 0 22 [(4, ((99 : Nat) : Int)), (0, (rmx σ (σ 1).toNat)), (0, a), (0, (k : Int))] [] Z V2 := by
      intro fu
      induction fu with
      | zero => intro k a V2 hm; exact absurd hm (Nat.not_lt_zero _)
      | succ fu ih =>
        intro k a V2 hm hk ha hP2 w2_99 w2_106 w2_107 hF2
        have ih22 := ih
        refine ia_iload_n (pc := 22) F dX8_riseCount_22 rfl ?_
        refine ia_aload_n (pc := 23) F dX8_riseCount_23 rfl ?_
        refine jg (pc := 24) F (z99 hZ) cls11 f11_0 (hP2 99 0 100 rfl) il_RX8_7 dX8_riseCount_24 ?_
        refine ia_iconst (pc := 27) F dX8_riseCount_27 ?_
        refine ja (pc := 28) F (v := σ 1) (z100 hZ) 1 rfl (by omega) (congrFun ((hF2 100 (by decide)).trans h100) 1) dX8_riseCount_28 ?_
        refine ia_icmp_ge (pc := 29) F 61 dX8_riseCount_29 rfl (by omega) (by omega) (fun h_9 => ?_) (fun h_9 => ?_)
        · refine ia_iload_n (pc := 61) F dX8_riseCount_61 rfl ?_
          refine ia_ireturn (pc := 62) F M (by decide) (by decide) dX8_riseCount_62 ?_
          have ek : k = (σ 1).toNat := by omega
          rw [ek] at ha
          unfold rct at q1
          rw [← ha] at q1
          exact q1 _ hP2 w2_99 w2_106 w2_107 hF2
        · have r8 := rtb_rng (σ := σ) (σ 1).toNat k (by omega)
          refine ia_iload_n (pc := 32) F dX8_riseCount_32 rfl ?_
          refine ia_aload_n (pc := 33) F dX8_riseCount_33 rfl ?_
          refine jg (pc := 34) F (z99 hZ) cls11 f11_6 (hP2 99 6 106 rfl) il_RX8_28 dX8_riseCount_34 ?_
          refine ia_iload_n (pc := 37) F dX8_riseCount_37 rfl ?_
          refine ja (pc := 38) F (v := (rtb σ (σ 1).toNat).1 k) (z106 hZ) k rfl (by omega) ((congrFun w2_106 k).trans (mgk_lt (by omega))) dX8_riseCount_38 ?_
          refine ia_iload_n (pc := 39) F dX8_riseCount_39 rfl ?_
          refine ia_icmp_ne (pc := 40) F 52 dX8_riseCount_40 rfl (by omega) (by omega) (fun h_10 => ?_) (fun h_10 => ?_)
          · refine ia_iconst (pc := 52) F dX8_riseCount_52 ?_
            refine ia_iadd (pc := 53) F dX8_riseCount_53 ?_
            refine ia_istore_n (pc := 54) F (ls' := [(4, ((99 : Nat) : Int)), (0, (rmx σ (σ 1).toNat)), (0, (a + 0)), (0, (k : Int))]) dX8_riseCount_54 (Nat.le_of_ble_eq_true rfl) rfl rfl ?_
            refine ia_iinc (pc := 55) F (ls' := [(4, ((99 : Nat) : Int)), (0, (rmx σ (σ 1).toNat)), (0, (a + 0)), (0, ((k + 1 : Nat) : Int))]) dX8_riseCount_55 rfl rfl rfl rfl ?_
            refine ia_goto (pc := 58) F 22 dX8_riseCount_58 rfl ?_
            exact ih22 (k + 1) (a + 0) _ (by omega) (by omega) (by rw [psum_s, ha]; first | (rw [rcf_1 (by omega)]; omega) | (rw [rcf_0 (by omega)]; omega)) hP2 w2_99 w2_106 w2_107 hF2
          · refine ia_aload_n (pc := 43) F dX8_riseCount_43 rfl ?_
            refine jg (pc := 44) F (z99 hZ) cls11 f11_7 (hP2 99 7 107 rfl) il_RX8_31 dX8_riseCount_44 ?_
            refine ia_iload_n (pc := 47) F dX8_riseCount_47 rfl ?_
            refine ja (pc := 48) F (v := (rtb σ (σ 1).toNat).2 k) (z107 hZ) k rfl (by omega) ((congrFun w2_107 k).trans (mgk_lt (by omega))) dX8_riseCount_48 ?_
            refine ia_goto (pc := 49) F 53 dX8_riseCount_49 rfl ?_
            refine ia_iadd (pc := 53) F dX8_riseCount_53 ?_
            refine ia_istore_n (pc := 54) F (ls' := [(4, ((99 : Nat) : Int)), (0, (rmx σ (σ 1).toNat)), (0, (a + (rtb σ (σ 1).toNat).2 k)), (0, (k : Int))]) dX8_riseCount_54 (Nat.le_of_ble_eq_true rfl) rfl rfl ?_
            refine ia_iinc (pc := 55) F (ls' := [(4, ((99 : Nat) : Int)), (0, (rmx σ (σ 1).toNat)), (0, (a + (rtb σ (σ 1).toNat).2 k)), (0, ((k + 1 : Nat) : Int))]) dX8_riseCount_55 rfl rfl rfl rfl ?_
            refine ia_goto (pc := 58) F 22 dX8_riseCount_58 rfl ?_
            exact ih22 (k + 1) (a + (rtb σ (σ 1).toNat).2 k) _ (by omega) (by omega) (by rw [psum_s, ha]; first | (rw [rcf_1 (by omega)]; omega) | (rw [rcf_0 (by omega)]; omega)) hP2 w2_99 w2_106 w2_107 hF2
    exact L22 ((σ 1).toNat + 1) 0 1 _ (by omega) (by omega) (by (first | rw [if_pos (by omega)] | rw [if_neg (by omega)]) <;> rfl) p_2 ((f_5 99 (by decide)).trans (rowU h99)) w_3 w_4 (Fr_c (Fr_u (Fr_0 (V := V) (S := [99, 106, 107])) (by decide)) f_5 (by decide))
set_option maxRecDepth 100000 in
theorem c_X8_inkInWells {Z : ia_Z} {V : ia_H} {Q : ia_O → ia_Z → ia_H → Prop} {σ : Nat → Int} {μ : Nat → Int} {m : Int} (hZ : ZI Z) (hP : PI V) (hI : SI σ m) (h99 : V 99 = μ) (h100 : V 100 = σ)  (q1 : ∀ (V1 : ia_H), PI V1 → (V1 99 = up μ 9 0) → (∀ pp, pp ∉ ([99] : List Nat) → V1 pp = V pp) → Q (.inl (some (0, (psum (wel σ) 10)))) Z V1) : ia_K yX8_inkInWells cX8_inkInWells 3 (some .int) [(4, ((99 : Nat) : Int))] Z V 1 0 0 Q := by
  refine ia_start RX8 "inkInWells" ⟨by decide, rfl, rfl⟩ (Nat.le_of_ble_eq_true rfl) (ia_tg rfl) (fun X F M => ?_)
  show ia_G X 0 0 0 [(4, ((99 : Nat) : Int)), (9, 0), (9, 0)] [] Z V
  obtain ⟨s0, s1, s2, s3, s4, s5, s6, s7, s18, sb, sw, se, sp⟩ := id hI
  refine ia_aload_n (pc := 0) F dX8_inkInWells_0 rfl ?_
  refine ia_iconst (pc := 1) F dX8_inkInWells_1 ?_
  refine jp (pc := 2) F (z99 hZ) cls11 f11_9 rfl (ia_nI rfl _) il_RX8_37 dX8_inkInWells_2 ?_
  refine ia_iconst (pc := 5) F dX8_inkInWells_5 ?_
  refine ia_istore_n (pc := 6) F (ls' := [(4, ((99 : Nat) : Int)), (0, 0), (9, 0)]) dX8_inkInWells_6 (Nat.le_of_ble_eq_true rfl) rfl rfl ?_
  refine ia_iconst (pc := 7) F dX8_inkInWells_7 ?_
  refine ia_istore_n (pc := 8) F (ls' := [(4, ((99 : Nat) : Int)), (0, 0), (0, 0)]) dX8_inkInWells_8 (Nat.le_of_ble_eq_true rfl) rfl rfl ?_
  have L9 : ∀ (fu : Nat) (k : Nat) (V2 : ia_H), (10 - k < fu) → (k ≤ 10) → (PI V2) → (V2 99 = up μ 9 0) → (∀ pp, pp ∉ ([99] : List Nat) → V2 pp = V pp) → ia_G X 0 0 9 [(4, ((99 : Nat) : Int)), (0, (psum (wel σ) k)), (0, (k : Int))] [] Z V2 := by
    intro fu
    induction fu with
    | zero => intro k V2 hm; exact absurd hm (Nat.not_lt_zero _)
    | succ fu ih =>
      intro k V2 hm hk hP2 w2_99 hF2
      have ih9 := ih
      refine ia_iload_n (pc := 9) F dX8_inkInWells_9 rfl ?_
      refine ia_bipush (pc := 10) F dX8_inkInWells_10 (by decide) ?_
      refine ia_icmp_ge (pc := 12) F 33 dX8_inkInWells_12 rfl (by omega) (by omega) (fun h_1 => ?_) (fun h_1 => ?_)
      · refine ia_iload_n (pc := 33) F dX8_inkInWells_33 rfl ?_
        refine ia_ireturn (pc := 34) F M (by decide) (by decide) dX8_inkInWells_34 ?_
        rw [show k = 10 by omega]
        exact q1 _ hP2 w2_99 hF2
      · refine ia_iload_n (pc := 15) F dX8_inkInWells_15 rfl ?_
        refine ia_aload_n (pc := 16) F dX8_inkInWells_16 rfl ?_
        refine jg (pc := 17) F (z99 hZ) cls11 f11_0 (hP2 99 0 100 rfl) il_RX8_7 dX8_inkInWells_17 ?_
        refine ia_bipush (pc := 20) F dX8_inkInWells_20 (by decide) ?_
        refine ia_iload_n (pc := 22) F dX8_inkInWells_22 rfl ?_
        refine ia_iadd (pc := 23) F dX8_inkInWells_23 ?_
        have r_2 := sw k (by omega)
        refine ja (pc := 24) F (v := wel σ k) (z100 hZ) (8 + k) rfl (by omega) (congrFun ((hF2 100 (by decide)).trans h100) (8 + k)) dX8_inkInWells_24 ?_
        refine ia_iadd (pc := 25) F dX8_inkInWells_25 ?_
        refine ia_istore_n (pc := 26) F (ls' := [(4, ((99 : Nat) : Int)), (0, ((psum (wel σ) k) + wel σ k)), (0, (k : Int))]) dX8_inkInWells_26 (Nat.le_of_ble_eq_true rfl) rfl rfl ?_
        refine ia_iinc (pc := 27) F (ls' := [(4, ((99 : Nat) : Int)), (0, ((psum (wel σ) k) + wel σ k)), (0, ((k + 1 : Nat) : Int))]) dX8_inkInWells_27 rfl rfl rfl rfl ?_
        refine ia_goto (pc := 30) F 9 dX8_inkInWells_30 rfl ?_
        exact ih9 (k + 1) _ (by omega) (by omega) hP2 w2_99 hF2
  exact L9 (10 + 1) 0 _ (by omega) (by omega) (PI_u hP rfl) (rowU h99) (Fr_u (Fr_0 (V := V) (S := [99])) (by decide))
set_option maxRecDepth 100000 in
theorem c_X8_editionByMissing {Z : ia_Z} {V : ia_H} {Q : ia_O → ia_Z → ia_H → Prop} {σ : Nat → Int} {μ : Nat → Int} {m : Int} (e : Int) (hZ : ZI Z) (hP : PI V) (hI : SI σ m) (h99 : V 99 = μ) (h100 : V 100 = σ) (re : -2147483648 ≤ e ∧ e ≤ 2147483647) (q1 : ∀ (k : Nat) (V1 : ia_H), ((k : Int) < σ 0) → (∀ j, j < k → ¬ ahd σ j (σ 0).toNat = e) → (ahd σ k (σ 0).toNat = e) → PI V1 → (V1 99 = up μ 9 0) → (∀ pp, pp ∉ ([99] : List Nat) → V1 pp = V pp) → Q (.inl (some (0, (k : Int)))) Z V1) (q2 : ∀ (V1 : ia_H), (∀ j : Nat, (j : Int) < σ 0 → ¬ ahd σ j (σ 0).toNat = e) → PI V1 → (V1 99 = up (up μ 9 0) 9 1) → (∀ pp, pp ∉ ([99] : List Nat) → V1 pp = V pp) → Q (.inl (some (0, 0))) Z V1) : ia_K yX8_editionByMissing cX8_editionByMissing 5 (some .int) [(4, ((99 : Nat) : Int)), (0, e)] Z V 3 0 0 Q := by
  refine ia_start RX8 "editionByMissing" ⟨by decide, rfl, rfl⟩ (Nat.le_of_ble_eq_true rfl) (ia_tg rfl) (fun X F M => ?_)
  show ia_G X 0 0 0 [(4, ((99 : Nat) : Int)), (0, e), (9, 0), (9, 0), (9, 0)] [] Z V
  obtain ⟨s0, s1, s2, s3, s4, s5, s6, s7, s18, sb, sw, se, sp⟩ := id hI
  refine ia_aload_n (pc := 0) F dX8_editionByMissing_0 rfl ?_
  refine ia_iconst (pc := 1) F dX8_editionByMissing_1 ?_
  refine jp (pc := 2) F (z99 hZ) cls11 f11_9 rfl (ia_nI rfl _) il_RX8_37 dX8_editionByMissing_2 ?_
  refine ia_iconst (pc := 5) F dX8_editionByMissing_5 ?_
  refine ia_istore_n (pc := 6) F (ls' := [(4, ((99 : Nat) : Int)), (0, e), (0, 0), (9, 0), (9, 0)]) dX8_editionByMissing_6 (Nat.le_of_ble_eq_true rfl) rfl rfl ?_
  have L7 : ∀ (fu : Nat) (k : Nat) (V2 : ia_H), (7 - k < fu) → ((k : Int) ≤ σ 0) → (∀ j, j < k → ¬ ahd σ j (σ 0).toNat = e) → (PI V2) → (V2 99 = up μ 9 0) → (∀ pp, pp ∉ ([99] : List Nat) → V2 pp = V pp) → ia_G X 0 0 7 [(4, ((99 : Nat) : Int)), (0, e), (0, (k : Int)), (9, 0), (9, 0)] [] Z V2 := by
    intro fu
    induction fu with
    | zero => intro k V2 hm; exact absurd hm (Nat.not_lt_zero _)
    | succ fu ih =>
      intro k V2 hm hk hj hP2 w2_99 hF2
      have ih7 := ih
      refine ia_iload_n (pc := 7) F dX8_editionByMissing_7 rfl ?_
      refine ia_aload_n (pc := 8) F dX8_editionByMissing_8 rfl ?_
      refine jg (pc := 9) F (z99 hZ) cls11 f11_0 (hP2 99 0 100 rfl) il_RX8_7 dX8_editionByMissing_9 ?_
      refine ia_iconst (pc := 12) F dX8_editionByMissing_12 ?_
      refine ja (pc := 13) F (v := σ 0) (z100 hZ) 0 rfl (by omega) (congrFun ((hF2 100 (by decide)).trans h100) 0) dX8_editionByMissing_13 ?_
      refine ia_icmp_ge (pc := 14) F 94 dX8_editionByMissing_14 rfl (by omega) (by omega) (fun h_1 => ?_) (fun h_1 => ?_)
      · refine ia_aload_n (pc := 94) F dX8_editionByMissing_94 rfl ?_
        refine ia_iconst (pc := 95) F dX8_editionByMissing_95 ?_
        refine jV (pc := 96) F 0 0 (z99 hZ) cls11.1 (c_X8_fail 1 hZ hP2 w2_99 ((hF2 100 (by decide)).trans h100) (fun V_2 p_3 w_4 f_5 => ?_)) rfl ⟨k_X8_fail, il_RX8_106, im_X8_fail, is_X8_fail, ii_RX8⟩ 1 rfl hd_X8_fail ⟨by decide, by decide, by decide, by decide, Nat.le_of_ble_eq_true rfl⟩ dX8_editionByMissing_96
        refine j1 ?_
        refine ia_ireturn (pc := 99) F M (by decide) (by decide) dX8_editionByMissing_99 ?_
        exact q2 _ (fun j hj9 => hj j (by omega)) p_3 w_4 (Fr_c hF2 f_5 (by decide))
      · refine ia_iconst (pc := 17) F dX8_editionByMissing_17 ?_
        refine ia_istore_n (pc := 18) F (ls' := [(4, ((99 : Nat) : Int)), (0, e), (0, (k : Int)), (0, 0), (9, 0)]) dX8_editionByMissing_18 (Nat.le_of_ble_eq_true rfl) rfl rfl ?_
        refine ia_iconst (pc := 19) F dX8_editionByMissing_19 ?_
        refine ia_istore (pc := 20) F (ls' := [(4, ((99 : Nat) : Int)), (0, e), (0, (k : Int)), (0, 0), (0, 0)]) dX8_editionByMissing_20 (Nat.le_of_ble_eq_true rfl) rfl rfl ?_
        have L22 : ∀ (fu : Nat) (o : Nat) (a : Int) (V3 : ia_H), (7 - o < fu) → ((o : Int) ≤ σ 0) → (a = ahd σ k o) → (PI V3) → (V3 99 = up μ 9 0) → (∀ pp, pp ∉ ([99] : List Nat) → V3 pp = V pp) → ia_G X 0 0 22 [(4, ((99 : Nat) : Int)), (0, e), (0, (k : Int)), (0, a), (0, (o : Int))] [] Z V3 := by
          intro fu
          induction fu with
          | zero => intro o a V3 hm; exact absurd hm (Nat.not_lt_zero _)
          | succ fu ih =>
            intro o a V3 hm ho ha hP3 w3_99 hF3
            have ih22 := ih
            refine ia_iload (pc := 22) F dX8_editionByMissing_22 rfl ?_
            refine ia_aload_n (pc := 24) F dX8_editionByMissing_24 rfl ?_
            refine jg (pc := 25) F (z99 hZ) cls11 f11_0 (hP3 99 0 100 rfl) il_RX8_7 dX8_editionByMissing_25 ?_
            refine ia_iconst (pc := 28) F dX8_editionByMissing_28 ?_
            refine ja (pc := 29) F (v := σ 0) (z100 hZ) 0 rfl (by omega) (congrFun ((hF3 100 (by decide)).trans h100) 0) dX8_editionByMissing_29 ?_
            refine ia_icmp_ge (pc := 30) F 81 dX8_editionByMissing_30 rfl (by omega) (by omega) (fun h_6 => ?_) (fun h_6 => ?_)
            · have e9 : a = ahd σ k (σ 0).toNat := by rw [ha, show o = (σ 0).toNat by omega]
              have r9 := ahd_rng (σ := σ) (k := k) o
              rw [← ha] at r9
              refine ia_iload_n (pc := 81) F dX8_editionByMissing_81 rfl ?_
              refine ia_iload_n (pc := 82) F dX8_editionByMissing_82 rfl ?_
              refine ia_icmp_ne (pc := 83) F 88 dX8_editionByMissing_83 rfl (by omega) (by omega) (fun h_7 => ?_) (fun h_7 => ?_)
              · refine ia_iinc (pc := 88) F (ls' := [(4, ((99 : Nat) : Int)), (0, e), (0, ((k + 1 : Nat) : Int)), (0, a), (0, (o : Int))]) dX8_editionByMissing_88 rfl rfl rfl rfl ?_
                refine ia_goto (pc := 91) F 7 dX8_editionByMissing_91 rfl ?_
                refine jw (ls' := [(4, ((99 : Nat) : Int)), (0, e), (0, ((k + 1 : Nat) : Int)), (9, 0), (9, 0)]) [false, false, false, true, true] rfl ?_
                exact ih7 (k + 1) _ (by omega) (by omega) (fun j hj9 => by rcases Nat.lt_or_ge j k with g | g; exact hj j g; rw [show j = k by omega, ← e9]; omega) hP3 w3_99 hF3
              · refine ia_iload_n (pc := 86) F dX8_editionByMissing_86 rfl ?_
                refine ia_ireturn (pc := 87) F M (by decide) (by decide) dX8_editionByMissing_87 ?_
                exact q1 _ _ (by omega) hj (by omega) hP3 w3_99 hF3
            · have r9 := se k (by omega)
              have r8 := se o (by omega)
              have r7 : miss σ k = run σ k - prt σ k := rfl
              have r6 : miss σ o = run σ o - prt σ o := rfl
              refine ia_iload_n (pc := 33) F dX8_editionByMissing_33 rfl ?_
              refine ia_aload_n (pc := 34) F dX8_editionByMissing_34 rfl ?_
              refine ia_iload (pc := 35) F dX8_editionByMissing_35 rfl ?_
              refine jV (pc := 37) F 0 0 (z99 hZ) cls11.1 (c_X8_missing (o : Int) hZ hP3 hI w3_99 ((hF3 100 (by decide)).trans h100) (by omega) ?_) rfl ⟨k_X8_missing, il_RX8_156, im_X8_missing, is_X8_missing, ii_RX8⟩ 1 rfl hd_X8_missing ⟨by decide, by decide, by decide, by decide, Nat.le_of_ble_eq_true rfl⟩ dX8_editionByMissing_37
              change ia_ct X _ _ (37 + 3) _ _ _ (.inl (some (0, (miss σ o)))) _ _
              refine j1 ?_
              refine ia_aload_n (pc := 40) F dX8_editionByMissing_40 rfl ?_
              refine ia_iload_n (pc := 41) F dX8_editionByMissing_41 rfl ?_
              refine jV (pc := 42) F 0 0 (z99 hZ) cls11.1 (c_X8_missing (k : Int) hZ hP3 hI w3_99 ((hF3 100 (by decide)).trans h100) (by omega) ?_) rfl ⟨k_X8_missing, il_RX8_156, im_X8_missing, is_X8_missing, ii_RX8⟩ 1 rfl hd_X8_missing ⟨by decide, by decide, by decide, by decide, Nat.le_of_ble_eq_true rfl⟩ dX8_editionByMissing_42
              change ia_ct X _ _ (42 + 3) _ _ _ (.inl (some (0, (miss σ k)))) _ _
              refine j1 ?_
              refine ia_icmp_gt (pc := 45) F 68 dX8_editionByMissing_45 rfl (by omega) (by omega) (fun h_8 => ?_) (fun h_8 => ?_)
              · refine ia_iconst (pc := 68) F dX8_editionByMissing_68 ?_
                refine ia_goto (pc := 69) F 73 dX8_editionByMissing_69 rfl ?_
                refine ia_iadd (pc := 73) F dX8_editionByMissing_73 ?_
                refine ia_istore_n (pc := 74) F (ls' := [(4, ((99 : Nat) : Int)), (0, e), (0, (k : Int)), (0, (a + 1)), (0, (o : Int))]) dX8_editionByMissing_74 (Nat.le_of_ble_eq_true rfl) rfl rfl ?_
                refine ia_iinc (pc := 75) F (ls' := [(4, ((99 : Nat) : Int)), (0, e), (0, (k : Int)), (0, (a + 1)), (0, ((o + 1 : Nat) : Int))]) dX8_editionByMissing_75 rfl rfl rfl rfl ?_
                refine ia_goto (pc := 78) F 22 dX8_editionByMissing_78 rfl ?_
                exact ih22 (o + 1) (a + 1) _ (by omega) (by omega) (by first | (rw [ahd_1 (by omega)]; omega) | (rw [ahd_n (by omega)]; omega)) hP3 w3_99 hF3
              · refine ia_aload_n (pc := 48) F dX8_editionByMissing_48 rfl ?_
                refine ia_iload (pc := 49) F dX8_editionByMissing_49 rfl ?_
                refine jV (pc := 51) F 0 0 (z99 hZ) cls11.1 (c_X8_missing (o : Int) hZ hP3 hI w3_99 ((hF3 100 (by decide)).trans h100) (by omega) ?_) rfl ⟨k_X8_missing, il_RX8_156, im_X8_missing, is_X8_missing, ii_RX8⟩ 1 rfl hd_X8_missing ⟨by decide, by decide, by decide, by decide, Nat.le_of_ble_eq_true rfl⟩ dX8_editionByMissing_51
                change ia_ct X _ _ (51 + 3) _ _ _ (.inl (some (0, (miss σ o)))) _ _
                refine j1 ?_
                refine ia_aload_n (pc := 54) F dX8_editionByMissing_54 rfl ?_
                refine ia_iload_n (pc := 55) F dX8_editionByMissing_55 rfl ?_
                refine jV (pc := 56) F 0 0 (z99 hZ) cls11.1 (c_X8_missing (k : Int) hZ hP3 hI w3_99 ((hF3 100 (by decide)).trans h100) (by omega) ?_) rfl ⟨k_X8_missing, il_RX8_156, im_X8_missing, is_X8_missing, ii_RX8⟩ 1 rfl hd_X8_missing ⟨by decide, by decide, by decide, by decide, Nat.le_of_ble_eq_true rfl⟩ dX8_editionByMissing_56
                change ia_ct X _ _ (56 + 3) _ _ _ (.inl (some (0, (miss σ k)))) _ _
                refine j1 ?_
                refine ia_icmp_ne (pc := 59) F 72 dX8_editionByMissing_59 rfl (by omega) (by omega) (fun h_9 => ?_) (fun h_9 => ?_)
                · refine ia_iconst (pc := 72) F dX8_editionByMissing_72 ?_
                  refine ia_iadd (pc := 73) F dX8_editionByMissing_73 ?_
                  refine ia_istore_n (pc := 74) F (ls' := [(4, ((99 : Nat) : Int)), (0, e), (0, (k : Int)), (0, (a + 0)), (0, (o : Int))]) dX8_editionByMissing_74 (Nat.le_of_ble_eq_true rfl) rfl rfl ?_
                  refine ia_iinc (pc := 75) F (ls' := [(4, ((99 : Nat) : Int)), (0, e), (0, (k : Int)), (0, (a + 0)), (0, ((o + 1 : Nat) : Int))]) dX8_editionByMissing_75 rfl rfl rfl rfl ?_
                  refine ia_goto (pc := 78) F 22 dX8_editionByMissing_78 rfl ?_
                  exact ih22 (o + 1) (a + 0) _ (by omega) (by omega) (by first | (rw [ahd_1 (by omega)]; omega) | (rw [ahd_n (by omega)]; omega)) hP3 w3_99 hF3
                · refine ia_iload (pc := 62) F dX8_editionByMissing_62 rfl ?_
                  refine ia_iload_n (pc := 64) F dX8_editionByMissing_64 rfl ?_
                  refine ia_icmp_ge (pc := 65) F 72 dX8_editionByMissing_65 rfl (by omega) (by omega) (fun h_10 => ?_) (fun h_10 => ?_)
                  · refine ia_iconst (pc := 72) F dX8_editionByMissing_72 ?_
                    refine ia_iadd (pc := 73) F dX8_editionByMissing_73 ?_
                    refine ia_istore_n (pc := 74) F (ls' := [(4, ((99 : Nat) : Int)), (0, e), (0, (k : Int)), (0, (a + 0)), (0, (o : Int))]) dX8_editionByMissing_74 (Nat.le_of_ble_eq_true rfl) rfl rfl ?_
                    refine ia_iinc (pc := 75) F (ls' := [(4, ((99 : Nat) : Int)), (0, e), (0, (k : Int)), (0, (a + 0)), (0, ((o + 1 : Nat) : Int))]) dX8_editionByMissing_75 rfl rfl rfl rfl ?_
                    refine ia_goto (pc := 78) F 22 dX8_editionByMissing_78 rfl ?_
                    exact ih22 (o + 1) (a + 0) _ (by omega) (by omega) (by first | (rw [ahd_1 (by omega)]; omega) | (rw [ahd_n (by omega)]; omega)) hP3 w3_99 hF3
                  · refine ia_iconst (pc := 68) F dX8_editionByMissing_68 ?_
                    refine ia_goto (pc := 69) F 73 dX8_editionByMissing_69 rfl ?_
                    refine ia_iadd (pc := 73) F dX8_editionByMissing_73 ?_
                    refine ia_istore_n (pc := 74) F (ls' := [(4, ((99 : Nat) : Int)), (0, e), (0, (k : Int)), (0, (a + 1)), (0, (o : Int))]) dX8_editionByMissing_74 (Nat.le_of_ble_eq_true rfl) rfl rfl ?_
                    refine ia_iinc (pc := 75) F (ls' := [(4, ((99 : Nat) : Int)), (0, e), (0, (k : Int)), (0, (a + 1)), (0, ((o + 1 : Nat) : Int))]) dX8_editionByMissing_75 rfl rfl rfl rfl ?_
                    refine ia_goto (pc := 78) F 22 dX8_editionByMissing_78 rfl ?_
                    exact ih22 (o + 1) (a + 1) _ (by omega) (by omega) (by first | (rw [ahd_1 (by omega)]; omega) | (rw [ahd_n (by omega)]; omega)) hP3 w3_99 hF3
        exact L22 (7 + 1) 0 0 _ (by omega) (by omega) rfl hP2 w2_99 hF2
  exact L7 (7 + 1) 0 _ (by omega) (by omega) (fun j hj9 => absurd hj9 (Nat.not_lt_zero _)) (PI_u hP rfl) (rowU h99) (Fr_u (Fr_0 (V := V) (S := [99])) (by decide))
