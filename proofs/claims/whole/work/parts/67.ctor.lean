/-! what is made anew, place by place (made by wip/whole/ctor.py) -/
def ZJ (N : Nat) (Z : ia_Z) : Prop := Z.2.2 = N ∧ ∀ k : Nat, k < N → Z.1 k = kdL.getD k 0 ∧ Z.2.1 k = lnL.getD k 0
theorem zj {N : Nat} {Z : ia_Z} (h : ZJ N Z) {p k len : Nat} (hp : p < N) (hk : kdL.getD p 0 = k ∧ lnL.getD p 0 = len) : p < Z.2.2 ∧ Z.1 p = k ∧ Z.2.1 p = len :=
  ⟨by rw [h.1]; exact hp, (h.2 p hp).1.trans hk.1, (h.2 p hp).2.trans hk.2⟩
theorem zj_n {N k len : Nat} {Z : ia_Z} (h : ZJ N Z) (hk : kdL.getD N 0 = k ∧ lnL.getD N 0 = len) : ZJ (N + 1) (ia_Zn Z k len) := by
  obtain ⟨e, h2⟩ := h
  subst e
  refine ⟨rfl, fun p hp => ?_⟩
  by_cases c : p = Z.2.2
  · rw [c]
    exact ⟨(if_pos rfl).trans hk.1.symm, (if_pos rfl).trans hk.2.symm⟩
  · have g := h2 p (by omega)
    exact ⟨(if_neg c).trans g.1, (if_neg c).trans g.2⟩
section CTR
variable {X : ia_X} {own : String} {cc : ByteArray} {nL d mc ms cells slots pc N : Nat} {ls st : List (Nat × Int)} {Z : ia_Z} {V : ia_H}
theorem jnI (F : ia_Fix X own cc nL d mc ms) {x : Int} (len : Nat) (hx : x = (len : Int)) (hl : len ≤ 1000000) (h : ZJ N Z) (hN : N ≤ 200) (hk : kdL.getD N 0 = 0 ∧ lnL.getD N 0 = len) (hR : cells + 1 ≤ mc ∧ slots + len ≤ ms) (dg : decode cc pc = .ok (.newarray .int, 2)) (kk : ∀ (Z1 : ia_Z) (V1 : ia_H), ZJ (N + 1) Z1 → V1 N = (fun _ => 0) → (∀ p : Nat, p ≠ N → V1 p = V p) → ia_G X (cells + 1) (slots + len) (pc + 2) ls ((4, (N : Int)) :: st) Z1 V1) : ia_G X cells slots pc ls ((0, x) :: st) Z V := by
  obtain ⟨e, h2⟩ := h
  subst e
  exact ia_newaI F len hx hl ia_a_int (Nat.lt_of_le_of_lt hN (by decide)) hR dg (kk _ _ (zj_n ⟨rfl, h2⟩ hk) (funext fun _ => if_pos rfl) (fun p hp => funext fun _ => if_neg hp))
theorem jnB (F : ia_Fix X own cc nL d mc ms) {x : Int} (len : Nat) (hx : x = (len : Int)) (hl : len ≤ 1000000) (h : ZJ N Z) (hN : N ≤ 200) (hk : kdL.getD N 0 = 3 ∧ lnL.getD N 0 = len) (hR : cells + 1 ≤ mc ∧ slots + len ≤ ms) (dg : decode cc pc = .ok (.newarray .byte, 2)) (kk : ∀ (Z1 : ia_Z) (V1 : ia_H), ZJ (N + 1) Z1 → V1 N = (fun _ => 0) → (∀ p : Nat, p ≠ N → V1 p = V p) → ia_G X (cells + 1) (slots + len) (pc + 2) ls ((4, (N : Int)) :: st) Z1 V1) : ia_G X cells slots pc ls ((0, x) :: st) Z V := by
  obtain ⟨e, h2⟩ := h
  subst e
  exact ia_newaB F len hx hl ia_a_byte (Nat.lt_of_le_of_lt hN (by decide)) hR dg (kk _ _ (zj_n ⟨rfl, h2⟩ hk) (funext fun _ => if_pos rfl) (fun p hp => funext fun _ => if_neg hp))
theorem jn4 (F : ia_Fix X own cc nL d mc ms) {x : Int} {index : Nat} (len : Nat) (hx : x = (len : Int)) (hl : len ≤ 1000000) (h : ZJ N Z) (hN : N ≤ 200) (hk : kdL.getD N 0 = 4 ∧ lnL.getD N 0 = len) (hw : Cond.classLink own index RX6 ∈ wU) (hR : cells + 1 ≤ mc ∧ slots + len ≤ ms) (dg : decode cc pc = .ok (.anewarray index, 3)) (kk : ∀ (Z1 : ia_Z) (V1 : ia_H), ZJ (N + 1) Z1 → V1 N = (fun _ => -1) → (∀ p : Nat, p ≠ N → V1 p = V p) → ia_G X (cells + 1) (slots + len) (pc + 3) ls ((4, (N : Int)) :: st) Z1 V1) : ia_G X cells slots pc ls ((0, x) :: st) Z V := by
  obtain ⟨e, h2⟩ := h
  subst e
  exact ia_newq4 F len hx hl hw (Nat.lt_of_le_of_lt hN (by decide)) hR dg (kk _ _ (zj_n ⟨rfl, h2⟩ hk) (funext fun _ => if_pos rfl) (fun p hp => funext fun _ => if_neg hp))
theorem jn5 (F : ia_Fix X own cc nL d mc ms) {x : Int} {index : Nat} (len : Nat) (hx : x = (len : Int)) (hl : len ≤ 1000000) (h : ZJ N Z) (hN : N ≤ 200) (hk : kdL.getD N 0 = 5 ∧ lnL.getD N 0 = len) (hw : Cond.classLink own index RX1 ∈ wU) (hR : cells + 1 ≤ mc ∧ slots + len ≤ ms) (dg : decode cc pc = .ok (.anewarray index, 3)) (kk : ∀ (Z1 : ia_Z) (V1 : ia_H), ZJ (N + 1) Z1 → V1 N = (fun _ => -1) → (∀ p : Nat, p ≠ N → V1 p = V p) → ia_G X (cells + 1) (slots + len) (pc + 3) ls ((4, (N : Int)) :: st) Z1 V1) : ia_G X cells slots pc ls ((0, x) :: st) Z V := by
  obtain ⟨e, h2⟩ := h
  subst e
  exact ia_newq5 F len hx hl hw (Nat.lt_of_le_of_lt hN (by decide)) hR dg (kk _ _ (zj_n ⟨rfl, h2⟩ hk) (funext fun _ => if_pos rfl) (fun p hp => funext fun _ => if_neg hp))
theorem jnO (F : ia_Fix X own cc nL d mc ms) {ci M index : Nat} {C : String} {T : u_T} (hC : ia_Cls ci C T M) (hw : Cond.classLink own index C ∈ wU ∧ Cond.instantiable C M ∈ wU ∧ Cond.initialized C ∈ wU) (h : ZJ N Z) (hN : N ≤ 200) (hk : kdL.getD N 0 = 10 + ci ∧ lnL.getD N 0 = 0) (hR : cells + 1 ≤ mc ∧ slots + M ≤ ms) (dg : decode cc pc = .ok (.new index, 3)) (kk : ∀ (Z1 : ia_Z) (V1 : ia_H), ZJ (N + 1) Z1 → V1 N = ia_d0 ci → (∀ p : Nat, p ≠ N → V1 p = V p) → ia_G X (cells + 1) (slots + M) (pc + 3) ls ((4, (N : Int)) :: st) Z1 V1) : ia_G X cells slots pc ls st Z V := by
  obtain ⟨e, h2⟩ := h
  subst e
  exact ia_new F hC hw (Nat.lt_of_le_of_lt hN (by decide)) hR dg (kk _ _ (zj_n ⟨rfl, h2⟩ hk) (funext fun _ => if_pos rfl) (fun p hp => funext fun _ => if_neg hp))
theorem jpF (F : ia_Fix X own cc nL d mc ms) {ci M index : Nat} {C : String} {T : u_T} {q L k t : Nat} {y : Int} (z : q < Z.2.2 ∧ Z.1 q = 10 + ci ∧ Z.2.1 q = L) (hC : ia_Cls ci C T M) (hf : k < M ∧ ia_tag (ia_ty ci k) = t) (hfin : (T k).2.2.2 = true) (hi : X.2.2.2.2.2.2.2.2.1.name = "<init>") (ho : (T k).1 = own) (hn : ∀ ad : Nat → Nat, narrow (ia_ty ci k) (ia_cv ad (t, y)) = ia_cv ad (t, y) ∧ fits (ia_ty ci k) (ia_cv ad (t, y)) = true) (hw : Cond.fieldLink own index (T k).1 (T k).2.1 (T k).2.2.1 ∈ wU) (dg : decode cc pc = .ok (.putfield index, 3)) (kk : ia_G X cells slots (pc + 3) ls st Z (ia_u V q k y)) : ia_G X cells slots pc ls ((t, y) :: (4, (q : Int)) :: st) Z V :=
  ia_putF F hC k hf.1 q rfl z.1 z.2.1 hf.2 hfin hi ho hn hw dg kk
end CTR
