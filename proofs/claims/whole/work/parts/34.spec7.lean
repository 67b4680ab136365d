/-! the printing of all (made by wip/whole/mkspec7.py) -/
theorem nsh_has {σ f : Nat → Int} : ∀ k : Nat, ¬ nsh σ f k < 0 → f (nsh σ f k).toNat < miss σ (nsh σ f k).toNat
  | 0, h => absurd (by unfold nsh; decide) h
  | k + 1, h => by
    by_cases g : f k < miss σ k ∧ (nsh σ f k < 0 ∨ f k < f (nsh σ f k).toNat)
    · have e : nsh σ f (k + 1) = (k : Int) := if_pos g
      rw [e, Int.toNat_natCast]
      exact g.1
    · have e : nsh σ f (k + 1) = nsh σ f k := if_neg g
      rw [e] at h ⊢
      exact nsh_has k h
/-- no edition gets more than it misses; the shares don't pass the sheets dealt -/
theorem shs_top {σ : Nat → Int} (h0 : 0 ≤ σ 0 ∧ σ 0 ≤ 7) (hm : ∀ e : Nat, (e : Int) < σ 0 → 0 ≤ miss σ e) : ∀ n : Nat, (∀ e : Nat, (e : Int) < σ 0 → shs σ n e ≤ miss σ e) ∧ psum (shs σ n) 7 ≤ (n : Int)
  | 0 => ⟨fun e he => hm e he, by show psum (fun _ => (0 : Int)) 7 ≤ 0; rw [psum_c]; decide⟩
  | n + 1 => by
    obtain ⟨h1, h2⟩ := shs_top h0 hm n
    by_cases g : nsh σ (shs σ n) (σ 0).toNat < 0
    · rw [shs_s, if_pos g]
      exact ⟨h1, by omega⟩
    · have hr := nsh_rng (σ := σ) (f := shs σ n) (σ 0).toNat
      have hh := nsh_has _ g
      rw [shs_s, if_neg g]
      refine ⟨fun e he => ?_, ?_⟩
      · by_cases q : e = (nsh σ (shs σ n) (σ 0).toNat).toNat
        · rw [q, up_self]; omega
        · rw [up_ne q]; exact h1 e he
      · have := psum_upd (f := shs σ n) (g := up (shs σ n) (nsh σ (shs σ n) (σ 0).toNat).toNat (shs σ n (nsh σ (shs σ n) (σ 0).toNat).toNat + 1)) (c := (nsh σ (shs σ n) (σ 0).toNat).toNat) (d := 1) (up_self _ _ _) (fun k hk => up_ne hk) 7
        rw [if_pos (by omega)] at this
        omega
/-- a list's shares, laid by edition -/
def msk (sh : Nat → Int) (M : List Nat) : Nat → Nat → Int
  | 0 => fun _ => 0
  | k + 1 => up (msk sh M k) (M.getD k 0) (sh (M.getD k 0))
theorem msk_0 {sh : Nat → Int} {M : List Nat} : ∀ (k e : Nat), (∀ i : Nat, i < k → M.getD i 0 ≠ e) → msk sh M k e = 0
  | 0, _, _ => rfl
  | k + 1, e, h => by
    show up (msk sh M k) (M.getD k 0) _ e = 0
    rw [up_ne (fun q => h k (by omega) q.symm)]
    exact msk_0 k e (fun i hi => h i (by omega))
theorem msk_le {sh : Nat → Int} {M : List Nat} (hs : ∀ e, 0 ≤ sh e) : ∀ (k e : Nat), msk sh M k e ≤ sh e
  | 0, e => hs e
  | k + 1, e => by
    show up (msk sh M k) (M.getD k 0) _ e ≤ _
    by_cases q : e = M.getD k 0
    · rw [q, up_self]; omega
    · rw [up_ne q]; exact msk_le hs k e
theorem msk_sum {sh : Nat → Int} {M : List Nat} {L : Nat} (hM : ∀ i : Nat, i < L → M.getD i 0 < 7) (hn : ∀ i j : Nat, i < j → j < L → M.getD i 0 ≠ M.getD j 0) : ∀ k : Nat, k ≤ L → psum (fun i => sh (M.getD i 0)) k = psum (msk sh M k) 7
  | 0, _ => by
    show (0 : Int) = psum (fun _ => (0 : Int)) 7
    rw [psum_c]; decide
  | k + 1, hk => by
    have h0 := msk_0 (sh := sh) (M := M) k (M.getD k 0) (fun i hi => hn i k hi (by omega))
    have := psum_upd (f := msk sh M k) (g := msk sh M (k + 1)) (c := M.getD k 0) (d := sh (M.getD k 0)) (by rw [h0]; show up _ _ _ _ = _; rw [up_self]; omega) (fun j hj => up_ne hj) 7
    rw [if_pos (hM k (by omega))] at this
    rw [psum_s, msk_sum hM hn k (by omega), this]
theorem lst_sum {sh : Nat → Int} {M : List Nat} {L : Nat} (hs : ∀ e, 0 ≤ sh e) (hM : ∀ i : Nat, i < L → M.getD i 0 < 7) (hn : ∀ i j : Nat, i < j → j < L → M.getD i 0 ≠ M.getD j 0) {k : Nat} (hk : k ≤ L) : psum (fun i => sh (M.getD i 0)) k ≤ psum sh 7 := by
  rw [msk_sum hM hn k hk]
  exact psum_le 7 (fun e he => msk_le hs k e)
/-- the order names each edition once -/
theorem mo_nd {cl : Nat → Int} : ∀ (n : Nat) (c : Int) (L : List Nat), L.length = n → L.Nodup → (mo cl n c L).Nodup
  | 0, _, _, _, _ => List.nodup_nil
  | n + 1, c, L, hn, h => by
    have hL : L ≠ [] := fun e => by rw [e] at hn; cases hn
    obtain ⟨p, s, x, e1, e2, -, -⟩ := chs_spec (mof cl c L) hL
    have hx : x ∈ L := by rw [e1]; exact List.mem_append_right _ List.mem_cons_self
    show (if (chs (mof cl c L) L).1 < 0 then [] else (chs (mof cl c L) L).1.toNat :: mo cl n (cl (chs (mof cl c L) L).1.toNat) (L.erase (chs (mof cl c L) L).1.toNat)).Nodup
    rw [e2]
    show (if (x : Int) < 0 then [] else (x : Int).toNat :: mo cl n (cl (x : Int).toNat) (L.erase (x : Int).toNat)).Nodup
    rw [if_neg (by omega), Int.toNat_natCast]
    refine List.nodup_cons.mpr ⟨fun hm => ?_, mo_nd n _ _ (by rw [List.length_erase_of_mem hx, hn]; rfl) (h.erase x)⟩
    have := mo_mem n _ _ x hm
    exact (List.Nodup.not_mem_erase h) this
theorem lin_nd (S : Nat) : ∀ n : Nat, (lin S n).Nodup
  | 0 => List.nodup_nil
  | n + 1 => by
    by_cases h : S.testBit n = true
    · rw [lin_1 h]
      refine List.nodup_append.mpr ⟨lin_nd S n, by simp, fun a ha b hb => ?_⟩
      have := ((lin_mem n).mp ha).1
      have : b = n := by simpa using hb
      omega
    · rw [lin_n h]; exact lin_nd S n
theorem opm_nd (σ : Nat → Int) : (opm σ).Nodup := mo_nd _ _ _ rfl (lin_nd _ _)
theorem nd_getD {M : List Nat} (h : M.Nodup) {i j : Nat} (hij : i < j) (hj : j < M.length) : M.getD i 0 ≠ M.getD j 0 := by
  rw [List.getD_eq_getElem?_getD, List.getD_eq_getElem?_getD, List.getElem?_eq_getElem hj, List.getElem?_eq_getElem (Nat.lt_trans hij hj)]
  show M[i] ≠ M[j]
  exact (List.pairwise_iff_getElem.mp h) i j (Nat.lt_trans hij hj) hj hij
theorem opm_at {σ : Nat → Int} {i : Nat} (h7 : 0 ≤ σ 0 ∧ σ 0 ≤ 7) (hi : i < (opm σ).length) : ((opm σ).getD i 0 : Int) < σ 0 ∧ 0 < miss σ ((opm σ).getD i 0) := by
  have hm : (opm σ).getD i 0 ∈ opm σ := by
    rw [List.getD_eq_getElem?_getD, List.getElem?_eq_getElem hi]
    exact List.getElem_mem hi
  have h1 := mol_mem hm
  obtain ⟨h2, h3⟩ := (lin_mem _).mp h1
  have h4 := opb_bit (σ := σ) (σ 0).toNat (by omega) ((opm σ).getD i 0) (by omega)
  rw [h4] at h3
  refine ⟨by omega, ?_⟩
  have := (Bool.and_eq_true _ _ ▸ h3)
  exact of_decide_eq_true this.2
-- one after the other
def pnn (τ : Nat → Int) (e : Nat) (u : Int) : Int := min u (wel τ (col τ e).toNat)
def prn (τ : Nat → Int) (e : Nat) (u : Int) : Nat → Int := if pnn τ e u = 0 then τ else s_print τ e (pnn τ e u)
def pst (σ sh : Nat → Int) (M : List Nat) : Nat → Nat → Int
  | 0 => σ
  | k + 1 => prn (pst σ sh M k) (M.getD k 0) (sh (M.getD k 0))
def pcn (σ sh : Nat → Int) (M : List Nat) (k : Nat) : Int := psum (fun i => pnn (pst σ sh M i) (M.getD i 0) (sh (M.getD i 0))) k
theorem s_print_f {τ : Nat → Int} {e : Nat} {n : Int} (hc : 0 ≤ col τ e ∧ col τ e ≤ 9) : s_print τ e n 0 = τ 0 ∧ s_print τ e n 2 = τ 2 - n ∧ s_print τ e n 5 = τ 5 + (wash (τ 4) (col τ e) + n) ∧ ∀ k : Nat, col (s_print τ e n) k = col τ k ∧ run (s_print τ e n) k = run τ k ∧ (k ≠ e → prt (s_print τ e n) k = prt τ k) := by
  have hc2 : 0 ≤ τ (20 + 4 * e) ∧ τ (20 + 4 * e) ≤ 9 := hc
  unfold s_print col run prt
  refine ⟨?_, ?_, ?_, fun k => ⟨?_, ?_, fun hk => ?_⟩⟩
  · rw [up_ne (by omega), up_ne (by omega), up_ne (by omega), up_ne (by omega), up_ne (by omega), up_ne (by omega)]
  · rw [up_ne (by omega), up_ne (by omega), up_ne (by omega), up_self]
  · rw [up_ne (by omega), up_ne (by omega), up_ne (by omega), up_ne (by omega), up_ne (by omega), up_self]
  · rw [up_ne (by omega), up_ne (by omega), up_ne (by omega), up_ne (by omega), up_ne (by omega), up_ne (by omega)]
  · rw [up_ne (by omega), up_ne (by omega), up_ne (by omega), up_ne (by omega), up_ne (by omega), up_ne (by omega)]
  · rw [up_ne (by omega), up_ne (by omega), up_ne (by omega), up_ne (by omega), up_ne (by omega), up_ne (by omega)]
/-- what holds after k prints -/
def PS (σ sh : Nat → Int) (M : List Nat) (m : Int) (k : Nat) (τ : Nat → Int) : Prop :=
  SI τ (m + 1) ∧ τ 0 = σ 0 ∧ (∀ e : Nat, col τ e = col σ e ∧ run τ e = run σ e) ∧ τ 5 ≤ 600 * m + 69 * (k : Int) ∧ σ 2 - psum (fun i => sh (M.getD i 0)) k ≤ τ 2 ∧ ∀ e : Nat, (∀ i : Nat, i < k → M.getD i 0 ≠ e) → prt τ e = prt σ e
theorem SI_up {σ : Nat → Int} {m : Int} (h : SI σ m) (hm : m + 1 ≤ 20000) : SI σ (m + 1) := by
  obtain ⟨s0, s1, s2, s3, s4, s5, s6, s7, s18, sb, sw, se, sp⟩ := h
  exact ⟨s0, s1, s2, by omega, s4, by omega, by omega, s7, s18, sb, sw, se, fun p hp => by have := sp p hp; omega⟩
def PH (σ sh : Nat → Int) (M : List Nat) (m : Int) : Prop := (SI σ m) ∧ (m + 1 ≤ 20000) ∧ (∀ e : Nat, 0 ≤ sh e) ∧ (∀ e : Nat, (e : Int) < σ 0 → sh e ≤ miss σ e) ∧ (M.length ≤ 7) ∧ (∀ i : Nat, i < M.length → ((M.getD i 0 : Nat) : Int) < σ 0) ∧ (∀ i j : Nat, i < j → j < M.length → M.getD i 0 ≠ M.getD j 0) ∧ (∀ k : Nat, k ≤ M.length → psum (fun i => sh (M.getD i 0)) k ≤ σ 2)
section PHS
variable {σ sh : Nat → Int} {M : List Nat} {m : Int}
theorem PH.si (h : PH σ sh M m) : SI σ m := h.1
theorem PH.hm (h : PH σ sh M m) : m + 1 ≤ 20000 := h.2.1
theorem PH.sh0 (h : PH σ sh M m) : ∀ e : Nat, 0 ≤ sh e := h.2.2.1
theorem PH.shm (h : PH σ sh M m) : ∀ e : Nat, (e : Int) < σ 0 → sh e ≤ miss σ e := h.2.2.2.1
theorem PH.len (h : PH σ sh M m) : M.length ≤ 7 := h.2.2.2.2.1
theorem PH.at_ (h : PH σ sh M m) : ∀ i : Nat, i < M.length → ((M.getD i 0 : Nat) : Int) < σ 0 := h.2.2.2.2.2.1
theorem PH.nd (h : PH σ sh M m) : ∀ i j : Nat, i < j → j < M.length → M.getD i 0 ≠ M.getD j 0 := h.2.2.2.2.2.2.1
theorem PH.sum (h : PH σ sh M m) : ∀ k : Nat, k ≤ M.length → psum (fun i => sh (M.getD i 0)) k ≤ σ 2 := h.2.2.2.2.2.2.2
end PHS
theorem pst_ok {σ sh : Nat → Int} {M : List Nat} {m : Int} (h : PH σ sh M m) : ∀ k : Nat, k ≤ M.length → PS σ sh M m k (pst σ sh M k)
  | 0, _ => ⟨SI_up h.si h.hm, rfl, fun e => ⟨rfl, rfl⟩, by have := h.si.2.2.2.2.2.1; show σ 5 ≤ _; omega, by show σ 2 - 0 ≤ σ 2; omega, fun e _ => rfl⟩
  | k + 1, hk => by
    obtain ⟨g1, g2, g3, g4, g5, g6⟩ := pst_ok h k (by omega)
    have hl := h.len
    have ha := h.at_ k (by omega)
    have hs := h.sh0 (M.getD k 0)
    have hsm := h.shm (M.getD k 0) ha
    have hsum := h.sum (k + 1) hk
    rw [psum_s] at hsum
    have ht := g6 (M.getD k 0) (fun i hi => h.nd i k hi (by omega))
    have hse := g1.2.2.2.2.2.2.2.2.2.2.2.1 (M.getD k 0) (by rw [g2]; exact ha)
    have hw := g1.2.2.2.2.2.2.2.2.2.2.1 (col (pst σ sh M k) (M.getD k 0)).toNat (by omega)
    have hws := wash_rng g1.2.2.2.2.1 hse.1
    have hrn := (g3 (M.getD k 0)).2
    have hp : pnn (pst σ sh M k) (M.getD k 0) (sh (M.getD k 0)) = min (sh (M.getD k 0)) (wel (pst σ sh M k) (col (pst σ sh M k) (M.getD k 0)).toNat) := rfl
    have hr : 0 ≤ pnn (pst σ sh M k) (M.getD k 0) (sh (M.getD k 0)) ∧ pnn (pst σ sh M k) (M.getD k 0) (sh (M.getD k 0)) ≤ sh (M.getD k 0) ∧ pnn (pst σ sh M k) (M.getD k 0) (sh (M.getD k 0)) ≤ wel (pst σ sh M k) (col (pst σ sh M k) (M.getD k 0)).toNat := by rw [hp]; omega
    have hmi : miss σ (M.getD k 0) = run σ (M.getD k 0) - prt σ (M.getD k 0) := rfl
    have hs2 : psum (fun i => sh (M.getD i 0)) (k + 1) = psum (fun i => sh (M.getD i 0)) k + sh (M.getD k 0) := rfl
    have e : pst σ sh M (k + 1) = prn (pst σ sh M k) (M.getD k 0) (sh (M.getD k 0)) := rfl
    rw [e]
    unfold prn
    generalize hn : pnn (pst σ sh M k) (M.getD k 0) (sh (M.getD k 0)) = n at hr
    by_cases q : n = 0
    · rw [if_pos q]
      exact ⟨g1, g2, g3, by omega, by rw [hs2]; omega, fun e he => g6 e (fun i hi => he i (by omega))⟩
    · rw [if_neg q]
      obtain ⟨f0, f2, f5, fe⟩ := s_print_f (τ := pst σ sh M k) (e := M.getD k 0) (n := n) hse.1
      have hm := h.hm
      refine ⟨SI_print (m := m + 1) (by rw [g2]; exact ha) ⟨hr.1, by omega, hr.2.2, by omega⟩ (by omega) ⟨by omega, by omega⟩ g1, f0.trans g2, fun e => ⟨(fe e).1.trans (g3 e).1, (fe e).2.1.trans (g3 e).2⟩, by rw [f5]; omega, by rw [f2, hs2]; omega, fun e he => ?_⟩
      rw [(fe e).2.2 (fun q2 => he k (by omega) q2.symm)]
      exact g6 e (fun i hi => he i (by omega))
/-- the shares sheet by sheet, in the best order -/
def shA (σ : Nat → Int) : Nat → Int := shs σ (σ 2).toNat
def s_all (σ : Nat → Int) : Nat → Int := pst σ (shA σ) (opm σ) (opm σ).length
def n_all (σ : Nat → Int) : Int := pcn σ (shA σ) (opm σ) (opm σ).length
theorem all_PH {σ : Nat → Int} {m : Int} (h : SI σ m) (hm : m + 1 ≤ 20000) : PH σ (shA σ) (opm σ) m := by
  have hI := h
  obtain ⟨s0, s1, s2, s3, s4, s5, s6, s7, s18, sb, sw, se, sp⟩ := h
  have ht := shs_top (σ := σ) s0 (fun e he => by have := se e he; unfold miss; omega) (σ 2).toNat
  have hl : (opm σ).length ≤ 7 := by rw [opm_len (by omega)]; have := oc_le (σ := σ) (σ 0).toNat; omega
  have h0 : ∀ e : Nat, 0 ≤ shA σ e := fun e => (shs_rng (σ := σ) e (σ 2).toNat).1
  have hnd : ∀ i j : Nat, i < j → j < (opm σ).length → (opm σ).getD i 0 ≠ (opm σ).getD j 0 := fun i j hij hj => nd_getD (opm_nd σ) hij hj
  refine ⟨hI, hm, h0, ht.1, hl, fun i hi => (opm_at s0 hi).1, hnd, fun k hk => ?_⟩
  have := lst_sum (M := opm σ) (L := (opm σ).length) h0 (fun i hi => by have := (opm_at s0 hi).1; omega) hnd hk
  have h9 : psum (shA σ) 7 ≤ ((σ 2).toNat : Int) := ht.2
  omega
theorem SI_all {σ : Nat → Int} {m : Int} (h : SI σ m) (hm : m + 1 ≤ 20000) : SI (s_all σ) (m + 1) := (pst_ok (all_PH h hm) _ (Nat.le_refl _)).1
theorem Sh_mv {b : Nat} {V V' : ia_H} {σ : Nat → Int} (h : Sh b V σ) (e : ∀ p : Nat, b ≤ p → p ≤ b + 6 → V' p = V p) : Sh b V' σ := by
  unfold Sh at h ⊢
  rw [e b (by omega) (by omega), e (b + 1) (by omega) (by omega), e (b + 2) (by omega) (by omega), e (b + 3) (by omega) (by omega), e (b + 4) (by omega) (by omega), e (b + 5) (by omega) (by omega), e (b + 6) (by omega) (by omega)]
  exact h
theorem pcn_s {σ sh : Nat → Int} {M : List Nat} {k : Nat} : pcn σ sh M (k + 1) = pcn σ sh M k + pnn (pst σ sh M k) (M.getD k 0) (sh (M.getD k 0)) := rfl
theorem pcn_rng {σ sh : Nat → Int} {M : List Nat} {m : Int} (h : PH σ sh M m) : ∀ k : Nat, k ≤ M.length → 0 ≤ pcn σ sh M k ∧ pcn σ sh M k ≤ psum (fun i => sh (M.getD i 0)) k
  | 0, _ => ⟨Int.le_refl _, Int.le_refl _⟩
  | k + 1, hk => by
    have ih := pcn_rng h k (by omega)
    obtain ⟨g1, g2, g3, -⟩ := pst_ok h k (by omega)
    have ha := h.at_ k (by omega)
    have hs := h.sh0 (M.getD k 0)
    have hse := g1.2.2.2.2.2.2.2.2.2.2.2.1 (M.getD k 0) (by rw [g2]; exact ha)
    have hw := g1.2.2.2.2.2.2.2.2.2.2.1 (col (pst σ sh M k) (M.getD k 0)).toNat (by omega)
    have hp : pnn (pst σ sh M k) (M.getD k 0) (sh (M.getD k 0)) = min (sh (M.getD k 0)) (wel (pst σ sh M k) (col (pst σ sh M k) (M.getD k 0)).toNat) := rfl
    rw [pcn_s, psum_s]
    omega
theorem prn_0 {τ : Nat → Int} {e : Nat} {u : Int} (h : pnn τ e u = 0) : prn τ e u = τ := if_pos h
theorem prn_1 {τ : Nat → Int} {e : Nat} {u n : Int} (h : pnn τ e u = n) (h0 : ¬ n = 0) : prn τ e u = s_print τ e n := by unfold prn; rw [h, if_neg h0]
theorem n_all_rng {σ : Nat → Int} {m : Int} (h : SI σ m) (hm : m + 1 ≤ 20000) : 0 ≤ n_all σ ∧ n_all σ ≤ 9999 := by
  have h1 := pcn_rng (all_PH h hm) (opm σ).length (Nat.le_refl _)
  have h2 := (all_PH h hm).sum (opm σ).length (Nat.le_refl _)
  have h3 := h.2.2.1
  show 0 ≤ pcn σ (shA σ) (opm σ) (opm σ).length ∧ pcn σ (shA σ) (opm σ) (opm σ).length ≤ 9999
  omega
