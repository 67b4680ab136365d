/-! the shares by level are the shares sheet by sheet (made by wip/whole/mkspec9.py) -/
def BF (σ : Nat → Int) (L : Int) (c e : Nat) : Int := if e < c ∧ L < miss σ e then L + 1 else min L (miss σ e)
theorem BF_1 {σ : Nat → Int} {L : Int} {c e : Nat} (h : e < c ∧ L < miss σ e) : BF σ L c e = L + 1 := if_pos h
theorem BF_0 {σ : Nat → Int} {L : Int} {c e : Nat} (h : ¬ (e < c ∧ L < miss σ e)) : BF σ L c e = min L (miss σ e) := if_neg h
theorem nsh_none {σ f : Nat → Int} : ∀ k : Nat, nsh σ f k < 0 → ∀ j : Nat, j < k → ¬ f j < miss σ j
  | 0, _, j, h => absurd h (Nat.not_lt_zero _)
  | k + 1, hn, j, hj => by
    by_cases g : f k < miss σ k ∧ (nsh σ f k < 0 ∨ f k < f (nsh σ f k).toNat)
    · have e : nsh σ f (k + 1) = (k : Int) := if_pos g
      omega
    · have e : nsh σ f (k + 1) = nsh σ f k := if_neg g
      rw [e] at hn
      rcases Nat.lt_or_ge j k with q | q
      · exact nsh_none k hn j q
      · rw [show j = k by omega]
        exact fun h => g ⟨h, Or.inl hn⟩
theorem nsh_min {σ f : Nat → Int} : ∀ k : Nat, ¬ nsh σ f k < 0 → ∀ j : Nat, j < k → f j < miss σ j → f (nsh σ f k).toNat ≤ f j ∧ (j < (nsh σ f k).toNat → f (nsh σ f k).toNat < f j)
  | 0, _, j, h, _ => absurd h (Nat.not_lt_zero _)
  | k + 1, hn, j, hj, hf => by
    by_cases g : f k < miss σ k ∧ (nsh σ f k < 0 ∨ f k < f (nsh σ f k).toNat)
    · have e : nsh σ f (k + 1) = (k : Int) := if_pos g
      rw [e, Int.toNat_natCast]
      rcases Nat.lt_or_ge j k with q | q
      · rcases g.2 with a | a
        · exact absurd hf (nsh_none k a j q)
        · by_cases b : nsh σ f k < 0
          · exact absurd hf (nsh_none k b j q)
          · have := (nsh_min k b j q hf).1
            exact ⟨by omega, fun _ => by omega⟩
      · rw [show j = k by omega]
        exact ⟨Int.le_refl _, fun h => absurd h (Nat.lt_irrefl _)⟩
    · have e : nsh σ f (k + 1) = nsh σ f k := if_neg g
      rw [e] at hn ⊢
      rcases Nat.lt_or_ge j k with q | q
      · exact nsh_min k hn j q hf
      · have ej : j = k := by omega
        subst ej
        have hr := nsh_rng (σ := σ) (f := f) j
        refine ⟨?_, fun h => by omega⟩
        rcases Int.lt_or_le (f j) (f (nsh σ f j).toNat) with a | a
        · exact absurd ⟨hf, Or.inr a⟩ g
        · exact a
theorem psum_eq {f g : Nat → Int} : ∀ n : Nat, (∀ e : Nat, e < n → f e ≤ g e) → psum f n = psum g n → ∀ e : Nat, e < n → f e = g e
  | 0, _, _, e, h => absurd h (Nat.not_lt_zero _)
  | n + 1, hl, hs, e, he => by
    have h1 := psum_le n (fun k hk => hl k (by omega))
    have h2 := hl n (by omega)
    rw [psum_s, psum_s] at hs
    rcases Nat.lt_or_ge e n with q | q
    · exact psum_eq n (fun k hk => hl k (by omega)) (by omega) e q
    · rw [show e = n by omega]; omega
theorem BF_cmp {σ : Nat → Int} (L L' : Int) (c c' : Nat) : (∀ e : Nat, BF σ L c e ≤ BF σ L' c' e) ∨ ∀ e : Nat, BF σ L' c' e ≤ BF σ L c e := by
  have key : ∀ (A B : Int) (a b : Nat), A < B ∨ (A = B ∧ a ≤ b) → ∀ e : Nat, BF σ A a e ≤ BF σ B b e := by
    intro A B a b h e
    unfold BF
    by_cases p : e < a ∧ A < miss σ e
    · rw [if_pos p]
      by_cases q : e < b ∧ B < miss σ e
      · rw [if_pos q]; omega
      · rw [if_neg q]; omega
    · rw [if_neg p]
      by_cases q : e < b ∧ B < miss σ e
      · rw [if_pos q]; omega
      · rw [if_neg q]; omega
  rcases Int.lt_trichotomy L L' with h | h | h
  · exact Or.inl (key L L' c c' (Or.inl h))
  · rcases Nat.le_total c c' with g | g
    · exact Or.inl (key L L' c c' (Or.inr ⟨h, g⟩))
    · exact Or.inr (key L' L c' c (Or.inr ⟨h.symm, g⟩))
  · exact Or.inr (key L' L c' c (Or.inl h))
theorem shs_BF {σ : Nat → Int} (h0 : 0 ≤ σ 0 ∧ σ 0 ≤ 7) (hm : ∀ e : Nat, (e : Int) < σ 0 → 0 ≤ miss σ e) : ∀ t : Nat, (∃ (L : Int) (c : Nat), 0 ≤ L ∧ ∀ e : Nat, (e : Int) < σ 0 → shs σ t e = BF σ L c e) ∧ psum (shs σ t) (σ 0).toNat = min (t : Int) (psum (miss σ) (σ 0).toNat)
  | 0 => by
    have hz := psum_le (f := fun _ => (0 : Int)) (g := miss σ) (σ 0).toNat (fun k hk => hm k (by omega))
    refine ⟨⟨0, 0, Int.le_refl _, fun e he => ?_⟩, ?_⟩
    · rw [BF_0 (by omega)]
      have := hm e he
      show (0 : Int) = _
      omega
    · show psum (fun _ => (0 : Int)) _ = _
      rw [psum_c] at hz ⊢
      omega
  | t + 1 => by
    obtain ⟨⟨L, c, hL, hB⟩, hS⟩ := shs_BF h0 hm t
    have hle : ∀ e : Nat, e < (σ 0).toNat → shs σ t e ≤ miss σ e := fun e he => (shs_top h0 hm t).1 e (by omega)
    by_cases g : nsh σ (shs σ t) (σ 0).toNat < 0
    · have hn := nsh_none _ g
      have hf : psum (shs σ t) (σ 0).toNat = psum (miss σ) (σ 0).toNat := psum_ext (fun k hk => by have := hn k hk; have := hle k hk; omega)
      rw [shs_s, if_pos g]
      exact ⟨⟨L, c, hL, hB⟩, by omega⟩
    · have hr := nsh_rng (σ := σ) (f := shs σ t) (σ 0).toNat
      have hh := nsh_has _ g
      have hmin := nsh_min _ g
      rw [shs_s, if_neg g]
      generalize hx : (nsh σ (shs σ t) (σ 0).toNat).toNat = x at hh hmin ⊢
      have hxN : x < (σ 0).toNat := by omega
      have hu := psum_upd (f := shs σ t) (g := up (shs σ t) x (shs σ t x + 1)) (c := x) (d := 1) (up_self _ _ _) (fun k hk => up_ne hk) (σ 0).toNat
      rw [if_pos hxN] at hu
      have hT := psum_le (f := up (shs σ t) x (shs σ t x + 1)) (g := miss σ) (σ 0).toNat (fun k hk => by
        by_cases q : k = x
        · rw [q, up_self]; omega
        · rw [up_ne q]; exact hle k hk)
      refine ⟨?_, by omega⟩
      have hBx := hB x (by omega)
      by_cases p : x < c ∧ L < miss σ x
      · rw [BF_1 p] at hBx
        refine ⟨L + 1, x + 1, by omega, fun e he => ?_⟩
        by_cases q : e = x
        · subst q
          rw [up_self, BF_1 ⟨by omega, by omega⟩, hBx]
        · have hBe := hB e he
          have hmi := hmin e (by omega)
          rw [up_ne q, hBe]
          rw [hBe] at hmi
          unfold BF at hmi ⊢
          by_cases w : e < c ∧ L < miss σ e
          · rw [if_pos w] at hmi ⊢
            by_cases w2 : e < x + 1 ∧ L + 1 < miss σ e
            · have := (hmi w2.2).2 (by omega); omega
            · rw [if_neg w2]; omega
          · rw [if_neg w] at hmi ⊢
            by_cases w2 : e < x + 1 ∧ L + 1 < miss σ e
            · have := (hmi (by omega)).2 (by omega); omega
            · rw [if_neg w2]
              by_cases w3 : L < miss σ e
              · have := (hmi (by omega)).1; omega
              · omega
      · rw [BF_0 p] at hBx
        refine ⟨L, x + 1, hL, fun e he => ?_⟩
        by_cases q : e = x
        · subst q
          rw [up_self, BF_1 ⟨by omega, by omega⟩]; omega
        · have hBe := hB e he
          have hmi := hmin e (by omega)
          rw [up_ne q, hBe]
          rw [hBe] at hmi
          unfold BF at hmi ⊢
          by_cases w : e < c ∧ L < miss σ e
          · rw [if_pos w] at hmi ⊢
            rw [if_pos ⟨by omega, w.2⟩]
          · rw [if_neg w] at hmi ⊢
            by_cases w2 : e < x + 1 ∧ L < miss σ e
            · have := (hmi (by omega)).2 (by omega); omega
            · rw [if_neg w2]
theorem lvr_mono {σ : Nat → Int} {L r : Int} : ∀ (k e : Nat), e ≤ k → lvr σ L r k ≤ lvr σ L r e
  | 0, e, h => by rw [show e = 0 by omega]; exact Int.le_refl _
  | k + 1, e, h => by
    rcases Nat.lt_or_ge k e with q | q
    · rw [show e = k + 1 by omega]; exact Int.le_refl _
    · have := lvr_mono (σ := σ) (L := L) (r := r) k e q
      rw [lvr_s]
      by_cases g : 0 < lvr σ L r k ∧ L < miss σ k
      · rw [if_pos g]; omega
      · rw [if_neg g]; exact this
theorem lvv_BF {σ : Nat → Int} {L r : Int} : ∀ n : Nat, ∃ c : Nat, ∀ e : Nat, e < n → (0 < lvr σ L r e ↔ e < c)
  | 0 => ⟨0, fun e h => absurd h (Nat.not_lt_zero _)⟩
  | n + 1 => by
    obtain ⟨c, hc⟩ := lvv_BF (σ := σ) (L := L) (r := r) n
    by_cases g : 0 < lvr σ L r n
    · refine ⟨n + 1, fun e he => ⟨fun _ => he, fun _ => ?_⟩⟩
      have := lvr_mono (σ := σ) (L := L) (r := r) n e (by omega)
      omega
    · refine ⟨min c n, fun e he => ?_⟩
      rcases Nat.lt_or_ge e n with q | q
      · have := hc e q
        exact ⟨fun h => by have := this.mp h; omega, fun h => this.mpr (by omega)⟩
      · rw [show e = n by omega]
        exact ⟨fun h => absurd h g, fun h => by omega⟩
theorem lvv_sum {σ : Nat → Int} {L r : Int} (hr : 0 ≤ r) : ∀ n : Nat, psum (lvv σ L r) n = slv σ L n + (r - lvr σ L r n) ∧ 0 ≤ lvr σ L r n ∧ (0 < lvr σ L r n → r - lvr σ L r n = slv σ (L + 1) n - slv σ L n)
  | 0 => ⟨by show (0 : Int) = 0 + (r - r); omega, hr, fun _ => by show r - r = (0 : Int) - 0; omega⟩
  | n + 1 => by
    obtain ⟨h1, h2, h3⟩ := lvv_sum (σ := σ) (L := L) hr n
    rw [psum_s, slv_s, slv_s, h1]
    by_cases g : 0 < lvr σ L r n ∧ L < miss σ n
    · rw [lvv_1 g, lvr_1 g]
      have := h3 g.1
      exact ⟨by omega, by omega, fun _ => by omega⟩
    · rw [lvv_0 g, lvr_0 g]
      exact ⟨by omega, h2, fun h => by have := h3 h; omega⟩
theorem slv_50 {σ : Nat → Int} : ∀ n : Nat, (∀ e : Nat, e < n → miss σ e ≤ 50) → slv σ 50 n = psum (miss σ) n
  | 0, _ => rfl
  | n + 1, h => by
    have := h n (by omega)
    rw [slv_s, psum_s, slv_50 n (fun e he => h e (by omega))]
    omega
theorem lvr_c {σ : Nat → Int} {r : Int} : ∀ n : Nat, (∀ e : Nat, e < n → miss σ e ≤ 50) → lvr σ 50 r n = r
  | 0, _ => rfl
  | n + 1, h => by
    have := h n (by omega)
    rw [lvr_0 (fun g => by omega)]
    exact lvr_c n (fun e he => h e (by omega))
theorem lvl_eq {σ : Nat → Int} {m : Int} (hI : SI σ m) {L : Int} (h1 : 0 ≤ L ∧ L ≤ 50) (h2 : L = 0 ∨ slv σ L (σ 0).toNat ≤ σ 2) (h3 : ∀ M : Int, L < M → M ≤ 50 → σ 2 < slv σ M (σ 0).toNat) {e : Nat} (he : (e : Int) < σ 0) : lvv σ L (σ 2 - slv σ L (σ 0).toNat) e = shA σ e := by
  obtain ⟨s0, s1, s2, s3, s4, s5, s6, s7, s18, sb, sw, se, sp⟩ := hI
  have hm : ∀ e : Nat, (e : Int) < σ 0 → 0 ≤ miss σ e := fun e he => by have := se e he; unfold miss; omega
  have h50 : ∀ e : Nat, e < (σ 0).toNat → miss σ e ≤ 50 := fun e he => by have := se e (by omega); unfold miss; omega
  obtain ⟨⟨L', c', -, hB⟩, hS⟩ := shs_BF s0 hm (σ 2).toNat
  have h00 : ∀ n : Nat, (∀ e : Nat, e < n → 0 ≤ miss σ e) → slv σ 0 n = 0 := by
    intro n
    induction n with
    | zero => intro _; rfl
    | succ n ih =>
      intro h
      have := h n (by omega)
      rw [slv_s, ih (fun e he => h e (by omega))]
      omega
  have hr : 0 ≤ σ 2 - slv σ L (σ 0).toNat := by
    rcases h2 with h | h
    · rw [h, h00 _ (fun e he => hm e (by omega))]; omega
    · omega
  obtain ⟨c, hc⟩ := lvv_BF (σ := σ) (L := L) (r := σ 2 - slv σ L (σ 0).toNat) (σ 0).toNat
  obtain ⟨g1, g2, g3⟩ := lvv_sum (σ := σ) (L := L) hr (σ 0).toNat
  have hG : ∀ e : Nat, e < (σ 0).toNat → lvv σ L (σ 2 - slv σ L (σ 0).toNat) e = BF σ L c e := fun e he => by
    unfold lvv BF
    by_cases q : 0 < lvr σ L (σ 2 - slv σ L (σ 0).toNat) e ∧ L < miss σ e
    · rw [if_pos q, if_pos ⟨(hc e he).mp q.1, q.2⟩]
    · rw [if_neg q, if_neg (fun w => q ⟨(hc e he).mpr w.1, w.2⟩)]
  have hT := slv_50 (σ := σ) (σ 0).toNat h50
  have hsum : psum (lvv σ L (σ 2 - slv σ L (σ 0).toNat)) (σ 0).toNat = min (σ 2) (psum (miss σ) (σ 0).toNat) := by
    rcases Int.lt_or_le L 50 with q | q
    · have a := h3 (L + 1) (by omega) (by omega)
      have b := h3 50 q (by omega)
      rcases Int.lt_or_le 0 (lvr σ L (σ 2 - slv σ L (σ 0).toNat) (σ 0).toNat) with w | w
      · have := g3 w; omega
      · omega
    · have e50 : L = 50 := by omega
      subst e50
      have := lvr_c (σ := σ) (r := σ 2 - slv σ 50 (σ 0).toNat) (σ 0).toNat h50
      rcases h2 with h | h
      · omega
      · omega
  have e1 : psum (BF σ L c) (σ 0).toNat = min (σ 2) (psum (miss σ) (σ 0).toNat) := (psum_ext hG).symm.trans hsum
  have e2 : psum (BF σ L' c') (σ 0).toNat = min (σ 2) (psum (miss σ) (σ 0).toNat) := by
    rw [← psum_ext (f := shs σ (σ 2).toNat) (fun k hk => hB k (by omega)), hS]; omega
  have e3 : BF σ L c e = BF σ L' c' e := by
    rcases BF_cmp (σ := σ) L L' c c' with h | h
    · exact psum_eq _ (fun k _ => h k) (e1.trans e2.symm) e (by omega)
    · exact (psum_eq _ (fun k _ => h k) (e2.trans e1.symm) e (by omega)).symm
  show _ = shs σ (σ 2).toNat e
  rw [hG e (by omega), hB e he, e3]
