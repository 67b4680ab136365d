/-! the bounds of the state are kept by every change (made by wip/whole/mkspec5.py) -/
theorem psum_upd {f g : Nat → Int} {c : Nat} {d : Int} (h1 : g c = f c + d) (h2 : ∀ k : Nat, k ≠ c → g k = f k) : ∀ n : Nat, psum g n = psum f n + (if c < n then d else 0)
  | 0 => by rw [if_neg (Nat.not_lt_zero _)]; rfl
  | n + 1 => by
    have ih := psum_upd h1 h2 n
    rw [psum_s, psum_s, ih]
    rcases Nat.lt_trichotomy c n with g1 | g1 | g1
    · rw [if_pos g1, if_pos (show c < n + 1 by omega), h2 n (by omega)]; omega
    · subst g1
      rw [if_neg (Nat.lt_irrefl _), if_pos (Nat.lt_succ_self _), h1]; omega
    · rw [if_neg (show ¬ c < n by omega), if_neg (show ¬ c < n + 1 by omega), h2 n (by omega)]; omega
theorem SI_pour {σ : Nat → Int} {m : Int} {c : Nat} {u : Int} (hc : c < 10) (hu : 1 ≤ u ∧ u ≤ 999) (hw : wel σ c + u ≤ 999) (hI : SI σ m) (hm : m + 1 ≤ 20000) : SI (s_pour σ c u) (m + 1) := by
  obtain ⟨s0, s1, s2, s3, s4, s5, s6, s7, s18, sb, sw, se, sp⟩ := hI
  have e0 : (s_pour σ c u) 0 = σ 0 := by unfold s_pour; rw [up_ne (by omega), up_ne (by omega)]
  have e1 : (s_pour σ c u) 1 = σ 1 := by unfold s_pour; rw [up_ne (by omega), up_ne (by omega)]
  have e2 : (s_pour σ c u) 2 = σ 2 := by unfold s_pour; rw [up_ne (by omega), up_ne (by omega)]
  have e3 : (s_pour σ c u) 3 = σ 3 := by unfold s_pour; rw [up_ne (by omega), up_ne (by omega)]
  have e4 : (s_pour σ c u) 4 = σ 4 := by unfold s_pour; rw [up_ne (by omega), up_ne (by omega)]
  have e5 : (s_pour σ c u) 5 = σ 5 := by unfold s_pour; rw [up_ne (by omega), up_ne (by omega)]
  have e6 : (s_pour σ c u) 6 = σ 6 + u := by unfold s_pour; rw [up_self]
  have e7 : (s_pour σ c u) 7 = σ 7 := by unfold s_pour; rw [up_ne (by omega), up_ne (by omega)]
  have e18 : (s_pour σ c u) 18 = σ 18 := by unfold s_pour; rw [up_ne (by omega), up_ne (by omega)]
  have w1 : wel (s_pour σ c u) c = wel σ c + u := by unfold s_pour; show up _ 6 _ (8 + c) = _; rw [up_ne (by omega), up_self]
  have w2 : ∀ k : Nat, k ≠ c → wel (s_pour σ c u) k = wel σ k := fun k hk => by unfold s_pour; show up _ 6 _ (8 + k) = _; rw [up_ne (by omega), up_ne (by omega)]; rfl
  have w3 := psum_upd w1 w2 10
  rw [if_pos hc] at w3
  have w4 := sw c hc
  have ee : ∀ e : Nat, col (s_pour σ c u) e = col σ e ∧ run (s_pour σ c u) e = run σ e ∧ prt (s_pour σ c u) e = prt σ e := fun e => by unfold s_pour col run prt; exact ⟨by rw [up_ne (by omega), up_ne (by omega)], by rw [up_ne (by omega), up_ne (by omega)], by rw [up_ne (by omega), up_ne (by omega)]⟩
  have ep : ∀ p : Nat, mrk (s_pour σ c u) p = mrk σ p ∧ mad (s_pour σ c u) p = mad σ p := fun p => by unfold s_pour mrk mad; exact ⟨by rw [up_ne (by omega), up_ne (by omega)], by rw [up_ne (by omega), up_ne (by omega)]⟩
  exact ⟨by rw [e0]; omega, by rw [e1]; omega, by rw [e2]; omega, by rw [e3]; omega, by rw [e4]; omega, by rw [e5]; omega, by rw [e6]; omega, by rw [e7]; omega, by rw [e18]; omega, (by rw [e6, e7, e18, w3]; omega), (fun k hk => by by_cases g : k = c; rw [g, w1]; omega; rw [w2 k g]; exact sw k hk), (fun e he => by rw [(ee e).1, (ee e).2.1, (ee e).2.2]; exact se e (by omega)), (fun p hp => by rw [(ep p).1, (ep p).2]; have := sp p (by omega); omega)⟩
theorem SI_buy {σ : Nat → Int} {m : Int} {u : Int} (hu : 1 ≤ u) (hw : σ 2 + u ≤ 9999) (hI : SI σ m) (hm : m + 1 ≤ 20000) : SI (s_buy σ u) (m + 1) := by
  obtain ⟨s0, s1, s2, s3, s4, s5, s6, s7, s18, sb, sw, se, sp⟩ := hI
  have e0 : (s_buy σ u) 0 = σ 0 := by unfold s_buy; rw [up_ne (by omega)]
  have e1 : (s_buy σ u) 1 = σ 1 := by unfold s_buy; rw [up_ne (by omega)]
  have e2 : (s_buy σ u) 2 = σ 2 + u := by unfold s_buy; rw [up_self]
  have e3 : (s_buy σ u) 3 = σ 3 := by unfold s_buy; rw [up_ne (by omega)]
  have e4 : (s_buy σ u) 4 = σ 4 := by unfold s_buy; rw [up_ne (by omega)]
  have e5 : (s_buy σ u) 5 = σ 5 := by unfold s_buy; rw [up_ne (by omega)]
  have e6 : (s_buy σ u) 6 = σ 6 := by unfold s_buy; rw [up_ne (by omega)]
  have e7 : (s_buy σ u) 7 = σ 7 := by unfold s_buy; rw [up_ne (by omega)]
  have e18 : (s_buy σ u) 18 = σ 18 := by unfold s_buy; rw [up_ne (by omega)]
  have ew : ∀ k : Nat, k < 10 → wel (s_buy σ u) k = wel σ k := fun k hk => by unfold s_buy wel; rw [up_ne (by omega)]
  have ee : ∀ e : Nat, col (s_buy σ u) e = col σ e ∧ run (s_buy σ u) e = run σ e ∧ prt (s_buy σ u) e = prt σ e := fun e => by unfold s_buy col run prt; exact ⟨by rw [up_ne (by omega)], by rw [up_ne (by omega)], by rw [up_ne (by omega)]⟩
  have ep : ∀ p : Nat, mrk (s_buy σ u) p = mrk σ p ∧ mad (s_buy σ u) p = mad σ p := fun p => by unfold s_buy mrk mad; exact ⟨by rw [up_ne (by omega)], by rw [up_ne (by omega)]⟩
  exact ⟨by rw [e0]; omega, by rw [e1]; omega, by rw [e2]; omega, by rw [e3]; omega, by rw [e4]; omega, by rw [e5]; omega, by rw [e6]; omega, by rw [e7]; omega, by rw [e18]; omega, (by rw [e6, e7, e18, psum_ext ew]; omega), (fun c hc => by rw [ew c hc]; exact sw c hc), (fun e he => by rw [(ee e).1, (ee e).2.1, (ee e).2.2]; exact se e (by omega)), (fun p hp => by rw [(ep p).1, (ep p).2]; have := sp p (by omega); omega)⟩
theorem SI_add {σ : Nat → Int} {m : Int} {c u : Int} (hc : 0 ≤ c ∧ c ≤ 9) (hu : 1 ≤ u ∧ u ≤ 50) (h7 : σ 0 < 7) (hI : SI σ m) (hm : m + 1 ≤ 20000) : SI (s_add σ c u) (m + 1) := by
  obtain ⟨s0, s1, s2, s3, s4, s5, s6, s7, s18, sb, sw, se, sp⟩ := hI
  have e0 : (s_add σ c u) 0 = σ 0 + 1 := by unfold s_add; rw [up_self]
  have e1 : (s_add σ c u) 1 = σ 1 := by unfold s_add; rw [up_ne (by omega), up_ne (by omega), up_ne (by omega), up_ne (by omega)]
  have e2 : (s_add σ c u) 2 = σ 2 := by unfold s_add; rw [up_ne (by omega), up_ne (by omega), up_ne (by omega), up_ne (by omega)]
  have e3 : (s_add σ c u) 3 = σ 3 := by unfold s_add; rw [up_ne (by omega), up_ne (by omega), up_ne (by omega), up_ne (by omega)]
  have e4 : (s_add σ c u) 4 = σ 4 := by unfold s_add; rw [up_ne (by omega), up_ne (by omega), up_ne (by omega), up_ne (by omega)]
  have e5 : (s_add σ c u) 5 = σ 5 := by unfold s_add; rw [up_ne (by omega), up_ne (by omega), up_ne (by omega), up_ne (by omega)]
  have e6 : (s_add σ c u) 6 = σ 6 := by unfold s_add; rw [up_ne (by omega), up_ne (by omega), up_ne (by omega), up_ne (by omega)]
  have e7 : (s_add σ c u) 7 = σ 7 := by unfold s_add; rw [up_ne (by omega), up_ne (by omega), up_ne (by omega), up_ne (by omega)]
  have e18 : (s_add σ c u) 18 = σ 18 := by unfold s_add; rw [up_ne (by omega), up_ne (by omega), up_ne (by omega), up_ne (by omega)]
  have ew : ∀ k : Nat, k < 10 → wel (s_add σ c u) k = wel σ k := fun k hk => by unfold s_add wel; rw [up_ne (by omega), up_ne (by omega), up_ne (by omega), up_ne (by omega)]
  have ee : ∀ e : Nat, e < (σ 0).toNat → col (s_add σ c u) e = col σ e ∧ run (s_add σ c u) e = run σ e ∧ prt (s_add σ c u) e = prt σ e := fun e he => by unfold s_add col run prt; exact ⟨by rw [up_ne (by omega), up_ne (by omega), up_ne (by omega), up_ne (by omega)], by rw [up_ne (by omega), up_ne (by omega), up_ne (by omega), up_ne (by omega)], by rw [up_ne (by omega), up_ne (by omega), up_ne (by omega), up_ne (by omega)]⟩
  have en : col (s_add σ c u) (σ 0).toNat = c ∧ run (s_add σ c u) (σ 0).toNat = u ∧ prt (s_add σ c u) (σ 0).toNat = 0 := by unfold s_add col run prt; exact ⟨by rw [up_ne (by omega), up_ne (by omega), up_ne (by omega), up_self], by rw [up_ne (by omega), up_ne (by omega), up_self], by rw [up_ne (by omega), up_self]⟩
  have ep : ∀ p : Nat, mrk (s_add σ c u) p = mrk σ p ∧ mad (s_add σ c u) p = mad σ p := fun p => by unfold s_add mrk mad; exact ⟨by rw [up_ne (by omega), up_ne (by omega), up_ne (by omega), up_ne (by omega)], by rw [up_ne (by omega), up_ne (by omega), up_ne (by omega), up_ne (by omega)]⟩
  exact ⟨by rw [e0]; omega, by rw [e1]; omega, by rw [e2]; omega, by rw [e3]; omega, by rw [e4]; omega, by rw [e5]; omega, by rw [e6]; omega, by rw [e7]; omega, by rw [e18]; omega, (by rw [e6, e7, e18, psum_ext ew]; omega), (fun c hc => by rw [ew c hc]; exact sw c hc), (fun e he => by rw [e0] at he; by_cases g : e = (σ 0).toNat; rw [g, en.1, en.2.1, en.2.2]; omega; rw [(ee e (by omega)).1, (ee e (by omega)).2.1, (ee e (by omega)).2.2]; exact se e (by omega)), (fun p hp => by rw [(ep p).1, (ep p).2]; have := sp p (by omega); omega)⟩
theorem SI_prove {σ : Nat → Int} {m : Int} {u : Int} (hu : 0 ≤ u ∧ u ≤ 99) (h12 : σ 1 < 12) (hI : SI σ m) (hm : m + 1 ≤ 20000) : SI (s_prove σ u) (m + 1) := by
  obtain ⟨s0, s1, s2, s3, s4, s5, s6, s7, s18, sb, sw, se, sp⟩ := hI
  have e0 : (s_prove σ u) 0 = σ 0 := by unfold s_prove; rw [up_ne (by omega), up_ne (by omega), up_ne (by omega)]
  have e1 : (s_prove σ u) 1 = σ 1 + 1 := by unfold s_prove; rw [up_self]
  have e2 : (s_prove σ u) 2 = σ 2 := by unfold s_prove; rw [up_ne (by omega), up_ne (by omega), up_ne (by omega)]
  have e3 : (s_prove σ u) 3 = σ 3 := by unfold s_prove; rw [up_ne (by omega), up_ne (by omega), up_ne (by omega)]
  have e4 : (s_prove σ u) 4 = σ 4 := by unfold s_prove; rw [up_ne (by omega), up_ne (by omega), up_ne (by omega)]
  have e5 : (s_prove σ u) 5 = σ 5 := by unfold s_prove; rw [up_ne (by omega), up_ne (by omega), up_ne (by omega)]
  have e6 : (s_prove σ u) 6 = σ 6 := by unfold s_prove; rw [up_ne (by omega), up_ne (by omega), up_ne (by omega)]
  have e7 : (s_prove σ u) 7 = σ 7 := by unfold s_prove; rw [up_ne (by omega), up_ne (by omega), up_ne (by omega)]
  have e18 : (s_prove σ u) 18 = σ 18 := by unfold s_prove; rw [up_ne (by omega), up_ne (by omega), up_ne (by omega)]
  have ew : ∀ k : Nat, k < 10 → wel (s_prove σ u) k = wel σ k := fun k hk => by unfold s_prove wel; rw [up_ne (by omega), up_ne (by omega), up_ne (by omega)]
  have ee : ∀ e : Nat, e < 7 → col (s_prove σ u) e = col σ e ∧ run (s_prove σ u) e = run σ e ∧ prt (s_prove σ u) e = prt σ e := fun e he => by unfold s_prove col run prt; exact ⟨by rw [up_ne (by omega), up_ne (by omega), up_ne (by omega)], by rw [up_ne (by omega), up_ne (by omega), up_ne (by omega)], by rw [up_ne (by omega), up_ne (by omega), up_ne (by omega)]⟩
  have ep : ∀ p : Nat, p < (σ 1).toNat → mrk (s_prove σ u) p = mrk σ p ∧ mad (s_prove σ u) p = mad σ p := fun p hp => by unfold s_prove mrk mad; exact ⟨by rw [up_ne (by omega), up_ne (by omega), up_ne (by omega)], by rw [up_ne (by omega), up_ne (by omega), up_ne (by omega)]⟩
  have en : mrk (s_prove σ u) (σ 1).toNat = u ∧ mad (s_prove σ u) (σ 1).toNat = σ 3 := by unfold s_prove mrk mad; exact ⟨by rw [up_ne (by omega), up_ne (by omega), up_self], by rw [up_ne (by omega), up_self]⟩
  exact ⟨by rw [e0]; omega, by rw [e1]; omega, by rw [e2]; omega, by rw [e3]; omega, by rw [e4]; omega, by rw [e5]; omega, by rw [e6]; omega, by rw [e7]; omega, by rw [e18]; omega, (by rw [e6, e7, e18, psum_ext ew]; omega), (fun c hc => by rw [ew c hc]; exact sw c hc), (fun e he => by rw [(ee e (by omega)).1, (ee e (by omega)).2.1, (ee e (by omega)).2.2]; exact se e (by omega)), (fun p hp => by rw [e1] at hp; by_cases g : p = (σ 1).toNat; rw [g, en.1, en.2]; omega; rw [(ep p (by omega)).1, (ep p (by omega)).2]; have := sp p (by omega); omega)⟩
theorem SI_rem {σ : Nat → Int} {m : Int} {e : Nat} (he : (e : Int) < σ 0) (hI : SI σ m) (hm : m + 1 ≤ 20000) : SI (s_rem σ e) (m + 1) := by
  obtain ⟨s0, s1, s2, s3, s4, s5, s6, s7, s18, sb, sw, se, sp⟩ := hI
  have e0 : (s_rem σ e) 0 = σ 0 - 1 := by unfold s_rem; rw [gapt_lo (by omega)]; rw [up_self]
  have e1 : (s_rem σ e) 1 = σ 1 := by unfold s_rem; rw [gapt_lo (by omega)]; rw [up_ne (by omega)]
  have e2 : (s_rem σ e) 2 = σ 2 := by unfold s_rem; rw [gapt_lo (by omega)]; rw [up_ne (by omega)]
  have e3 : (s_rem σ e) 3 = σ 3 := by unfold s_rem; rw [gapt_lo (by omega)]; rw [up_ne (by omega)]
  have e4 : (s_rem σ e) 4 = σ 4 := by unfold s_rem; rw [gapt_lo (by omega)]; rw [up_ne (by omega)]
  have e5 : (s_rem σ e) 5 = σ 5 := by unfold s_rem; rw [gapt_lo (by omega)]; rw [up_ne (by omega)]
  have e6 : (s_rem σ e) 6 = σ 6 := by unfold s_rem; rw [gapt_lo (by omega)]; rw [up_ne (by omega)]
  have e7 : (s_rem σ e) 7 = σ 7 := by unfold s_rem; rw [gapt_lo (by omega)]; rw [up_ne (by omega)]
  have e18 : (s_rem σ e) 18 = σ 18 := by unfold s_rem; rw [gapt_lo (by omega)]; rw [up_ne (by omega)]
  have ew : ∀ c : Nat, c < 10 → wel (s_rem σ e) c = wel σ c := fun c hc => by unfold s_rem wel; rw [gapt_lo (by omega), up_ne (by omega)]
  have ep : ∀ p : Nat, mrk (s_rem σ e) p = mrk σ p ∧ mad (s_rem σ e) p = mad σ p := fun p => by unfold s_rem mrk mad; exact ⟨by rw [gapt_hi (by omega), up_ne (by omega)], by rw [gapt_hi (by omega), up_ne (by omega)]⟩
  have e1' : ∀ k : Nat, k < e → col (s_rem σ e) k = col σ k ∧ run (s_rem σ e) k = run σ k ∧ prt (s_rem σ e) k = prt σ k := fun k hk => by unfold s_rem col run prt; exact ⟨by rw [gapt_lo (by omega), up_ne (by omega)], by rw [gapt_lo (by omega), up_ne (by omega)], by rw [gapt_lo (by omega), up_ne (by omega)]⟩
  have e2' : ∀ k : Nat, e ≤ k → (k : Int) < σ 0 - 1 → col (s_rem σ e) k = col σ (k + 1) ∧ run (s_rem σ e) k = run σ (k + 1) ∧ prt (s_rem σ e) k = prt σ (k + 1) := fun k h1 h2 => by
    unfold s_rem col run prt gapt
    refine ⟨?_, ?_, ?_⟩
    · rw [if_pos ⟨by omega, by omega⟩, up_ne (by omega)]; exact congrArg σ (by omega)
    · rw [if_pos ⟨by omega, by omega⟩, up_ne (by omega)]; exact congrArg σ (by omega)
    · rw [if_pos ⟨by omega, by omega⟩, up_ne (by omega)]; exact congrArg σ (by omega)
  exact ⟨by rw [e0]; omega, by rw [e1]; omega, by rw [e2]; omega, by rw [e3]; omega, by rw [e4]; omega, by rw [e5]; omega, by rw [e6]; omega, by rw [e7]; omega, by rw [e18]; omega, (by rw [e6, e7, e18, psum_ext ew]; omega), (fun c hc => by rw [ew c hc]; exact sw c hc), (fun k hk => by rw [e0] at hk; rcases Nat.lt_or_ge k e with g | g; rw [(e1' k g).1, (e1' k g).2.1, (e1' k g).2.2]; exact se k (by omega); rw [(e2' k g (by omega)).1, (e2' k g (by omega)).2.1, (e2' k g (by omega)).2.2]; exact se (k + 1) (by omega)), (fun p hp => by rw [(ep p).1, (ep p).2]; have := sp p (by omega); omega)⟩
theorem SI_drop {σ : Nat → Int} {m : Int} {e : Nat} (he : (e : Int) < σ 1) (hI : SI σ m) (hm : m + 1 ≤ 20000) : SI (s_drop σ e) (m + 1) := by
  obtain ⟨s0, s1, s2, s3, s4, s5, s6, s7, s18, sb, sw, se, sp⟩ := hI
  have e0 : (s_drop σ e) 0 = σ 0 := by unfold s_drop; rw [gapt_lo (by omega)]; rw [up_ne (by omega)]
  have e1 : (s_drop σ e) 1 = σ 1 - 1 := by unfold s_drop; rw [gapt_lo (by omega)]; rw [up_self]
  have e2 : (s_drop σ e) 2 = σ 2 := by unfold s_drop; rw [gapt_lo (by omega)]; rw [up_ne (by omega)]
  have e3 : (s_drop σ e) 3 = σ 3 := by unfold s_drop; rw [gapt_lo (by omega)]; rw [up_ne (by omega)]
  have e4 : (s_drop σ e) 4 = σ 4 := by unfold s_drop; rw [gapt_lo (by omega)]; rw [up_ne (by omega)]
  have e5 : (s_drop σ e) 5 = σ 5 := by unfold s_drop; rw [gapt_lo (by omega)]; rw [up_ne (by omega)]
  have e6 : (s_drop σ e) 6 = σ 6 := by unfold s_drop; rw [gapt_lo (by omega)]; rw [up_ne (by omega)]
  have e7 : (s_drop σ e) 7 = σ 7 := by unfold s_drop; rw [gapt_lo (by omega)]; rw [up_ne (by omega)]
  have e18 : (s_drop σ e) 18 = σ 18 := by unfold s_drop; rw [gapt_lo (by omega)]; rw [up_ne (by omega)]
  have ew : ∀ c : Nat, c < 10 → wel (s_drop σ e) c = wel σ c := fun c hc => by unfold s_drop wel; rw [gapt_lo (by omega), up_ne (by omega)]
  have ee : ∀ e' : Nat, e' < 7 → col (s_drop σ e) e' = col σ e' ∧ run (s_drop σ e) e' = run σ e' ∧ prt (s_drop σ e) e' = prt σ e' := fun k hk => by unfold s_drop col run prt; exact ⟨by rw [gapt_lo (by omega), up_ne (by omega)], by rw [gapt_lo (by omega), up_ne (by omega)], by rw [gapt_lo (by omega), up_ne (by omega)]⟩
  have e1' : ∀ k : Nat, k < e → mrk (s_drop σ e) k = mrk σ k ∧ mad (s_drop σ e) k = mad σ k := fun k hk => by unfold s_drop mrk mad; exact ⟨by rw [gapt_lo (by omega), up_ne (by omega)], by rw [gapt_lo (by omega), up_ne (by omega)]⟩
  have e2' : ∀ k : Nat, e ≤ k → (k : Int) < σ 1 - 1 → mrk (s_drop σ e) k = mrk σ (k + 1) ∧ mad (s_drop σ e) k = mad σ (k + 1) := fun k h1 h2 => by
    unfold s_drop mrk mad gapt
    refine ⟨?_, ?_⟩
    · rw [if_pos ⟨by omega, by omega⟩, up_ne (by omega)]; exact congrArg σ (by omega)
    · rw [if_pos ⟨by omega, by omega⟩, up_ne (by omega)]; exact congrArg σ (by omega)
  exact ⟨by rw [e0]; omega, by rw [e1]; omega, by rw [e2]; omega, by rw [e3]; omega, by rw [e4]; omega, by rw [e5]; omega, by rw [e6]; omega, by rw [e7]; omega, by rw [e18]; omega, (by rw [e6, e7, e18, psum_ext ew]; omega), (fun c hc => by rw [ew c hc]; exact sw c hc), (fun k hk => by rw [e0] at hk; rw [(ee k (by omega)).1, (ee k (by omega)).2.1, (ee k (by omega)).2.2]; exact se k (by omega)), (fun k hk => by rw [e1] at hk; rcases Nat.lt_or_ge k e with g | g; rw [(e1' k g).1, (e1' k g).2]; have := sp k (by omega); omega; rw [(e2' k g (by omega)).1, (e2' k g (by omega)).2]; have := sp (k + 1) (by omega); omega)⟩
theorem SI_pass {σ : Nat → Int} {m : Int} {n : Nat} (hn : n ≤ 48) (hI : SI σ m) (hm : m + 1 ≤ 20000) : SI (s_pass σ n) (m + 1) := by
  obtain ⟨s0, s1, s2, s3, s4, s5, s6, s7, s18, sb, sw, se, sp⟩ := hI
  have e0 : s_pass σ n 0 = σ 0 := by unfold s_pass; rw [up_ne (by omega)]; exact fdN_o (by omega) n
  have e1 : s_pass σ n 1 = σ 1 := by unfold s_pass; rw [up_ne (by omega)]; exact fdN_o (by omega) n
  have e2 : s_pass σ n 2 = σ 2 := by unfold s_pass; rw [up_ne (by omega)]; exact fdN_o (by omega) n
  have e3 : s_pass σ n 3 = σ 3 + n := by unfold s_pass; rw [up_ne (by omega)]; exact fdN_3 n
  have e4 : s_pass σ n 4 = σ 4 := by unfold s_pass; rw [up_ne (by omega)]; exact fdN_o (by omega) n
  have e5 : s_pass σ n 5 = σ 5 := by unfold s_pass; rw [up_ne (by omega)]; exact fdN_o (by omega) n
  have e6 : s_pass σ n 6 = σ 6 := by unfold s_pass; rw [up_ne (by omega)]; exact fdN_o (by omega) n
  have e7 : s_pass σ n 7 = σ 7 := by unfold s_pass; rw [up_ne (by omega)]; exact fdN_o (by omega) n
  have e18 : s_pass σ n 18 = σ 18 + lostN σ n := by unfold s_pass; rw [up_self]
  have ew : ∀ c : Nat, c < 10 → wel (s_pass σ n) c = wel (fdN σ n) c := fun c hc => by unfold s_pass wel; rw [up_ne (by omega)]
  have ee : ∀ e : Nat, col (s_pass σ n) e = col σ e ∧ run (s_pass σ n) e = run σ e ∧ prt (s_pass σ n) e = prt σ e := fun e => by unfold s_pass col run prt; exact ⟨by rw [up_ne (by omega)]; exact fdN_o (by omega) n, by rw [up_ne (by omega)]; exact fdN_o (by omega) n, by rw [up_ne (by omega)]; exact fdN_o (by omega) n⟩
  have ep : ∀ p : Nat, mrk (s_pass σ n) p = mrk σ p ∧ mad (s_pass σ n) p = mad σ p := fun p => by unfold s_pass mrk mad; exact ⟨by rw [up_ne (by omega)]; exact fdN_o (by omega) n, by rw [up_ne (by omega)]; exact fdN_o (by omega) n⟩
  have hl := lostN_rng (σ := σ) sw n
  have hl2 : lostN σ n = psum (wel σ) 10 - psum (wel (fdN σ n)) 10 := rfl
  exact ⟨by rw [e0]; omega, by rw [e1]; omega, by rw [e2]; omega, by rw [e3]; omega, by rw [e4]; omega, by rw [e5]; omega, by rw [e6]; omega, by rw [e7]; omega, by rw [e18]; omega, (by rw [e6, e7, e18, psum_ext ew]; omega), (fun c hc => by rw [ew c hc, fdN_w hc]; exact la_rng (sw c hc) n), (fun e he => by rw [(ee e).1, (ee e).2.1, (ee e).2.2]; exact se e (by omega)), (fun p hp => by rw [(ep p).1, (ep p).2]; have := sp p (by omega); omega)⟩
theorem SI_print {σ : Nat → Int} {m M : Int} {e : Nat} {n : Int} (he : (e : Int) < σ 0) (hn : 0 ≤ n ∧ n ≤ σ 2 ∧ n ≤ wel σ (col σ e).toNat ∧ n ≤ run σ e - prt σ e) (h5 : σ 5 + 69 ≤ 600 * M) (hmM : m ≤ M ∧ M ≤ 20000) (hI : SI σ m) : SI (s_print σ e n) M := by
  obtain ⟨s0, s1, s2, s3, s4, s5, s6, s7, s18, sb, sw, se, sp⟩ := hI
  have hc := se e he
  have hcw := sw (col σ e).toNat (by omega)
  have hws := wash_rng s4 hc.1
  have hc2 : 0 ≤ σ (20 + 4 * e) ∧ σ (20 + 4 * e) ≤ 9 := hc.1
  have e0 : (s_print σ e n) 0 = σ 0 := by unfold s_print; rw [up_ne (by omega), up_ne (by omega), up_ne (by omega), up_ne (by omega), up_ne (by omega), up_ne (by omega)]
  have e1 : (s_print σ e n) 1 = σ 1 := by unfold s_print; rw [up_ne (by omega), up_ne (by omega), up_ne (by omega), up_ne (by omega), up_ne (by omega), up_ne (by omega)]
  have e2 : (s_print σ e n) 2 = σ 2 - n := by unfold s_print; rw [up_ne (by omega), up_ne (by omega), up_ne (by omega), up_self]
  have e3 : (s_print σ e n) 3 = σ 3 := by unfold s_print; rw [up_ne (by omega), up_ne (by omega), up_ne (by omega), up_ne (by omega), up_ne (by omega), up_ne (by omega)]
  have e4 : (s_print σ e n) 4 = col σ e := by unfold s_print; rw [up_ne (by omega), up_ne (by omega), up_ne (by omega), up_ne (by omega), up_self]
  have e5 : (s_print σ e n) 5 = σ 5 + (wash (σ 4) (col σ e) + n) := by unfold s_print; rw [up_ne (by omega), up_ne (by omega), up_ne (by omega), up_ne (by omega), up_ne (by omega), up_self]
  have e6 : (s_print σ e n) 6 = σ 6 := by unfold s_print; rw [up_ne (by omega), up_ne (by omega), up_ne (by omega), up_ne (by omega), up_ne (by omega), up_ne (by omega)]
  have e7 : (s_print σ e n) 7 = σ 7 + n := by unfold s_print; rw [up_ne (by omega), up_self]
  have e18 : (s_print σ e n) 18 = σ 18 := by unfold s_print; rw [up_ne (by omega), up_ne (by omega), up_ne (by omega), up_ne (by omega), up_ne (by omega), up_ne (by omega)]
  have w1 : wel (s_print σ e n) (col σ e).toNat = wel σ (col σ e).toNat + (-n) := by unfold s_print; show up _ (20 + 4 * e + 2) _ (8 + (col σ e).toNat) = _; rw [up_ne (by omega), up_ne (by omega), up_self]; omega
  have w2 : ∀ k : Nat, k ≠ (col σ e).toNat → k < 10 → wel (s_print σ e n) k = wel σ k := fun k hk h9 => by unfold s_print; show up _ (20 + 4 * e + 2) _ (8 + k) = _; rw [up_ne (by omega), up_ne (by omega), up_ne (by omega), up_ne (by omega), up_ne (by omega), up_ne (by omega)]; rfl
  have w3 := psum_upd (f := wel σ) (g := fun k => if k < 10 then wel (s_print σ e n) k else wel σ k) (c := (col σ e).toNat) (d := -n) (by show (if _ then _ else _) = _; rw [if_pos (by omega)]; exact w1) (fun k hk => by show (if _ then _ else _) = _; by_cases g : k < 10; rw [if_pos g]; exact w2 k hk g; rw [if_neg g]) 10
  rw [if_pos (show (col σ e).toNat < 10 by omega), psum_ext (g := wel (s_print σ e n)) (fun k hk => if_pos hk)] at w3
  have ee : ∀ k : Nat, col (s_print σ e n) k = col σ k ∧ run (s_print σ e n) k = run σ k ∧ prt (s_print σ e n) k = if k = e then prt σ e + n else prt σ k := fun k => by
    unfold s_print col run prt
    refine ⟨by rw [up_ne (by omega), up_ne (by omega), up_ne (by omega), up_ne (by omega), up_ne (by omega), up_ne (by omega)], by rw [up_ne (by omega), up_ne (by omega), up_ne (by omega), up_ne (by omega), up_ne (by omega), up_ne (by omega)], ?_⟩
    by_cases g : k = e
    · rw [if_pos g, g, up_self]
    · rw [if_neg g]; rw [up_ne (by omega), up_ne (by omega), up_ne (by omega), up_ne (by omega), up_ne (by omega), up_ne (by omega)]
  have ep : ∀ p : Nat, mrk (s_print σ e n) p = mrk σ p ∧ mad (s_print σ e n) p = mad σ p := fun p => by unfold s_print mrk mad; exact ⟨by rw [up_ne (by omega), up_ne (by omega), up_ne (by omega), up_ne (by omega), up_ne (by omega), up_ne (by omega)], by rw [up_ne (by omega), up_ne (by omega), up_ne (by omega), up_ne (by omega), up_ne (by omega), up_ne (by omega)]⟩
  exact ⟨by rw [e0]; omega, by rw [e1]; omega, by rw [e2]; omega, by rw [e3]; omega, by rw [e4]; omega, by rw [e5]; omega, by rw [e6]; omega, by rw [e7]; omega, by rw [e18]; omega, (by rw [e6, e7, e18, w3]; omega), (fun k hk => by by_cases g : k = (col σ e).toNat; rw [g, w1]; omega; rw [w2 k g hk]; exact sw k hk), (fun k hk => by rw [(ee k).1, (ee k).2.1, (ee k).2.2]; rw [e0] at hk; have := se k hk; by_cases g : k = e; rw [if_pos g]; rw [g] at this; rw [g]; omega; rw [if_neg g]; exact this), (fun p hp => by rw [(ep p).1, (ep p).2]; have := sp p (by omega); omega)⟩
