theorem Sv_cg {VH VU KH KU wt : Int → Int} {cl n : Int} (h : ∀ a, 0 ≤ a → a < n → VH a = KH a ∧ VU a = KU a) {i : Int} (h0 : 0 ≤ i) (h1 : i ≤ n) : Sv VH VU wt cl n i = Sv KH KU wt cl n i := by
  have hs : ∀ m, 0 ≤ m → m ≤ n → sm VU m = sm KU m := fun m m0 m1 => sm_congr m0 (fun a a0 a1 => (h a a0 (by omega)).2)
  have := sm_ind (P := fun d => d ≤ n → ∀ j, n - d ≤ j → j ≤ n → Sv VH VU wt cl n j = Sv KH KU wt cl n j) (fun _ j a b => by rw [show j = n by omega, Sv_n, Sv_n]) (fun d hd ih hdn j a b => by
    by_cases e : j = n - (d + 1)
    · rw [Sv_s _ _ _ _ (by omega : j < n), Sv_s _ _ _ _ (by omega : j < n)]
      have key := sm_ind (P := fun k => k ≤ n - j → sx9 VH VU wt cl (Sv VH VU wt cl n) j k = sx9 KH KU wt cl (Sv KH KU wt cl n) j k) (fun _ => ih (by omega) (j + 1) (by omega) (by omega)) (fun k hk ihk hkn => by
        rw [sx9_s _ _ _ _ _ _ hk, sx9_s _ _ _ _ _ _ hk, ihk (by omega), (h (j + k) (by omega) (by omega)).1, (h j (by omega) (by omega)).1, hs (j + k + 1) (by omega) (by omega), hs j (by omega) (by omega), ih (by omega) (j + k + 1) (by omega) (by omega)]) (n - j) (by omega)
      exact key (Int.le_refl _)
    · exact ih (by omega) j (by omega) b) (n - i) (by omega) (by omega)
  exact this i (by omega) h1
/-- the hours laid, from those below h -/
def lh9 (LP LH : Int → Int) (p nL : Int) (H : Int → Int) (n h : Int) : Prop := 0 ≤ n ∧ rise H n ∧ (∀ a, 0 ≤ a → a < n → H a < h ∧ ∃ z, 0 ≤ z ∧ z < nL ∧ LP z = p ∧ LH z = H a) ∧ (∀ z, 0 ≤ z → z < nL → LP z = p → LH z < h → ∃ a, 0 ≤ a ∧ a < n ∧ H a = LH z)
def ih9 (is9 : Int) (LP LH : Int → Int) (p h l : Int) : Prop := (is9 = 0 ∧ ∀ z, 0 ≤ z → z < l → LP z = p → LH z ≠ h) ∨ (is9 = 1 ∧ ∃ z, 0 ≤ z ∧ z < l ∧ LP z = p ∧ LH z = h)
theorem ih9_s {is9 w : Int} {LP LH : Int → Int} {p h l : Int} (hl : 0 ≤ l) (hi : ih9 is9 LP LH p h l) (hw : w = if is9 = 1 ∨ (LP l = p ∧ LH l = h) then 1 else 0) : ih9 w LP LH p h (l + 1) := by
  rcases hi with ⟨rfl, hi⟩ | ⟨rfl, z, z0, z1, z2⟩
  · by_cases q : LP l = p ∧ LH l = h
    · rw [if_pos (Or.inr q)] at hw; exact Or.inr ⟨hw, l, hl, by omega, q⟩
    · rw [if_neg (by omega)] at hw
      refine Or.inl ⟨hw, fun z z0 z1 z2 z3 => ?_⟩
      by_cases e : z = l
      · subst e; exact q ⟨z2, z3⟩
      · exact hi z z0 (by omega) z2 z3
  · rw [if_pos (Or.inl rfl)] at hw; exact Or.inr ⟨hw, z, z0, by omega, z2⟩
theorem ih9_r {is9 : Int} {LP LH : Int → Int} {p h l : Int} (hi : ih9 is9 LP LH p h l) : 0 ≤ is9 ∧ is9 ≤ 1 := by
  rcases hi with ⟨e, _⟩ | ⟨e, _⟩ <;> omega
theorem lh9_n {LP LH : Int → Int} {p nL : Int} {H : Int → Int} {n h : Int} (hL : 0 ≤ nL) (k : lh9 LP LH p nL H n h) : n ≤ nL := by
  obtain ⟨h0, h1, h2, h3⟩ := k
  have hx : ∀ a : Nat, a < n.toNat → ∃ z : Nat, z < nL.toNat ∧ LH z = H a := fun a ha => by
    obtain ⟨_, z, z0, z1, z2, z3⟩ := h2 a (by omega) (by omega)
    refine ⟨z.toNat, by omega, ?_⟩
    rw [show ((z.toNat : Nat) : Int) = z by omega]; exact z3
  have := fb_holes nL.toNat n.toNat (fun a => if q : a < n.toNat then Classical.choose (hx a q) else 0) (fun i hi => by
    rw [dif_pos hi]; exact (Classical.choose_spec (hx i hi)).1) (fun i j hij hj e => by
    rw [dif_pos (show i < n.toNat by omega), dif_pos hj] at e
    have e1 := (Classical.choose_spec (hx i (by omega))).2
    have e2 := (Classical.choose_spec (hx j hj)).2
    rw [e] at e1
    have := h1 i j (by omega) (by omega) (by omega)
    omega)
  omega
theorem lh9_no {LP LH : Int → Int} {p nL : Int} {H : Int → Int} {n h is9 : Int} (k : lh9 LP LH p nL H n h) (hi : ih9 is9 LP LH p h nL) (hz : is9 = 0) : lh9 LP LH p nL H n (h + 1) := by
  obtain ⟨h0, h1, h2, h3⟩ := k
  refine ⟨h0, h1, fun a a0 a1 => ⟨by have := (h2 a a0 a1).1; omega, (h2 a a0 a1).2⟩, fun z z0 z1 z2 z3 => ?_⟩
  rcases hi with ⟨_, hi⟩ | ⟨e, _⟩
  · exact h3 z z0 z1 z2 (by have := hi z z0 z1 z2; omega)
  · omega
theorem lh9_yes {LP LH : Int → Int} {p nL : Int} {H : Int → Int} {n h is9 : Int} (k : lh9 LP LH p nL H n h) (hi : ih9 is9 LP LH p h nL) (hz : is9 ≠ 0) : lh9 LP LH p nL (up H n h) (n + 1) (h + 1) := by
  obtain ⟨h0, h1, h2, h3⟩ := k
  have hx : ∃ z, 0 ≤ z ∧ z < nL ∧ LP z = p ∧ LH z = h := by
    rcases hi with ⟨e, _⟩ | ⟨_, hi⟩
    · exact absurd e hz
    · exact hi
  refine ⟨by omega, fun a b a0 a1 b1 => ?_, fun a a0 a1 => ?_, fun z z0 z1 z2 z3 => ?_⟩
  · by_cases e : b = n
    · subst e; rw [up_s, up_n (by omega)]; exact (h2 a a0 a1).1
    · rw [up_n e, up_n (by omega)]; exact h1 a b a0 a1 (by omega)
  · by_cases e : a = n
    · subst e; rw [up_s]; exact ⟨by omega, hx⟩
    · rw [up_n e]; have := h2 a a0 (by omega); exact ⟨by omega, this.2⟩
  · by_cases e : LH z = h
    · exact ⟨n, h0, by omega, by rw [up_s, e]⟩
    · obtain ⟨a, a0, a1, a2⟩ := h3 z z0 z1 z2 (by omega)
      exact ⟨a, a0, by omega, by rw [up_n (by omega)]; exact a2⟩
def uU (LP LH LU : Int → Int) (p nL : Int) (H : Int → Int) : Int → Int := fun a => sm (utl LP LH LU p (H a)) nL
theorem lh9_gvd {LP LH : Int → Int} (LU : Int → Int) {p nL : Int} {H : Int → Int} {n : Int} (hL : 0 ≤ nL) (hLH : ∀ k, 0 ≤ LH k ∧ LH k ≤ 2199) (k : lh9 LP LH p nL H n 2200) : gvd LP LH LU p H (uU LP LH LU p nL H) n nL :=
  ⟨⟨k.1, lh9_n hL k⟩, k.2.1, fun a a0 a1 => (k.2.2.1 a a0 a1).2, fun z z0 z1 z2 => k.2.2.2 z z0 z1 z2 (by have := hLH z; omega), fun _ _ _ => rfl⟩
theorem lh9_r {LP LH : Int → Int} {p nL : Int} {H : Int → Int} {n h : Int} (hLH : ∀ k, 0 ≤ LH k ∧ LH k ≤ 2199) (k : lh9 LP LH p nL H n h) {a : Int} (a0 : 0 ≤ a) (a1 : a < n) : 0 ≤ H a ∧ H a ≤ 2199 := by
  obtain ⟨_, z, _, _, _, e⟩ := k.2.2.1 a a0 a1
  have := hLH z; omega
/-- the units of a peril between two of its hours -/
theorem grd_uU {LP LH LU : Int → Int} {p nL : Int} {H : Int → Int} {n : Int} (hL : 0 ≤ nL) (g : gvd LP LH LU p H (uU LP LH LU p nL H) n nL) {i j : Int} (i0 : 0 ≤ i) (ij : i ≤ j) (jn : j < n) : sm (grd LP LH LU p (H i) (H j)) nL = sm (uU LP LH LU p nL H) (j + 1) - sm (uU LP LH LU p nL H) i := by
  classical
  have hr := g.2.1
  have one : ∀ z, 0 ≤ z → z < nL → ∀ m, 0 ≤ m → m ≤ n → sm (fun a => utl LP LH LU p (H a) z) m = if LP z = p ∧ ∃ a, 0 ≤ a ∧ a < m ∧ H a = LH z then LU z else 0 := fun z z0 z1 m m0 => by
    refine sm_ind (P := fun m => m ≤ n → sm (fun a => utl LP LH LU p (H a) z) m = if LP z = p ∧ ∃ a, 0 ≤ a ∧ a < m ∧ H a = LH z then LU z else 0) (fun _ => by rw [sm_0, if_neg]; rintro ⟨_, a, a0, a1, _⟩; omega) (fun b hb ih hbn => ?_) m m0
    rw [sm_s _ hb, ih (by omega)]
    by_cases q : LP z = p ∧ LH z = H b
    · have e : utl LP LH LU p (H b) z = LU z := by unfold utl; rw [if_pos q]
      rw [e, if_neg, if_pos ⟨q.1, b, hb, by omega, q.2.symm⟩]; omega
      rintro ⟨_, a, a0, a1, a2⟩
      have := hr a b a0 a1 (by omega); omega
    · have e : utl LP LH LU p (H b) z = 0 := by unfold utl; rw [if_neg q]
      rw [e]
      by_cases w : LP z = p ∧ ∃ a, 0 ≤ a ∧ a < b ∧ H a = LH z
      · obtain ⟨w1, a, a0, a1, a2⟩ := w
        rw [if_pos ⟨w1, a, a0, a1, a2⟩, if_pos ⟨w1, a, a0, by omega, a2⟩]; omega
      · rw [if_neg w, if_neg]; rfl
        rintro ⟨w1, a, a0, a1, a2⟩
        by_cases e2 : a = b
        · subst e2; exact q ⟨w1, a2.symm⟩
        · exact w ⟨w1, a, a0, by omega, a2⟩
  have sw : ∀ m, 0 ≤ m → sm (uU LP LH LU p nL H) m = sm (fun z => sm (fun a => utl LP LH LU p (H a) z) m) nL := fun m m0 => sm_swap (fun a z => utl LP LH LU p (H a) z) m0 hL
  rw [sw (j + 1) (by omega), sw i i0]
  have : sm (grd LP LH LU p (H i) (H j)) nL + sm (fun z => sm (fun a => utl LP LH LU p (H a) z) i) nL = sm (fun z => sm (fun a => utl LP LH LU p (H a) z) (j + 1)) nL := by
    rw [← sm_add _ _ hL]
    refine sm_congr hL (fun z z0 z1 => ?_)
    show grd LP LH LU p (H i) (H j) z + sm (fun a => utl LP LH LU p (H a) z) i = sm (fun a => utl LP LH LU p (H a) z) (j + 1)
    rw [one z z0 z1 i i0 (by omega), one z z0 z1 (j + 1) (by omega) (by omega)]
    by_cases hp : LP z = p
    · obtain ⟨a, a0, a1, a2⟩ := g.2.2.2.1 z z0 z1 hp
      have lt : ∀ b c, 0 ≤ b → b < n → 0 ≤ c → c < n → (H b < H c ↔ b < c) := fun b c b0 b1 c0 c1 => ⟨fun q => by
        rcases Int.lt_trichotomy b c with r | r | r
        · exact r
        · subst r; omega
        · have := hr c b c0 r b1; omega, fun q => hr b c b0 q c1⟩
      have same : ∀ m, m ≤ n → ((LP z = p ∧ ∃ b, 0 ≤ b ∧ b < m ∧ H b = LH z) ↔ a < m) := fun m hm => ⟨fun ⟨_, b, b0, b1, b2⟩ => by
        by_cases e : a = b
        · omega
        · rcases Int.lt_or_gt_of_ne e with e | e
          · omega
          · have := hr b a b0 e a1; omega, fun q => ⟨hp, a, a0, q, a2⟩⟩
      have k1 := lt a i a0 a1 i0 (by omega)
      have k2 := lt j a (by omega) jn a0 a1
      have s1 := same i (by omega); have s2 := same (j + 1) (by omega)
      unfold grd
      by_cases q1 : a < i
      · rw [if_neg (by rw [← a2]; have := k1.mpr q1; omega), if_pos (s1.mpr q1), if_pos (s2.mpr (by omega))]; omega
      · by_cases q2 : j < a
        · rw [if_neg (by rw [← a2]; have := k2.mpr q2; omega), if_neg (fun y => q1 (s1.mp y)), if_neg (fun y => by have := s2.mp y; omega)]; rfl
        · rw [if_pos ⟨hp, by rw [← a2]; by_cases y : H a < H i; exact absurd (k1.mp y) q1; omega, by rw [← a2]; by_cases y : H j < H a; exact absurd (k2.mp y) q2; omega⟩, if_neg (fun y => q1 (s1.mp y)), if_pos (s2.mpr (by omega))]; omega
    · unfold grd
      rw [if_neg (fun y => hp y.1), if_neg (fun y => hp y.1), if_neg (fun y => hp y.1)]; rfl
  omega

set_option maxHeartbeats 4000000 in
set_option maxRecDepth 100000 in
theorem c_X10_layHours (l : Launch) (g : gD) (ko : Nat) (A : Nat → Nat) (th : Int) (hr : Int) (nL : Int) (nO : Int) (Q : Int) (nY : Int) (nE : Int) (nR : Int) (nB : Int) (LP : Int → Int) (LH : Int → Int) (ZO : Int → Int) (p : Int) (hLP : ∀ k, 0 ≤ LP k ∧ LP k ≤ 2) (hLH : ∀ k, 0 ≤ LH k ∧ LH k ≤ 2199) (hnL : 0 ≤ nL ∧ nL ≤ 40) (hp : -2147483648 ≤ p ∧ p < 2147483648) : gMet l g yX10_layHours cX10_layHours 6 (some .int) 0 0 0 0 [.ref ko, vi p] [(ko, cO 10 (kF th hr nL nO Q nY nE nR nB A)), (A 3, cA g 40 LP), (A 4, cA g 40 LH), (A 49, cA g 40 ZO)] (fun v9 w9 => ∃ (H2 : Int → Int) (n2 : Int), v9 = (some (vi n2)) ∧ w9 = [(ko, cO 10 (kF th hr nL nO Q nY nE nR nB A)), (A 3, cA g 40 LP), (A 4, cA g 40 LH), (A 49, cA g 40 H2)] ∧ (lh9 LP LH p nL H2 n2 2200)) := by
  refine gMet.of y_X10_layHours.2.2.2.2.1 (Nat.le_of_ble_eq_true rfl) ?_
  intro x hlx C hR hnm
  subst hlx
  have C : gC g x RX10 cX10_layHours 6 0 0 0 0 := C
  show gW g x [(ko, cO 10 (kF th hr nL nO Q nY nE nR nB A)), (A 3, cA g 40 LP), (A 4, cA g 40 LH), (A 49, cA g 40 ZO)] 0 0 [(0, .ref ko), (1, vi p)] 0 []
  refine g_iconst C dX10_layHours_0 ?_
  refine g_istore_n C [(2, vi 0), (0, .ref ko), (1, vi p)] dX10_layHours_1 (by decide) rfl ?_
  refine g_iconst C dX10_layHours_2 ?_
  refine g_istore_n C [(3, vi 0), (2, vi 0), (0, .ref ko), (1, vi p)] dX10_layHours_3 (by decide) rfl ?_
  have L4 : ∀ (f : Nat) (n : Int) (h : Int) (cH : Int → Int), (0 ≤ h ∧ h ≤ 2200 ∧ lh9 LP LH p nL cH n h) → (2200 - h).toNat < f → gW g x [(ko, cO 10 (kF th hr nL nO Q nY nE nR nB A)), (A 3, cA g 40 LP), (A 4, cA g 40 LH), (A 49, cA g 40 cH)] 0 0 [(3, vi h), (2, vi n), (0, .ref ko), (1, vi p)] 4 [] := by
    intro f
    induction f with
    | zero => intro n h cH hI4 hf; exact absurd hf (Nat.not_lt_zero _)
    | succ f ih4 =>
      intro n h cH hI4 hf4
      obtain ⟨hh0, hh1, hlh⟩ := hI4
      have hn9 := lh9_n hnL.1 hlh
      have hn8 := hlh.1
      refine g_iload_n C 0 dX10_layHours_4 rfl ?_
      refine g_sipush C dX10_layHours_5 (by decide) ?_
      refine g_icmp_gt C 87 dX10_layHours_8 (by decide) (by omega) (by omega) (fun c8 => ?_) (fun c8 => ?_)
      · refine g_iload_n C 1 dX10_layHours_87 rfl ?_
        exact g_iret C hR dX10_layHours_88 ⟨cH, n, rfl, rfl, (by rw [← show h = 2200 by omega]; exact hlh)⟩ rfl
      refine g_iconst C dX10_layHours_11 ?_
      refine g_istore C [(4, vi 0), (3, vi h), (2, vi n), (0, .ref ko), (1, vi p)] dX10_layHours_12 (by decide) rfl ?_
      refine g_iconst C dX10_layHours_14 ?_
      refine g_istore C [(5, vi 0), (4, vi 0), (3, vi h), (2, vi n), (0, .ref ko), (1, vi p)] dX10_layHours_15 (by decide) rfl ?_
      have L17 : ∀ (f : Nat) (is9 : Int) (l : Int), (0 ≤ l ∧ l ≤ nL ∧ ih9 is9 LP LH p h l) → (nL - l).toNat < f → gW g x [(ko, cO 10 (kF th hr nL nO Q nY nE nR nB A)), (A 3, cA g 40 LP), (A 4, cA g 40 LH), (A 49, cA g 40 cH)] 0 0 [(5, vi l), (4, vi is9), (3, vi h), (2, vi n), (0, .ref ko), (1, vi p)] 17 [] := by
        intro f
        induction f with
        | zero => intro is9 l hI17 hf; exact absurd hf (Nat.not_lt_zero _)
        | succ f ih17 =>
          intro is9 l hI17 hf17
          obtain ⟨hl0, hl1, hih⟩ := hI17
          have hir := ih9_r hih
          refine g_iload C 0 dX10_layHours_17 rfl ?_
          refine g_aload_n C 4 dX10_layHours_19 rfl ?_
          refine g_getf C k_X10 2 f_X10_153 0 rfl rfl (by decide) rfl rfl dX10_layHours_20 ?_
          refine g_icmp_ge C 66 dX10_layHours_23 (by decide) (by omega) (by omega) (fun c23 => ?_) (fun c23 => ?_)
          · have hIh : ih9 is9 LP LH p h nL := (show l = nL by omega) ▸ hih
            refine g_iload C 1 dX10_layHours_66 rfl ?_
            refine g_if_eq C 81 dX10_layHours_68 (by decide) (by omega) (fun c68 => ?_) (fun c68 => ?_)
            · refine g_iinc C 2 [(3, vi (h + 1)), (5, vi l), (4, vi is9), (2, vi n), (0, .ref ko), (1, vi p)] dX10_layHours_81 rfl (by decide) rfl ?_
              refine g_goto C 4 dX10_layHours_84 (by decide) ?_
              refine g_lv [(3, vi (h + 1)), (2, vi n), (0, .ref ko), (1, vi p)] [0, 3, 4, 5] rfl ?_
              exact ih4 n (h + 1) cH (by first | exact ⟨by omega, by omega, lh9_no hlh hIh (by omega)⟩ | exact ⟨by omega, by omega, lh9_yes hlh hIh (by omega)⟩) (by omega)
            have hlt9 : n < 40 := by have := lh9_n hnL.1 (lh9_yes hlh hIh (by omega)); omega
            refine g_aload_n C 4 dX10_layHours_71 rfl ?_
            refine g_getf C k_X10 49 f_X10_131 0 rfl rfl (by decide) rfl rfl dX10_layHours_72 ?_
            refine g_iload_n C 3 dX10_layHours_75 rfl ?_
            refine g_iload_n C 2 dX10_layHours_76 rfl ?_
            refine g_iast C 3 rfl (by omega) [(ko, cO 10 (kF th hr nL nO Q nY nE nR nB A)), (A 3, cA g 40 LP), (A 4, cA g 40 LH), (A 49, cA g 40 (up cH n h))] rfl dX10_layHours_77 ?_
            refine g_iinc C 3 [(2, vi (n + 1)), (5, vi l), (4, vi is9), (3, vi h), (0, .ref ko), (1, vi p)] dX10_layHours_78 rfl (by decide) rfl ?_
            refine g_iinc C 3 [(3, vi (h + 1)), (2, vi (n + 1)), (5, vi l), (4, vi is9), (0, .ref ko), (1, vi p)] dX10_layHours_81 rfl (by decide) rfl ?_
            refine g_goto C 4 dX10_layHours_84 (by decide) ?_
            refine g_lv [(3, vi (h + 1)), (2, vi (n + 1)), (0, .ref ko), (1, vi p)] [0, 1, 4, 5] rfl ?_
            exact ih4 (n + 1) (h + 1) (up cH n h) (by first | exact ⟨by omega, by omega, lh9_no hlh hIh (by omega)⟩ | exact ⟨by omega, by omega, lh9_yes hlh hIh (by omega)⟩) (by omega)
          have J58 : ∀ (w9 : Int), (w9 = if is9 = 1 ∨ (LP l = p ∧ LH l = h) then 1 else 0) → gW g x [(ko, cO 10 (kF th hr nL nO Q nY nE nR nB A)), (A 3, cA g 40 LP), (A 4, cA g 40 LH), (A 49, cA g 40 cH)] 0 0 [(5, vi l), (4, vi is9), (3, vi h), (2, vi n), (0, .ref ko), (1, vi p)] 58 [vi w9] := by
            intro w9 hJ58
            refine g_istore C [(4, vi w9), (5, vi l), (3, vi h), (2, vi n), (0, .ref ko), (1, vi p)] dX10_layHours_58 (by decide) rfl ?_
            refine g_iinc C 1 [(5, vi (l + 1)), (4, vi w9), (3, vi h), (2, vi n), (0, .ref ko), (1, vi p)] dX10_layHours_60 rfl (by decide) rfl ?_
            refine g_goto C 17 dX10_layHours_63 (by decide) ?_
            exact ih17 w9 (l + 1) ⟨by omega, by omega, ih9_s hl0 hih hJ58⟩ (by omega)
          refine g_iload C 1 dX10_layHours_26 rfl ?_
          refine g_if_ne C 53 dX10_layHours_28 (by decide) (by omega) (fun c28 => ?_) (fun c28 => ?_)
          · refine g_iconst C dX10_layHours_53 ?_
            refine g_goto C 58 dX10_layHours_54 (by decide) ?_
            exact J58 1 (by omega)
          refine g_aload_n C 4 dX10_layHours_31 rfl ?_
          refine g_getf C k_X10 3 f_X10_7 0 rfl rfl (by decide) rfl rfl dX10_layHours_32 ?_
          refine g_iload C 0 dX10_layHours_35 rfl ?_
          refine g_iald C 1 rfl (by omega) dX10_layHours_37 ?_
          have r1_37 := hLP l
          refine g_iload_n C 5 dX10_layHours_38 rfl ?_
          refine g_icmp_ne C 57 dX10_layHours_39 (by decide) (by omega) (by omega) (fun c39 => ?_) (fun c39 => ?_)
          · refine g_iconst C dX10_layHours_57 ?_
            exact J58 0 (by omega)
          refine g_aload_n C 4 dX10_layHours_42 rfl ?_
          refine g_getf C k_X10 4 f_X10_13 0 rfl rfl (by decide) rfl rfl dX10_layHours_43 ?_
          refine g_iload C 0 dX10_layHours_46 rfl ?_
          refine g_iald C 2 rfl (by omega) dX10_layHours_48 ?_
          have r2_48 := hLH l
          refine g_iload_n C 2 dX10_layHours_49 rfl ?_
          refine g_icmp_ne C 57 dX10_layHours_50 (by decide) (by omega) (by omega) (fun c50 => ?_) (fun c50 => ?_)
          · refine g_iconst C dX10_layHours_57 ?_
            exact J58 0 (by omega)
          refine g_iconst C dX10_layHours_53 ?_
          refine g_goto C 58 dX10_layHours_54 (by decide) ?_
          exact J58 1 (by omega)
      exact L17 _ 0 0 ⟨by omega, by omega, Or.inl ⟨rfl, fun z z0 z1 => by omega⟩⟩ (Nat.lt_succ_self _)
  exact L4 _ 0 0 ZO ⟨by omega, by omega, by omega, fun a b a0 a1 b1 => by omega, fun a a0 a1 => by omega, fun z _ _ _ q => by have := hLH z; omega⟩ (Nat.lt_succ_self _)

set_option maxHeartbeats 4000000 in
set_option maxRecDepth 100000 in
theorem c_X10_paidFor (l : Launch) (g : gD) (ko : Nat) (A : Nat → Nat) (th : Int) (hr : Int) (nL : Int) (nO : Int) (Q : Int) (nY : Int) (nE : Int) (nR : Int) (nB : Int) (LP : Int → Int) (LH : Int → Int) (LU : Int → Int) (FL : Int → Int) (DP : Int → Int) (SH : Int → Int) (p : Int) (a : Int) (b : Int) (hLP : ∀ k, 0 ≤ LP k ∧ LP k ≤ 2) (hLH : ∀ k, 0 ≤ LH k ∧ LH k ≤ 2199) (hLU : ∀ k, 0 ≤ LU k ∧ LU k ≤ 99999) (hnL : 0 ≤ nL ∧ nL ≤ 40) (hFL : ∀ k, 0 ≤ FL k ∧ FL k ≤ 999999) (hDP : ∀ k, 0 ≤ DP k ∧ DP k ≤ 999999) (hSH : ∀ k, 0 ≤ SH k ∧ SH k ≤ 100) (hnY : 0 ≤ nY ∧ nY ≤ 5) (hQ : 0 ≤ Q ∧ Q ≤ 90) (hp : -2147483648 ≤ p ∧ p < 2147483648) (ha : -2147483648 ≤ a ∧ a < 2147483648) (hb : -2147483648 ≤ b ∧ b < 2147483648) : gMet l g yX10_paidFor cX10_paidFor 8 (some .long) 1 0 0 23 [.ref ko, vi p, vi a, vi b] [(ko, cO 10 (kF th hr nL nO Q nY nE nR nB A)), (A 3, cA g 40 LP), (A 4, cA g 40 LH), (A 5, cA g 40 LU), (A 12, cA g 5 FL), (A 13, cA g 5 DP), (A 14, cA g 5 SH)] (gM (some (vl (wtt FL DP SH Q nY (sm (grd LP LH LU p a b) nL)))) [(ko, cO 10 (kF th hr nL nO Q nY nE nR nB A)), (A 3, cA g 40 LP), (A 4, cA g 40 LH), (A 5, cA g 40 LU), (A 12, cA g 5 FL), (A 13, cA g 5 DP), (A 14, cA g 5 SH)]) := by
  refine gMet.of y_X10_paidFor.2.2.2.2.1 (Nat.le_of_ble_eq_true rfl) ?_
  intro x hlx C hR hnm
  subst hlx
  have C : gC g x RX10 cX10_paidFor 8 1 0 0 23 := C
  show gW g x [(ko, cO 10 (kF th hr nL nO Q nY nE nR nB A)), (A 3, cA g 40 LP), (A 4, cA g 40 LH), (A 5, cA g 40 LU), (A 12, cA g 5 FL), (A 13, cA g 5 DP), (A 14, cA g 5 SH)] 0 0 [(0, .ref ko), (1, vi p), (2, vi a), (3, vi b)] 0 []
  refine g_iconst C dX10_paidFor_0 ?_
  refine g_istore C [(4, vi 0), (0, .ref ko), (1, vi p), (2, vi a), (3, vi b)] dX10_paidFor_1 (by decide) rfl ?_
  refine g_iconst C dX10_paidFor_3 ?_
  refine g_istore C [(5, vi 0), (4, vi 0), (0, .ref ko), (1, vi p), (2, vi a), (3, vi b)] dX10_paidFor_4 (by decide) rfl ?_
  have L6 : ∀ (f : Nat) (acc : Int) (i : Int), (0 ≤ i ∧ i ≤ nL ∧ acc = sm (grd LP LH LU p a b) i) → (nL - i).toNat < f → gW g x [(ko, cO 10 (kF th hr nL nO Q nY nE nR nB A)), (A 3, cA g 40 LP), (A 4, cA g 40 LH), (A 5, cA g 40 LU), (A 12, cA g 5 FL), (A 13, cA g 5 DP), (A 14, cA g 5 SH)] 0 0 [(5, vi i), (4, vi acc), (0, .ref ko), (1, vi p), (2, vi a), (3, vi b)] 6 [] := by
    intro f
    induction f with
    | zero => intro acc i hI6 hf; exact absurd hf (Nat.not_lt_zero _)
    | succ f ih6 =>
      intro acc i hI6 hf6
      refine g_iload C 0 dX10_paidFor_6 rfl ?_
      refine g_aload_n C 2 dX10_paidFor_8 rfl ?_
      refine g_getf C k_X10 2 f_X10_153 0 rfl rfl (by decide) rfl rfl dX10_paidFor_9 ?_
      refine g_icmp_ge C 63 dX10_paidFor_12 (by decide) (by omega) (by omega) (fun c12 => ?_) (fun c12 => ?_)
      · have hb9 := sm_bound (F := grd LP LH LU p a b) (lo := 0) (hi := 99999) hnL.1 (fun z _ _ => by have := hLU z; unfold grd; split <;> omega)
        have hac : acc = sm (grd LP LH LU p a b) nL := by rw [hI6.2.2, show i = nL by omega]
        have hq9 := qto_r (V := 3999960) hQ (show 0 ≤ acc ∧ acc ≤ 3999960 by omega)
        refine g_lconst C dX10_paidFor_63 0 (by decide) ?_
        refine g_lstore C [(5, vl 0), (4, vi acc), (0, .ref ko), (1, vi p), (2, vi a), (3, vi b)] dX10_paidFor_64 (by decide) rfl ?_
        refine g_iconst C dX10_paidFor_66 ?_
        refine g_istore C [(7, vi 0), (5, vl 0), (4, vi acc), (0, .ref ko), (1, vi p), (2, vi a), (3, vi b)] dX10_paidFor_67 (by decide) rfl ?_
        have L69 : ∀ (f : Nat) (tot : Int) (l : Int), (0 ≤ l ∧ l ≤ nY ∧ tot = sm (fun y => fresh FL DP SH Q y acc) l) → (nY - l).toNat < f → gW g x [(ko, cO 10 (kF th hr nL nO Q nY nE nR nB A)), (A 3, cA g 40 LP), (A 4, cA g 40 LH), (A 5, cA g 40 LU), (A 12, cA g 5 FL), (A 13, cA g 5 DP), (A 14, cA g 5 SH)] 0 0 [(7, vi l), (5, vl tot), (4, vi acc), (0, .ref ko), (1, vi p), (2, vi a), (3, vi b)] 69 [] := by
          intro f
          induction f with
          | zero => intro tot l hI69 hf; exact absurd hf (Nat.not_lt_zero _)
          | succ f ih69 =>
            intro tot l hI69 hf69
            obtain ⟨hl0, hl1, ht⟩ := hI69
            refine g_iload C 0 dX10_paidFor_69 rfl ?_
            refine g_aload_n C 3 dX10_paidFor_71 rfl ?_
            refine g_getf C k_X10 11 f_X10_176 0 rfl rfl (by decide) rfl rfl dX10_paidFor_72 ?_
            refine g_icmp_ge C 111 dX10_paidFor_75 (by decide) (by omega) (by omega) (fun c75 => ?_) (fun c75 => ?_)
            · refine g_lload C 1 dX10_paidFor_111 rfl ?_
              exact g_lretM C hR dX10_paidFor_113 (by rw [ht, show l = nY by omega, hac]; rfl) rfl rfl
            refine g_lload C 1 dX10_paidFor_78 rfl ?_
            refine g_aload_n C 3 dX10_paidFor_80 rfl ?_
            refine g_iload C 0 dX10_paidFor_81 rfl ?_
            refine g_aload_n C 3 dX10_paidFor_83 rfl ?_
            refine g_iload C 0 dX10_paidFor_84 rfl ?_
            refine g_iload C 2 dX10_paidFor_86 rfl ?_
            refine g_aload_n C 3 dX10_paidFor_88 rfl ?_
            refine g_iload C 2 dX10_paidFor_89 rfl ?_
            refine g_callVp C [vi acc] [vi acc, vi l, .ref ko, vi l, .ref ko, vl tot] (c_X10_ceded x.1.2.1 g ko A th hr nL nO Q nY nE nR nB acc hQ (by omega) (by omega)) y_X10_ceded l_X10_216 [0] rfl (by decide) 0 rfl rfl rfl (Nat.le_of_ble_eq_true rfl) rfl (by decide) dX10_paidFor_91 ?_
            refine g_isub C dX10_paidFor_94 ?_
            refine g_callVp C [vi l, vi (acc - (qto Q acc))] [vi l, .ref ko, vl tot] (c_X10_above x.1.2.1 g ko A th hr nL nO Q nY nE nR nB FL DP l (acc - (qto Q acc)) hFL hDP (by omega) (by omega) (by omega) (by omega)) y_X10_above l_X10_219 [0, 4, 5] rfl (by decide) 0 rfl rfl rfl (Nat.le_of_ble_eq_true rfl) rfl (by decide) dX10_paidFor_95 ?_
            have hf9 := fhit_r (FL := FL) hDP l (acc - qto Q acc)
            have hd9 := hDP l
            refine g_callVp C [vi l, vi (fhit FL DP l (acc - (qto Q acc)))] [vl tot] (c_X10_pays x.1.2.1 g ko A th hr nL nO Q nY nE nR nB SH l (fhit FL DP l (acc - (qto Q acc))) hSH (by omega) (by omega) (by omega) (by omega)) y_X10_pays l_X10_236 [0, 6] rfl (by decide) 0 rfl rfl rfl (Nat.le_of_ble_eq_true rfl) rfl (by decide) dX10_paidFor_98 ?_
            have hp9 := pay_r hSH l (show 0 ≤ fhit FL DP l (acc - qto Q acc) ∧ fhit FL DP l (acc - qto Q acc) ≤ 999999 by omega)
            refine g_i2l C dX10_paidFor_101 (by omega) ?_
            refine g_ladd C dX10_paidFor_102 ?_
            refine g_lstore C [(5, vl (tot + (pay SH l (fhit FL DP l (acc - (qto Q acc)))))), (7, vi l), (4, vi acc), (0, .ref ko), (1, vi p), (2, vi a), (3, vi b)] dX10_paidFor_103 (by decide) rfl ?_
            refine g_iinc C 1 [(7, vi (l + 1)), (5, vl (tot + (pay SH l (fhit FL DP l (acc - (qto Q acc)))))), (4, vi acc), (0, .ref ko), (1, vi p), (2, vi a), (3, vi b)] dX10_paidFor_105 rfl (by decide) rfl ?_
            refine g_goto C 69 dX10_paidFor_108 (by decide) ?_
            exact ih69 (tot + (pay SH l (fhit FL DP l (acc - (qto Q acc))))) (l + 1) ⟨by omega, by omega, by rw [sm_s _ hl0, ← ht]; rfl⟩ (by omega)
        exact L69 _ 0 0 ⟨by omega, by omega, rfl⟩ (Nat.lt_succ_self _)
      refine g_iload C 1 dX10_paidFor_15 rfl ?_
      refine g_aload_n C 2 dX10_paidFor_17 rfl ?_
      refine g_getf C k_X10 3 f_X10_7 0 rfl rfl (by decide) rfl rfl dX10_paidFor_18 ?_
      refine g_iload C 0 dX10_paidFor_21 rfl ?_
      refine g_iald C 1 rfl (by omega) dX10_paidFor_23 ?_
      have r1_23 := hLP i
      refine g_iload_n C 3 dX10_paidFor_24 rfl ?_
      refine g_icmp_ne C 53 dX10_paidFor_25 (by decide) (by omega) (by omega) (fun c25 => ?_) (fun c25 => ?_)
      · refine g_iconst C dX10_paidFor_53 ?_
        refine g_iadd C dX10_paidFor_54 ?_
        refine g_istore C [(4, vi (acc + 0)), (5, vi i), (0, .ref ko), (1, vi p), (2, vi a), (3, vi b)] dX10_paidFor_55 (by decide) rfl ?_
        refine g_iinc C 1 [(5, vi (i + 1)), (4, vi (acc + 0)), (0, .ref ko), (1, vi p), (2, vi a), (3, vi b)] dX10_paidFor_57 rfl (by decide) rfl ?_
        refine g_goto C 6 dX10_paidFor_60 (by decide) ?_
        exact ih6 (acc + 0) (i + 1) ⟨by omega, by omega, by rw [sm_s _ (by omega), ← hI6.2.2]; unfold grd; first | (rw [if_pos (by omega)]; done) | (rw [if_neg (by omega)]; done)⟩ (by omega)
      refine g_aload_n C 2 dX10_paidFor_28 rfl ?_
      refine g_getf C k_X10 4 f_X10_13 0 rfl rfl (by decide) rfl rfl dX10_paidFor_29 ?_
      refine g_iload C 0 dX10_paidFor_32 rfl ?_
      refine g_iald C 2 rfl (by omega) dX10_paidFor_34 ?_
      have r2_34 := hLH i
      refine g_iload_n C 4 dX10_paidFor_35 rfl ?_
      refine g_iload_n C 5 dX10_paidFor_36 rfl ?_
      refine g_callSp C [vi (LH i), vi a, vi b] [vi acc] (c_X10_in x.1.2.1 g (LH i) a b (by omega) ha hb) y_X10_in l_X10_141 [] rfl (by decide) rfl (Nat.le_of_ble_eq_true rfl) rfl (by decide) dX10_paidFor_37 ?_
      refine g_if_eq C 53 dX10_paidFor_40 (by decide) (by omega) (fun c40 => ?_) (fun c40 => ?_)
      · refine g_iconst C dX10_paidFor_53 ?_
        refine g_iadd C dX10_paidFor_54 ?_
        refine g_istore C [(4, vi (acc + 0)), (5, vi i), (0, .ref ko), (1, vi p), (2, vi a), (3, vi b)] dX10_paidFor_55 (by decide) rfl ?_
        refine g_iinc C 1 [(5, vi (i + 1)), (4, vi (acc + 0)), (0, .ref ko), (1, vi p), (2, vi a), (3, vi b)] dX10_paidFor_57 rfl (by decide) rfl ?_
        refine g_goto C 6 dX10_paidFor_60 (by decide) ?_
        exact ih6 (acc + 0) (i + 1) ⟨by omega, by omega, by rw [sm_s _ (by omega), ← hI6.2.2]; unfold grd; first | (rw [if_pos (by omega)]; done) | (rw [if_neg (by omega)]; done)⟩ (by omega)
      refine g_aload_n C 2 dX10_paidFor_43 rfl ?_
      refine g_getf C k_X10 5 f_X10_16 0 rfl rfl (by decide) rfl rfl dX10_paidFor_44 ?_
      refine g_iload C 0 dX10_paidFor_47 rfl ?_
      refine g_iald C 3 rfl (by omega) dX10_paidFor_49 ?_
      have r3_49 := hLU i
      refine g_goto C 54 dX10_paidFor_50 (by decide) ?_
      refine g_iadd C dX10_paidFor_54 ?_
      refine g_istore C [(4, vi (acc + (LU i))), (5, vi i), (0, .ref ko), (1, vi p), (2, vi a), (3, vi b)] dX10_paidFor_55 (by decide) rfl ?_
      refine g_iinc C 1 [(5, vi (i + 1)), (4, vi (acc + (LU i))), (0, .ref ko), (1, vi p), (2, vi a), (3, vi b)] dX10_paidFor_57 rfl (by decide) rfl ?_
      refine g_goto C 6 dX10_paidFor_60 (by decide) ?_
      exact ih6 (acc + (LU i)) (i + 1) ⟨by omega, by omega, by rw [sm_s _ (by omega), ← hI6.2.2]; unfold grd; first | (rw [if_pos (by omega)]; done) | (rw [if_neg (by omega)]; done)⟩ (by omega)
  exact L6 _ 0 0 ⟨by omega, by omega, rfl⟩ (Nat.lt_succ_self _)

set_option maxHeartbeats 4000000 in
set_option maxRecDepth 100000 in
theorem c_X10_bestOf (l : Launch) (g : gD) (ko : Nat) (A : Nat → Nat) (th : Int) (hr : Int) (nL : Int) (nO : Int) (Q : Int) (nY : Int) (nE : Int) (nR : Int) (nB : Int) (LP : Int → Int) (LH : Int → Int) (LU : Int → Int) (FL : Int → Int) (DP : Int → Int) (SH : Int → Int) (ZO : Int → Int) (ZM : Int → Int) (p : Int) (n : Int) (hLP : ∀ k, 0 ≤ LP k ∧ LP k ≤ 2) (hLH : ∀ k, 0 ≤ LH k ∧ LH k ≤ 2199) (hLU : ∀ k, 0 ≤ LU k ∧ LU k ≤ 99999) (hnL : 0 ≤ nL ∧ nL ≤ 40) (hFL : ∀ k, 0 ≤ FL k ∧ FL k ≤ 999999) (hDP : ∀ k, 0 ≤ DP k ∧ DP k ≤ 999999) (hSH : ∀ k, 0 ≤ SH k ∧ SH k ≤ 100) (hnY : 0 ≤ nY ∧ nY ≤ 5) (hQ : 0 ≤ Q ∧ Q ≤ 90) (hlh : lh9 LP LH p nL ZO n 2200) (hp : -2147483648 ≤ p ∧ p < 2147483648) (hn : -2147483648 ≤ n ∧ n < 2147483648) : gMet l g yX10_bestOf cX10_bestOf 7 (some .int) 2 0 0 50 [.ref ko, vi p, vi n] [(ko, cO 10 (kF th hr nL nO Q nY nE nR nB A)), (A 3, cA g 40 LP), (A 4, cA g 40 LH), (A 5, cA g 40 LU), (A 12, cA g 5 FL), (A 13, cA g 5 DP), (A 14, cA g 5 SH), (A 49, cA g 40 ZO), (A 50, cJ g 41 ZM)] (fun v9 w9 => ∃ (ZM2 : Int → Int), v9 = (some (vi (Sv ZO (uU LP LH LU p nL ZO) (wtt FL DP SH Q nY) (if p = 0 then 72 else 168) n 0))) ∧ w9 = [(ko, cO 10 (kF th hr nL nO Q nY nE nR nB A)), (A 3, cA g 40 LP), (A 4, cA g 40 LH), (A 5, cA g 40 LU), (A 12, cA g 5 FL), (A 13, cA g 5 DP), (A 14, cA g 5 SH), (A 49, cA g 40 ZO), (A 50, cJ g 41 ZM2)]) := by
  refine gMet.of y_X10_bestOf.2.2.2.2.1 (Nat.le_of_ble_eq_true rfl) ?_
  intro x hlx C hR hnm
  subst hlx
  have C : gC g x RX10 cX10_bestOf 7 2 0 0 50 := C
  show gW g x [(ko, cO 10 (kF th hr nL nO Q nY nE nR nB A)), (A 3, cA g 40 LP), (A 4, cA g 40 LH), (A 5, cA g 40 LU), (A 12, cA g 5 FL), (A 13, cA g 5 DP), (A 14, cA g 5 SH), (A 49, cA g 40 ZO), (A 50, cJ g 41 ZM)] 0 0 [(0, .ref ko), (1, vi p), (2, vi n)] 0 []
  have hn9 := lh9_n hnL.1 hlh
  have hn8 := hlh.1
  have hr9 := hlh.2.1
  have hgv := lh9_gvd LU hnL.1 hLH hlh
  have hw9 := wtt_r (FL := FL) hDP hSH Q hnY
  have hcl9 : 0 ≤ (if p = 0 then (72 : Int) else 168) ∧ (if p = 0 then (72 : Int) else 168) ≤ 168 := by split <;> omega
  refine g_aload_n C 0 dX10_bestOf_0 rfl ?_
  refine g_getf C k_X10 50 f_X10_134 0 rfl rfl (by decide) rfl rfl dX10_bestOf_1 ?_
  refine g_iload_n C 2 dX10_bestOf_4 rfl ?_
  refine g_lconst C dX10_bestOf_5 0 (by decide) ?_
  refine g_last C 8 rfl (by omega) [(ko, cO 10 (kF th hr nL nO Q nY nE nR nB A)), (A 3, cA g 40 LP), (A 4, cA g 40 LH), (A 5, cA g 40 LU), (A 12, cA g 5 FL), (A 13, cA g 5 DP), (A 14, cA g 5 SH), (A 49, cA g 40 ZO), (A 50, cJ g 41 (up ZM n 0))] rfl dX10_bestOf_6 ?_
  refine g_iload_n C 2 dX10_bestOf_7 rfl ?_
  refine g_iconst C dX10_bestOf_8 ?_
  refine g_isub C dX10_bestOf_9 ?_
  refine g_istore_n C [(3, vi (n - 1)), (0, .ref ko), (1, vi p), (2, vi n)] dX10_bestOf_10 (by decide) rfl ?_
  have L11 : ∀ (f : Nat) (i : Int) (cM : Int → Int), (-1 ≤ i ∧ i < n ∧ ∀ k, i < k → k ≤ n → cM k = Sv ZO (uU LP LH LU p nL ZO) (wtt FL DP SH Q nY) (if p = 0 then 72 else 168) n k) → (i + 1).toNat < f → gW g x [(ko, cO 10 (kF th hr nL nO Q nY nE nR nB A)), (A 3, cA g 40 LP), (A 4, cA g 40 LH), (A 5, cA g 40 LU), (A 12, cA g 5 FL), (A 13, cA g 5 DP), (A 14, cA g 5 SH), (A 49, cA g 40 ZO), (A 50, cJ g 41 cM)] 0 0 [(3, vi i), (0, .ref ko), (1, vi p), (2, vi n)] 11 [] := by
    intro f
    induction f with
    | zero => intro i cM hI11 hf; exact absurd hf (Nat.not_lt_zero _)
    | succ f ih11 =>
      intro i cM hI11 hf11
      obtain ⟨hi0, hi1, hM⟩ := hI11
      refine g_iload_n C 0 dX10_bestOf_11 rfl ?_
      refine g_if_lt C 130 dX10_bestOf_12 (by decide) (by omega) (fun c12 => ?_) (fun c12 => ?_)
      · refine g_aload_n C 1 dX10_bestOf_130 rfl ?_
        refine g_getf C k_X10 50 f_X10_134 0 rfl rfl (by decide) rfl rfl dX10_bestOf_131 ?_
        refine g_iconst C dX10_bestOf_134 ?_
        refine g_lald C 8 rfl (by omega) dX10_bestOf_135 ?_
        refine g_vall (w := Sv ZO (uU LP LH LU p nL ZO) (wtt FL DP SH Q nY) (if p = 0 then 72 else 168) n 0) (hM 0 (by omega) (by omega)) ?_
        refine g_l2i C dX10_bestOf_136 ?_
        exact g_iret C hR dX10_bestOf_137 ⟨cM, rfl, rfl⟩ rfl
      refine g_aload_n C 1 dX10_bestOf_15 rfl ?_
      refine g_getf C k_X10 50 f_X10_134 0 rfl rfl (by decide) rfl rfl dX10_bestOf_16 ?_
      refine g_iload_n C 0 dX10_bestOf_19 rfl ?_
      refine g_aload_n C 1 dX10_bestOf_20 rfl ?_
      refine g_getf C k_X10 50 f_X10_134 0 rfl rfl (by decide) rfl rfl dX10_bestOf_21 ?_
      refine g_iload_n C 0 dX10_bestOf_24 rfl ?_
      refine g_iconst C dX10_bestOf_25 ?_
      refine g_iadd C dX10_bestOf_26 ?_
      refine g_lald C 8 rfl (by omega) dX10_bestOf_27 ?_
      refine g_last C 8 rfl (by omega) [(ko, cO 10 (kF th hr nL nO Q nY nE nR nB A)), (A 3, cA g 40 LP), (A 4, cA g 40 LH), (A 5, cA g 40 LU), (A 12, cA g 5 FL), (A 13, cA g 5 DP), (A 14, cA g 5 SH), (A 49, cA g 40 ZO), (A 50, cJ g 41 (up cM i (cM (i + 1))))] rfl dX10_bestOf_28 ?_
      refine g_iload_n C 0 dX10_bestOf_29 rfl ?_
      refine g_istore C [(4, vi i), (3, vi i), (0, .ref ko), (1, vi p), (2, vi n)] dX10_bestOf_30 (by decide) rfl ?_
      have L32 : ∀ (f : Nat) (j : Int) (cD : Int → Int), (i ≤ j ∧ j ≤ n ∧ cD i = sx9 ZO (uU LP LH LU p nL ZO) (wtt FL DP SH Q nY) (if p = 0 then 72 else 168) (Sv ZO (uU LP LH LU p nL ZO) (wtt FL DP SH Q nY) (if p = 0 then 72 else 168) n) i (j - i) ∧ ∀ k, i < k → k ≤ n → cD k = Sv ZO (uU LP LH LU p nL ZO) (wtt FL DP SH Q nY) (if p = 0 then 72 else 168) n k) → (n - j).toNat < f → gW g x [(ko, cO 10 (kF th hr nL nO Q nY nE nR nB A)), (A 3, cA g 40 LP), (A 4, cA g 40 LH), (A 5, cA g 40 LU), (A 12, cA g 5 FL), (A 13, cA g 5 DP), (A 14, cA g 5 SH), (A 49, cA g 40 ZO), (A 50, cJ g 41 cD)] 0 0 [(4, vi j), (3, vi i), (0, .ref ko), (1, vi p), (2, vi n)] 32 [] := by
        intro f
        induction f with
        | zero => intro j cD hI32 hf; exact absurd hf (Nat.not_lt_zero _)
        | succ f ih32 =>
          intro j cD hI32 hf32
          obtain ⟨hj0, hj1, hbe, hD⟩ := hI32
          have hS9 : ∀ k, i < k → k ≤ n → 0 ≤ Sv ZO (uU LP LH LU p nL ZO) (wtt FL DP SH Q nY) (if p = 0 then 72 else 168) n k ∧ Sv ZO (uU LP LH LU p nL ZO) (wtt FL DP SH Q nY) (if p = 0 then 72 else 168) n k ≤ (n - k) * 4999995 := fun k h0 h1 => Sv_r (VH := ZO) (VU := (uU LP LH LU p nL ZO)) (cl := (if p = 0 then 72 else 168)) hw9 (by omega) h1
          have hbr := sx9_r (VH := ZO) (VU := (uU LP LH LU p nL ZO)) (cl := (if p = 0 then 72 else 168)) (i := i) hw9 hS9 hi1 (k := j - i) (by omega) (by omega)
          rw [← hbe] at hbr
          have hri := lh9_r hLH hlh (a := i) (by omega) hi1
          refine g_iload C 0 dX10_bestOf_32 rfl ?_
          refine g_iload_n C 4 dX10_bestOf_34 rfl ?_
          refine g_icmp_ge C 124 dX10_bestOf_35 (by decide) (by omega) (by omega) (fun c35 => ?_) (fun c35 => ?_)
          · refine g_iinc C 1 [(3, vi (i + (-1))), (4, vi j), (0, .ref ko), (1, vi p), (2, vi n)] dX10_bestOf_124 rfl (by decide) rfl ?_
            refine g_goto C 11 dX10_bestOf_127 (by decide) ?_
            have hfin : cD i = Sv ZO (uU LP LH LU p nL ZO) (wtt FL DP SH Q nY) (if p = 0 then 72 else 168) n i := by
              rw [hbe, Sv_s _ _ _ _ hi1]
              first
              | (rw [show j - i = n - i by omega]; done)
              | exact (sx9_stop hr9 (by omega) (k := j - i) (by omega) (fun _ => by rw [show i + (j - i) = j by omega]; omega) (n - i) (by omega) (by omega)).symm
            refine g_lv [(3, vi (i + (-1))), (0, .ref ko), (1, vi p), (2, vi n)] [0, 2, 3, 4] rfl ?_
            exact ih11 (i + (-1)) cD ⟨by omega, by omega, fun k k0 k1 => by
                  by_cases e : k = i
                  · subst e; exact hfin
                  · exact hD k (by omega) k1⟩ (by omega)
          refine g_aload_n C 2 dX10_bestOf_38 rfl ?_
          refine g_getf C k_X10 49 f_X10_131 0 rfl rfl (by decide) rfl rfl dX10_bestOf_39 ?_
          refine g_iload C 0 dX10_bestOf_42 rfl ?_
          refine g_iald C 7 rfl (by omega) dX10_bestOf_44 ?_
          have hrj := lh9_r hLH hlh (a := j) (by omega) (by omega)
          refine g_aload_n C 2 dX10_bestOf_45 rfl ?_
          refine g_getf C k_X10 49 f_X10_131 0 rfl rfl (by decide) rfl rfl dX10_bestOf_46 ?_
          refine g_iload_n C 1 dX10_bestOf_49 rfl ?_
          refine g_iald C 7 rfl (by omega) dX10_bestOf_50 ?_
          refine g_isub C dX10_bestOf_51 ?_
          refine g_iload_n C 3 dX10_bestOf_52 rfl ?_
          refine g_callSp C [vi p] [vi ((ZO j) - (ZO i))] (c_X10_clause x.1.2.1 g p hp) y_X10_clause l_X10_159 [] rfl (by decide) rfl (Nat.le_of_ble_eq_true rfl) rfl (by decide) dX10_bestOf_53 ?_
          refine g_icmp_ge C 124 dX10_bestOf_56 (by decide) (by omega) (by omega) (fun c56 => ?_) (fun c56 => ?_)
          · refine g_iinc C 1 [(3, vi (i + (-1))), (4, vi j), (0, .ref ko), (1, vi p), (2, vi n)] dX10_bestOf_124 rfl (by decide) rfl ?_
            refine g_goto C 11 dX10_bestOf_127 (by decide) ?_
            have hfin : cD i = Sv ZO (uU LP LH LU p nL ZO) (wtt FL DP SH Q nY) (if p = 0 then 72 else 168) n i := by
              rw [hbe, Sv_s _ _ _ _ hi1]
              first
              | (rw [show j - i = n - i by omega]; done)
              | exact (sx9_stop hr9 (by omega) (k := j - i) (by omega) (fun _ => by rw [show i + (j - i) = j by omega]; omega) (n - i) (by omega) (by omega)).symm
            refine g_lv [(3, vi (i + (-1))), (0, .ref ko), (1, vi p), (2, vi n)] [0, 2, 3, 4] rfl ?_
            exact ih11 (i + (-1)) cD ⟨by omega, by omega, fun k k0 k1 => by
                  by_cases e : k = i
                  · subst e; exact hfin
                  · exact hD k (by omega) k1⟩ (by omega)
          refine g_aload_n C 2 dX10_bestOf_59 rfl ?_
          refine g_iload_n C 3 dX10_bestOf_60 rfl ?_
          refine g_aload_n C 2 dX10_bestOf_61 rfl ?_
          refine g_getf C k_X10 49 f_X10_131 0 rfl rfl (by decide) rfl rfl dX10_bestOf_62 ?_
          refine g_iload_n C 1 dX10_bestOf_65 rfl ?_
          refine g_iald C 7 rfl (by omega) dX10_bestOf_66 ?_
          refine g_aload_n C 2 dX10_bestOf_67 rfl ?_
          refine g_getf C k_X10 49 f_X10_131 0 rfl rfl (by decide) rfl rfl dX10_bestOf_68 ?_
          refine g_iload C 0 dX10_bestOf_71 rfl ?_
          refine g_iald C 7 rfl (by omega) dX10_bestOf_73 ?_
          refine g_callVp C [vi p, vi (ZO i), vi (ZO j)] [] (c_X10_paidFor x.1.2.1 g ko A th hr nL nO Q nY nE nR nB LP LH LU FL DP SH p (ZO i) (ZO j) hLP hLH hLU hnL hFL hDP hSH hnY hQ hp (by omega) (by omega)) y_X10_paidFor l_X10_263 [0, 1, 2, 3, 4, 5, 6] rfl (by decide) 0 rfl rfl rfl (Nat.le_of_ble_eq_true rfl) rfl (by decide) dX10_bestOf_74 ?_
          refine g_aload_n C 2 dX10_bestOf_77 rfl ?_
          refine g_getf C k_X10 50 f_X10_134 0 rfl rfl (by decide) rfl rfl dX10_bestOf_78 ?_
          refine g_iload C 0 dX10_bestOf_81 rfl ?_
          refine g_iconst C dX10_bestOf_83 ?_
          refine g_iadd C dX10_bestOf_84 ?_
          refine g_lald C 8 rfl (by omega) dX10_bestOf_85 ?_
          refine g_vall (w := Sv ZO (uU LP LH LU p nL ZO) (wtt FL DP SH Q nY) (if p = 0 then 72 else 168) n (j + 1)) (hD (j + 1) (by omega) (by omega)) ?_
          refine g_ladd C dX10_bestOf_86 ?_
          have hgu := grd_uU hnL.1 hgv (i := i) (j := j) (by omega) hj0 (by omega)
          have hwE := hw9 (sm (uU LP LH LU p nL ZO) (j + 1) - sm (uU LP LH LU p nL ZO) i)
          have hsE := hS9 (j + 1) (by omega) (by omega)
          refine g_vall (w := wtt FL DP SH Q nY (sm (uU LP LH LU p nL ZO) (j + 1) - sm (uU LP LH LU p nL ZO) i) + Sv ZO (uU LP LH LU p nL ZO) (wtt FL DP SH Q nY) (if p = 0 then 72 else 168) n (j + 1)) (by rw [hgu]) ?_
          refine g_lstore C [(5, vl (wtt FL DP SH Q nY (sm (uU LP LH LU p nL ZO) (j + 1) - sm (uU LP LH LU p nL ZO) i) + Sv ZO (uU LP LH LU p nL ZO) (wtt FL DP SH Q nY) (if p = 0 then 72 else 168) n (j + 1))), (4, vi j), (3, vi i), (0, .ref ko), (1, vi p), (2, vi n)] dX10_bestOf_87 (by decide) rfl ?_
          refine g_aload_n C 3 dX10_bestOf_89 rfl ?_
          refine g_getf C k_X10 50 f_X10_134 0 rfl rfl (by decide) rfl rfl dX10_bestOf_90 ?_
          refine g_iload_n C 2 dX10_bestOf_93 rfl ?_
          have J117 : ∀ (w9 : Int), (w9 = if cD i < wtt FL DP SH Q nY (sm (uU LP LH LU p nL ZO) (j + 1) - sm (uU LP LH LU p nL ZO) i) + Sv ZO (uU LP LH LU p nL ZO) (wtt FL DP SH Q nY) (if p = 0 then 72 else 168) n (j + 1) then wtt FL DP SH Q nY (sm (uU LP LH LU p nL ZO) (j + 1) - sm (uU LP LH LU p nL ZO) i) + Sv ZO (uU LP LH LU p nL ZO) (wtt FL DP SH Q nY) (if p = 0 then 72 else 168) n (j + 1) else cD i) → gW g x [(ko, cO 10 (kF th hr nL nO Q nY nE nR nB A)), (A 3, cA g 40 LP), (A 4, cA g 40 LH), (A 5, cA g 40 LU), (A 12, cA g 5 FL), (A 13, cA g 5 DP), (A 14, cA g 5 SH), (A 49, cA g 40 ZO), (A 50, cJ g 41 cD)] 0 0 [(5, vl (wtt FL DP SH Q nY (sm (uU LP LH LU p nL ZO) (j + 1) - sm (uU LP LH LU p nL ZO) i) + Sv ZO (uU LP LH LU p nL ZO) (wtt FL DP SH Q nY) (if p = 0 then 72 else 168) n (j + 1))), (4, vi j), (3, vi i), (0, .ref ko), (1, vi p), (2, vi n)] 117 [vl w9, vi i, .ref (A 50)] := by
            intro w9 hJ117
            refine g_last C 8 rfl (by omega) [(ko, cO 10 (kF th hr nL nO Q nY nE nR nB A)), (A 3, cA g 40 LP), (A 4, cA g 40 LH), (A 5, cA g 40 LU), (A 12, cA g 5 FL), (A 13, cA g 5 DP), (A 14, cA g 5 SH), (A 49, cA g 40 ZO), (A 50, cJ g 41 (up cD i w9))] rfl dX10_bestOf_117 ?_
            refine g_iinc C 1 [(4, vi (j + 1)), (5, vl (wtt FL DP SH Q nY (sm (uU LP LH LU p nL ZO) (j + 1) - sm (uU LP LH LU p nL ZO) i) + Sv ZO (uU LP LH LU p nL ZO) (wtt FL DP SH Q nY) (if p = 0 then 72 else 168) n (j + 1))), (3, vi i), (0, .ref ko), (1, vi p), (2, vi n)] dX10_bestOf_118 rfl (by decide) rfl ?_
            refine g_goto C 32 dX10_bestOf_121 (by decide) ?_
            refine g_lv [(4, vi (j + 1)), (3, vi i), (0, .ref ko), (1, vi p), (2, vi n)] [0, 2, 3, 4, 5] rfl ?_
            exact ih32 (j + 1) (up cD i w9) ⟨by omega, by omega, by rw [up_s, hJ117, show j + 1 - i = (j - i) + 1 by omega, sx9_s _ _ _ _ _ _ (by omega), show i + (j - i) = j by omega, if_pos (show ZO j - ZO i < (if p = 0 then 72 else 168) by omega), ← hbe]; rfl, fun k k0 k1 => by rw [up_n (by omega)]; exact hD k k0 k1⟩ (by omega)
          refine g_lload C 0 dX10_bestOf_94 rfl ?_
          refine g_aload_n C 3 dX10_bestOf_96 rfl ?_
          refine g_getf C k_X10 50 f_X10_134 0 rfl rfl (by decide) rfl rfl dX10_bestOf_97 ?_
          refine g_iload_n C 2 dX10_bestOf_100 rfl ?_
          refine g_lald C 8 rfl (by omega) dX10_bestOf_101 ?_
          refine g_lcmp C dX10_bestOf_102 (by omega) (by omega) ?_
          refine g_if_le C 111 dX10_bestOf_103 (by decide) (by omega) (fun c103 => ?_) (fun c103 => ?_)
          · refine g_aload_n C 3 dX10_bestOf_111 rfl ?_
            refine g_getf C k_X10 50 f_X10_134 0 rfl rfl (by decide) rfl rfl dX10_bestOf_112 ?_
            refine g_iload_n C 2 dX10_bestOf_115 rfl ?_
            refine g_lald C 8 rfl (by omega) dX10_bestOf_116 ?_
            exact J117 (cD i) (by omega)
          refine g_lload C 0 dX10_bestOf_106 rfl ?_
          refine g_goto C 117 dX10_bestOf_108 (by decide) ?_
          exact J117 (wtt FL DP SH Q nY (sm (uU LP LH LU p nL ZO) (j + 1) - sm (uU LP LH LU p nL ZO) i) + Sv ZO (uU LP LH LU p nL ZO) (wtt FL DP SH Q nY) (if p = 0 then 72 else 168) n (j + 1)) (by omega)
      exact L32 _ i (up cM i (cM (i + 1))) ⟨by omega, by omega, by rw [Int.sub_self, up_s]; exact hM (i + 1) (by omega) (by omega), fun k k0 k1 => by rw [up_n (by omega)]; exact hM k k0 k1⟩ (Nat.lt_succ_self _)
  exact L11 _ (n - 1) (up ZM n 0) ⟨by omega, by omega, fun k k0 k1 => by rw [show k = n by omega, up_s, Sv_n]⟩ (Nat.lt_succ_self _)

