/-! the hours of a peril's losses, in order -/
def shf (F : Int → Int) (i n : Int) : Int → Int := fun j => if i < j ∧ j ≤ n then F (j - 1) else F j
theorem shf_0 (F : Int → Int) (n : Int) : shf F n n = F := by
  funext j; unfold shf; rw [if_neg (by omega)]
theorem shf_s {F : Int → Int} {i n : Int} (h : i ≤ n) : up (shf F i n) i (F (i - 1)) = shf F (i - 1) n := by
  funext j; simp only [shf, up]
  by_cases e : j = i
  · subst e; rw [if_pos rfl, if_pos (by omega)]
  · rw [if_neg e]
    by_cases q : i < j ∧ j ≤ n
    · rw [if_pos q, if_pos (by omega)]
    · rw [if_neg q, if_neg (by omega)]
theorem shf_at {F : Int → Int} {i n : Int} : shf F i n (i - 1) = F (i - 1) := by unfold shf; rw [if_neg (by omega)]
def ins9 (VH VU : Int → Int) (n h u : Int) (H U : Int → Int) (n2 : Int) : Prop := ∃ t, 0 ≤ t ∧ t ≤ n ∧ (∀ j, 0 ≤ j → j < t → VH j < h) ∧
  ((t < n ∧ VH t = h ∧ H = VH ∧ U = up VU t (VU t + u) ∧ n2 = n) ∨ ((t = n ∨ h < VH t) ∧ H = up (shf VH t n) t h ∧ U = up (shf VU t n) t u ∧ n2 = n + 1))
theorem ins9_r {VH VU : Int → Int} {n h u : Int} {H U : Int → Int} {n2 : Int} (hi : ins9 VH VU n h u H U n2) (hVH : ∀ k, 0 ≤ VH k ∧ VH k ≤ 2199) (hh : 0 ≤ h ∧ h ≤ 2199) (k : Int) : 0 ≤ H k ∧ H k ≤ 2199 := by
  obtain ⟨t, _, _, _, (⟨_, _, rfl, _⟩ | ⟨_, rfl, _⟩)⟩ := hi
  · exact hVH k
  · have h1 := hVH k
    have h2 := hVH (k - 1)
    unfold up shf; split <;> (try split) <;> omega
def utl (LP LH LU : Int → Int) (p h : Int) : Int → Int := fun l => if LP l = p ∧ LH l = h then LU l else 0
def gvd (LP LH LU : Int → Int) (p : Int) (VH VU : Int → Int) (n i : Int) : Prop := (0 ≤ n ∧ n ≤ i) ∧ (∀ a b, 0 ≤ a → a < b → b < n → VH a < VH b) ∧ (∀ a, 0 ≤ a → a < n → ∃ z, 0 ≤ z ∧ z < i ∧ LP z = p ∧ LH z = VH a) ∧ (∀ z, 0 ≤ z → z < i → LP z = p → ∃ a, 0 ≤ a ∧ a < n ∧ VH a = LH z) ∧ (∀ a, 0 ≤ a → a < n → VU a = sm (utl LP LH LU p (VH a)) i)
theorem gvd_0 (LP LH LU : Int → Int) (p : Int) (VH VU : Int → Int) : gvd LP LH LU p VH VU 0 0 := ⟨by omega, fun a b h0 h1 h2 => by omega, fun a h0 h1 => by omega, fun a h0 h1 => by omega, fun a h0 h1 => by omega⟩
theorem gvd_skip {LP LH LU : Int → Int} {p : Int} {VH VU : Int → Int} {n i : Int} (h : gvd LP LH LU p VH VU n i) (hi : 0 ≤ i) (hp : ¬ LP i = p) : gvd LP LH LU p VH VU n (i + 1) := by
  obtain ⟨h1, h2, h3, h4, h5⟩ := h
  refine ⟨by omega, h2, fun a a0 a1 => ?_, fun z z0 z1 zp => ?_, fun a a0 a1 => ?_⟩
  · obtain ⟨z, q0, q1, q2⟩ := h3 a a0 a1
    exact ⟨z, q0, by omega, q2⟩
  · by_cases e : z = i
    · subst e; exact absurd zp hp
    · exact h4 z z0 (by omega) zp
  · rw [sm_s _ hi, ← h5 a a0 a1]; unfold utl; rw [if_neg (fun q => hp q.1)]; omega
theorem utl_none {LP LH LU : Int → Int} {p h i : Int} (hi : 0 ≤ i) (hn : ∀ z, 0 ≤ z → z < i → LP z = p → LH z ≠ h) : sm (utl LP LH LU p h) i = 0 := by
  have h9 := sm_congr (F := utl LP LH LU p h) (G := fun _ => 0) hi (fun z z0 z1 => if_neg (fun q => hn z z0 z1 q.1 q.2))
  rw [h9, sm_const0 hi]
theorem gvd_step {LP LH LU : Int → Int} {p : Int} {VH VU : Int → Int} {n i : Int} {H U : Int → Int} {n2 : Int} (h : gvd LP LH LU p VH VU n i) (hi : 0 ≤ i) (hp : LP i = p) (hs : ins9 VH VU n (LH i) (LU i) H U n2) : gvd LP LH LU p H U n2 (i + 1) := by
  obtain ⟨h1, h2, h3, h4, h5⟩ := h
  obtain ⟨t, t0, t1, t2, (⟨t3, t4, rfl, rfl, rfl⟩ | ⟨t3, rfl, rfl, rfl⟩)⟩ := hs
  · refine ⟨by omega, h2, fun a a0 a1 => ?_, fun z z0 z1 zp => ?_, fun a a0 a1 => ?_⟩
    · obtain ⟨z, q0, q1, q2⟩ := h3 a a0 a1
      exact ⟨z, q0, by omega, q2⟩
    · by_cases e : z = i
      · subst e; exact ⟨t, t0, t3, t4⟩
      · exact h4 z z0 (by omega) zp
    · rw [sm_s _ hi]
      by_cases e : a = t
      · subst e; rw [up_s, ← h5 a a0 a1]; congr 1; unfold utl; rw [if_pos ⟨hp, t4.symm⟩]
      · rw [up_n e, ← h5 a a0 a1]; unfold utl
        rw [if_neg]; omega
        rintro ⟨_, q⟩
        rw [← t4] at q
        rcases Int.lt_or_gt_of_ne e with e | e
        · have := h2 a t a0 e t3; omega
        · have := h2 t a t0 e a1; omega
  · have hlt : ∀ j, t ≤ j → j < n → LH i < VH j := fun j j0 j1 => by
      rcases t3 with t3 | t3
      · omega
      · by_cases e : t = j
        · subst e; exact t3
        · have := h2 t j t0 (by omega) j1; omega
    have v1 : ∀ j, j < t → up (shf VH t n) t (LH i) j = VH j := fun j q => by rw [up_n (by omega)]; unfold shf; rw [if_neg (by omega)]
    have v2 : ∀ j, t < j → j ≤ n → up (shf VH t n) t (LH i) j = VH (j - 1) := fun j q q2 => by rw [up_n (by omega)]; unfold shf; rw [if_pos (by omega)]
    have v3 : up (shf VH t n) t (LH i) t = LH i := up_s
    have w1 : ∀ j, j < t → up (shf VU t n) t (LU i) j = VU j := fun j q => by rw [up_n (by omega)]; unfold shf; rw [if_neg (by omega)]
    have w2 : ∀ j, t < j → j ≤ n → up (shf VU t n) t (LU i) j = VU (j - 1) := fun j q q2 => by rw [up_n (by omega)]; unfold shf; rw [if_pos (by omega)]
    have w3 : up (shf VU t n) t (LU i) t = LU i := up_s
    have hne : ∀ j, 0 ≤ j → j < n → VH j ≠ LH i := fun j j0 j1 => by
      by_cases q : j < t
      · have := t2 j j0 q; omega
      · have := hlt j (by omega) j1; omega
    refine ⟨by omega, fun a b a0 a1 b1 => ?_, fun a a0 a1 => ?_, fun z z0 z1 zp => ?_, fun a a0 a1 => ?_⟩
    · rcases Int.lt_trichotomy b t with q | q | q
      · rw [v1 a (by omega), v1 b q]; exact h2 a b a0 a1 (by omega)
      · subst q; rw [v1 a a1, v3]; exact t2 a a0 a1
      · rw [v2 b q (by omega)]
        rcases Int.lt_trichotomy a t with r | r | r
        · rw [v1 a r]
          by_cases e : a = b - 1
          · omega
          · exact h2 a (b - 1) a0 (by omega) (by omega)
        · subst r; rw [v3]; exact hlt (b - 1) (by omega) (by omega)
        · rw [v2 a r (by omega)]; exact h2 (a - 1) (b - 1) (by omega) (by omega) (by omega)
    · rcases Int.lt_trichotomy a t with q | q | q
      · rw [v1 a q]; obtain ⟨z, q0, q1, q2⟩ := h3 a a0 (by omega); exact ⟨z, q0, by omega, q2⟩
      · subst q; rw [v3]; exact ⟨i, hi, by omega, hp, rfl⟩
      · rw [v2 a q (by omega)]; obtain ⟨z, q0, q1, q2⟩ := h3 (a - 1) (by omega) (by omega); exact ⟨z, q0, by omega, q2⟩
    · by_cases e : z = i
      · subst e; exact ⟨t, t0, by omega, v3⟩
      · obtain ⟨a, q0, q1, q2⟩ := h4 z z0 (by omega) zp
        by_cases q : a < t
        · exact ⟨a, q0, by omega, by rw [v1 a q]; exact q2⟩
        · exact ⟨a + 1, by omega, by omega, by rw [v2 (a + 1) (by omega) (by omega), show a + 1 - 1 = a by omega]; exact q2⟩
    · rw [sm_s _ hi]
      rcases Int.lt_trichotomy a t with q | q | q
      · rw [v1 a q, w1 a q, ← h5 a a0 (by omega)]; unfold utl; rw [if_neg (fun z => hne a a0 (by omega) z.2.symm)]; omega
      · subst q
        rw [v3, w3, utl_none hi (fun z z0 z1 zp zh => by obtain ⟨b, b0, b1, b2⟩ := h4 z z0 z1 zp; exact hne b b0 b1 (b2.trans zh))]
        unfold utl; rw [if_pos ⟨hp, rfl⟩]; omega
      · rw [v2 a q (by omega), w2 a q (by omega), ← h5 (a - 1) (by omega) (by omega)]; unfold utl; rw [if_neg (fun z => hne (a - 1) (by omega) (by omega) z.2.symm)]; omega

set_option maxHeartbeats 4000000 in
set_option maxRecDepth 100000 in
theorem c_X0_countHours (l : Launch) (g : gD) (vo : Nat) (vh : Nat) (vu : Nat) (vm : Nat) (nV : Int)  : gMet l g yX0_countHours cX0_countHours 1 (some .int) 0 0 0 0 [.ref vo] [(vo, cO 0 [.ref vh, .ref vu, .ref vm, vi nV])] (gM (some (vi nV)) [(vo, cO 0 [.ref vh, .ref vu, .ref vm, vi nV])]) := by
  refine gMet.of y_X0_countHours.2.2.2.2.1 (Nat.le_of_ble_eq_true rfl) ?_
  intro x hlx C hR hnm
  subst hlx
  have C : gC g x RX0 cX0_countHours 1 0 0 0 0 := C
  show gW g x [(vo, cO 0 [.ref vh, .ref vu, .ref vm, vi nV])] 0 0 [(0, .ref vo)] 0 []
  refine g_aload_n C 0 dX0_countHours_0 rfl ?_
  refine g_getf C k_X0 3 f_X0_21 0 rfl rfl (by decide) rfl rfl dX0_countHours_1 ?_
  exact g_iretM C hR dX0_countHours_4 rfl rfl rfl

set_option maxHeartbeats 4000000 in
set_option maxRecDepth 100000 in
theorem c_X0_gatherOne (l : Launch) (g : gD) (vo : Nat) (vh : Nat) (vu : Nat) (vm : Nat) (VH : Int → Int) (VU : Int → Int) (nV : Int) (h : Int) (u : Int) (hVH : ∀ k, 0 ≤ VH k ∧ VH k ≤ 2199) (hnV : 0 ≤ nV ∧ nV < 40) (hh : 0 ≤ h ∧ h ≤ 2199) : gMet l g yX0_gatherOne cX0_gatherOne 5 none 0 0 0 0 [.ref vo, vi h, vi u] [(vo, cO 0 [.ref vh, .ref vu, .ref vm, vi nV]), (vh, cA g 40 VH), (vu, cA g 40 VU)] (fun v9 w9 => ∃ (H : Int → Int) (U : Int → Int) (n : Int), v9 = none ∧ w9 = [(vo, cO 0 [.ref vh, .ref vu, .ref vm, vi n]), (vh, cA g 40 H), (vu, cA g 40 U)] ∧ (ins9 VH VU nV h u H U n)) := by
  refine gMet.of y_X0_gatherOne.2.2.2.2.1 (Nat.le_of_ble_eq_true rfl) ?_
  intro x hlx C hR hnm
  subst hlx
  have C : gC g x RX0 cX0_gatherOne 5 0 0 0 0 := C
  show gW g x [(vo, cO 0 [.ref vh, .ref vu, .ref vm, vi nV]), (vh, cA g 40 VH), (vu, cA g 40 VU)] 0 0 [(0, .ref vo), (1, vi h), (2, vi u)] 0 []
  refine g_iconst C dX0_gatherOne_0 ?_
  refine g_istore_n C [(3, vi 0), (0, .ref vo), (1, vi h), (2, vi u)] dX0_gatherOne_1 (by decide) rfl ?_
  have J26 : ∀ (t : Int), (0 ≤ t ∧ t ≤ nV ∧ (∀ j, 0 ≤ j → j < t → VH j < h) ∧ (t < nV → h ≤ VH t)) → gW g x [(vo, cO 0 [.ref vh, .ref vu, .ref vm, vi nV]), (vh, cA g 40 VH), (vu, cA g 40 VU)] 0 0 [(3, vi t), (0, .ref vo), (1, vi h), (2, vi u)] 26 [] := by
    intro t hJ26
    obtain ⟨ht0, ht1, ht2, ht3⟩ := hJ26
    refine g_iload_n C 0 dX0_gatherOne_26 rfl ?_
    refine g_aload_n C 1 dX0_gatherOne_27 rfl ?_
    refine g_getf C k_X0 3 f_X0_21 0 rfl rfl (by decide) rfl rfl dX0_gatherOne_28 ?_
    refine g_icmp_ge C 55 dX0_gatherOne_31 (by decide) (by omega) (by omega) (fun c31 => ?_) (fun c31 => ?_)
    · have ht4 : t = nV ∨ h < VH t := by omega
      refine g_aload_n C 1 dX0_gatherOne_55 rfl ?_
      refine g_getf C k_X0 3 f_X0_21 0 rfl rfl (by decide) rfl rfl dX0_gatherOne_56 ?_
      refine g_istore C [(4, vi nV), (3, vi t), (0, .ref vo), (1, vi h), (2, vi u)] dX0_gatherOne_59 (by decide) rfl ?_
      have L61 : ∀ (f : Nat) (z : Int) (cH : Int → Int) (cU : Int → Int), (t ≤ z ∧ z ≤ nV ∧ cH = shf VH z nV ∧ cU = shf VU z nV) → (z - t).toNat < f → gW g x [(vo, cO 0 [.ref vh, .ref vu, .ref vm, vi nV]), (vh, cA g 40 cH), (vu, cA g 40 cU)] 0 0 [(4, vi z), (3, vi t), (0, .ref vo), (1, vi h), (2, vi u)] 61 [] := by
        intro f
        induction f with
        | zero => intro z cH cU hI61 hf; exact absurd hf (Nat.not_lt_zero _)
        | succ f ih61 =>
          intro z cH cU hI61 hf61
          obtain ⟨hz0, hz1, hH, hU⟩ := hI61
          refine g_iload C 0 dX0_gatherOne_61 rfl ?_
          refine g_iload_n C 1 dX0_gatherOne_63 rfl ?_
          refine g_icmp_le C 105 dX0_gatherOne_64 (by decide) (by omega) (by omega) (fun c64 => ?_) (fun c64 => ?_)
          · obtain rfl : t = z := by omega
            subst hH hU
            refine g_aload_n C 2 dX0_gatherOne_105 rfl ?_
            refine g_getf C k_X0 0 f_X0_9 0 rfl rfl (by decide) rfl rfl dX0_gatherOne_106 ?_
            refine g_iload_n C 1 dX0_gatherOne_109 rfl ?_
            refine g_iload_n C 3 dX0_gatherOne_110 rfl ?_
            refine g_iast C 1 rfl (by omega) [(vo, cO 0 [.ref vh, .ref vu, .ref vm, vi nV]), (vh, cA g 40 (up (shf VH t nV) t h)), (vu, cA g 40 (shf VU t nV))] rfl dX0_gatherOne_111 ?_
            refine g_aload_n C 2 dX0_gatherOne_112 rfl ?_
            refine g_getf C k_X0 1 f_X0_15 0 rfl rfl (by decide) rfl rfl dX0_gatherOne_113 ?_
            refine g_iload_n C 1 dX0_gatherOne_116 rfl ?_
            refine g_iload_n C 4 dX0_gatherOne_117 rfl ?_
            refine g_iast C 2 rfl (by omega) [(vo, cO 0 [.ref vh, .ref vu, .ref vm, vi nV]), (vh, cA g 40 (up (shf VH t nV) t h)), (vu, cA g 40 (up (shf VU t nV) t u))] rfl dX0_gatherOne_118 ?_
            refine g_aload_n C 2 dX0_gatherOne_119 rfl ?_
            refine g_dup C dX0_gatherOne_120 rfl ?_
            refine g_getf C k_X0 3 f_X0_21 0 rfl rfl (by decide) rfl rfl dX0_gatherOne_121 ?_
            refine g_iconst C dX0_gatherOne_124 ?_
            refine g_iadd C dX0_gatherOne_125 ?_
            refine g_putf C k_X0 tyX0_ok nmX0 3 f_X0_21 0 rfl rfl (by decide) rfl rfl rfl rfl (Nat.le_of_ble_eq_true rfl) [(vo, cO 0 [.ref vh, .ref vu, .ref vm, vi (nV + 1)]), (vh, cA g 40 (up (shf VH t nV) t h)), (vu, cA g 40 (up (shf VU t nV) t u))] rfl dX0_gatherOne_126 ?_
            exact g_vret C hR dX0_gatherOne_129 ⟨(up (shf VH t nV) t h), (up (shf VU t nV) t u), (nV + 1), rfl, rfl, ⟨t, ht0, ht1, ht2, Or.inr ⟨ht4, rfl, rfl, rfl⟩⟩⟩ rfl
          refine g_aload_n C 2 dX0_gatherOne_67 rfl ?_
          refine g_getf C k_X0 0 f_X0_9 0 rfl rfl (by decide) rfl rfl dX0_gatherOne_68 ?_
          refine g_iload C 0 dX0_gatherOne_71 rfl ?_
          refine g_aload_n C 2 dX0_gatherOne_73 rfl ?_
          refine g_getf C k_X0 0 f_X0_9 0 rfl rfl (by decide) rfl rfl dX0_gatherOne_74 ?_
          refine g_iload C 0 dX0_gatherOne_77 rfl ?_
          refine g_iconst C dX0_gatherOne_79 ?_
          refine g_isub C dX0_gatherOne_80 ?_
          refine g_iald C 1 rfl (by omega) dX0_gatherOne_81 ?_
          refine g_val (w := VH (z - 1)) (by rw [hH]; exact shf_at) ?_
          refine g_iast C 1 rfl (by omega) [(vo, cO 0 [.ref vh, .ref vu, .ref vm, vi nV]), (vh, cA g 40 (up cH z (VH (z - 1)))), (vu, cA g 40 cU)] rfl dX0_gatherOne_82 ?_
          refine g_aload_n C 2 dX0_gatherOne_83 rfl ?_
          refine g_getf C k_X0 1 f_X0_15 0 rfl rfl (by decide) rfl rfl dX0_gatherOne_84 ?_
          refine g_iload C 0 dX0_gatherOne_87 rfl ?_
          refine g_aload_n C 2 dX0_gatherOne_89 rfl ?_
          refine g_getf C k_X0 1 f_X0_15 0 rfl rfl (by decide) rfl rfl dX0_gatherOne_90 ?_
          refine g_iload C 0 dX0_gatherOne_93 rfl ?_
          refine g_iconst C dX0_gatherOne_95 ?_
          refine g_isub C dX0_gatherOne_96 ?_
          refine g_iald C 2 rfl (by omega) dX0_gatherOne_97 ?_
          refine g_val (w := VU (z - 1)) (by rw [hU]; exact shf_at) ?_
          refine g_iast C 2 rfl (by omega) [(vo, cO 0 [.ref vh, .ref vu, .ref vm, vi nV]), (vh, cA g 40 (up cH z (VH (z - 1)))), (vu, cA g 40 (up cU z (VU (z - 1))))] rfl dX0_gatherOne_98 ?_
          refine g_iinc C 0 [(4, vi (z + (-1))), (3, vi t), (0, .ref vo), (1, vi h), (2, vi u)] dX0_gatherOne_99 rfl (by decide) rfl ?_
          refine g_goto C 61 dX0_gatherOne_102 (by decide) ?_
          exact ih61 (z + (-1)) (up cH z (VH (z - 1))) (up cU z (VU (z - 1))) ⟨by omega, by omega, by rw [hH]; exact shf_s hz1, by rw [hU]; exact shf_s hz1⟩ (by omega)
      exact L61 _ nV VH VU ⟨by omega, by omega, (shf_0 _ _).symm, (shf_0 _ _).symm⟩ (Nat.lt_succ_self _)
    refine g_aload_n C 1 dX0_gatherOne_34 rfl ?_
    refine g_getf C k_X0 0 f_X0_9 0 rfl rfl (by decide) rfl rfl dX0_gatherOne_35 ?_
    refine g_iload_n C 0 dX0_gatherOne_38 rfl ?_
    refine g_iald C 1 rfl (by omega) dX0_gatherOne_39 ?_
    have r1_39 := hVH t
    refine g_iload_n C 2 dX0_gatherOne_40 rfl ?_
    refine g_icmp_ne C 55 dX0_gatherOne_41 (by decide) (by omega) (by omega) (fun c41 => ?_) (fun c41 => ?_)
    · have ht4 : t = nV ∨ h < VH t := by omega
      refine g_aload_n C 1 dX0_gatherOne_55 rfl ?_
      refine g_getf C k_X0 3 f_X0_21 0 rfl rfl (by decide) rfl rfl dX0_gatherOne_56 ?_
      refine g_istore C [(4, vi nV), (3, vi t), (0, .ref vo), (1, vi h), (2, vi u)] dX0_gatherOne_59 (by decide) rfl ?_
      have L61 : ∀ (f : Nat) (z : Int) (cH : Int → Int) (cU : Int → Int), (t ≤ z ∧ z ≤ nV ∧ cH = shf VH z nV ∧ cU = shf VU z nV) → (z - t).toNat < f → gW g x [(vo, cO 0 [.ref vh, .ref vu, .ref vm, vi nV]), (vh, cA g 40 cH), (vu, cA g 40 cU)] 0 0 [(4, vi z), (3, vi t), (0, .ref vo), (1, vi h), (2, vi u)] 61 [] := by
        intro f
        induction f with
        | zero => intro z cH cU hI61 hf; exact absurd hf (Nat.not_lt_zero _)
        | succ f ih61 =>
          intro z cH cU hI61 hf61
          obtain ⟨hz0, hz1, hH, hU⟩ := hI61
          refine g_iload C 0 dX0_gatherOne_61 rfl ?_
          refine g_iload_n C 1 dX0_gatherOne_63 rfl ?_
          refine g_icmp_le C 105 dX0_gatherOne_64 (by decide) (by omega) (by omega) (fun c64 => ?_) (fun c64 => ?_)
          · obtain rfl : t = z := by omega
            subst hH hU
            refine g_aload_n C 2 dX0_gatherOne_105 rfl ?_
            refine g_getf C k_X0 0 f_X0_9 0 rfl rfl (by decide) rfl rfl dX0_gatherOne_106 ?_
            refine g_iload_n C 1 dX0_gatherOne_109 rfl ?_
            refine g_iload_n C 3 dX0_gatherOne_110 rfl ?_
            refine g_iast C 1 rfl (by omega) [(vo, cO 0 [.ref vh, .ref vu, .ref vm, vi nV]), (vh, cA g 40 (up (shf VH t nV) t h)), (vu, cA g 40 (shf VU t nV))] rfl dX0_gatherOne_111 ?_
            refine g_aload_n C 2 dX0_gatherOne_112 rfl ?_
            refine g_getf C k_X0 1 f_X0_15 0 rfl rfl (by decide) rfl rfl dX0_gatherOne_113 ?_
            refine g_iload_n C 1 dX0_gatherOne_116 rfl ?_
            refine g_iload_n C 4 dX0_gatherOne_117 rfl ?_
            refine g_iast C 2 rfl (by omega) [(vo, cO 0 [.ref vh, .ref vu, .ref vm, vi nV]), (vh, cA g 40 (up (shf VH t nV) t h)), (vu, cA g 40 (up (shf VU t nV) t u))] rfl dX0_gatherOne_118 ?_
            refine g_aload_n C 2 dX0_gatherOne_119 rfl ?_
            refine g_dup C dX0_gatherOne_120 rfl ?_
            refine g_getf C k_X0 3 f_X0_21 0 rfl rfl (by decide) rfl rfl dX0_gatherOne_121 ?_
            refine g_iconst C dX0_gatherOne_124 ?_
            refine g_iadd C dX0_gatherOne_125 ?_
            refine g_putf C k_X0 tyX0_ok nmX0 3 f_X0_21 0 rfl rfl (by decide) rfl rfl rfl rfl (Nat.le_of_ble_eq_true rfl) [(vo, cO 0 [.ref vh, .ref vu, .ref vm, vi (nV + 1)]), (vh, cA g 40 (up (shf VH t nV) t h)), (vu, cA g 40 (up (shf VU t nV) t u))] rfl dX0_gatherOne_126 ?_
            exact g_vret C hR dX0_gatherOne_129 ⟨(up (shf VH t nV) t h), (up (shf VU t nV) t u), (nV + 1), rfl, rfl, ⟨t, ht0, ht1, ht2, Or.inr ⟨ht4, rfl, rfl, rfl⟩⟩⟩ rfl
          refine g_aload_n C 2 dX0_gatherOne_67 rfl ?_
          refine g_getf C k_X0 0 f_X0_9 0 rfl rfl (by decide) rfl rfl dX0_gatherOne_68 ?_
          refine g_iload C 0 dX0_gatherOne_71 rfl ?_
          refine g_aload_n C 2 dX0_gatherOne_73 rfl ?_
          refine g_getf C k_X0 0 f_X0_9 0 rfl rfl (by decide) rfl rfl dX0_gatherOne_74 ?_
          refine g_iload C 0 dX0_gatherOne_77 rfl ?_
          refine g_iconst C dX0_gatherOne_79 ?_
          refine g_isub C dX0_gatherOne_80 ?_
          refine g_iald C 1 rfl (by omega) dX0_gatherOne_81 ?_
          refine g_val (w := VH (z - 1)) (by rw [hH]; exact shf_at) ?_
          refine g_iast C 1 rfl (by omega) [(vo, cO 0 [.ref vh, .ref vu, .ref vm, vi nV]), (vh, cA g 40 (up cH z (VH (z - 1)))), (vu, cA g 40 cU)] rfl dX0_gatherOne_82 ?_
          refine g_aload_n C 2 dX0_gatherOne_83 rfl ?_
          refine g_getf C k_X0 1 f_X0_15 0 rfl rfl (by decide) rfl rfl dX0_gatherOne_84 ?_
          refine g_iload C 0 dX0_gatherOne_87 rfl ?_
          refine g_aload_n C 2 dX0_gatherOne_89 rfl ?_
          refine g_getf C k_X0 1 f_X0_15 0 rfl rfl (by decide) rfl rfl dX0_gatherOne_90 ?_
          refine g_iload C 0 dX0_gatherOne_93 rfl ?_
          refine g_iconst C dX0_gatherOne_95 ?_
          refine g_isub C dX0_gatherOne_96 ?_
          refine g_iald C 2 rfl (by omega) dX0_gatherOne_97 ?_
          refine g_val (w := VU (z - 1)) (by rw [hU]; exact shf_at) ?_
          refine g_iast C 2 rfl (by omega) [(vo, cO 0 [.ref vh, .ref vu, .ref vm, vi nV]), (vh, cA g 40 (up cH z (VH (z - 1)))), (vu, cA g 40 (up cU z (VU (z - 1))))] rfl dX0_gatherOne_98 ?_
          refine g_iinc C 0 [(4, vi (z + (-1))), (3, vi t), (0, .ref vo), (1, vi h), (2, vi u)] dX0_gatherOne_99 rfl (by decide) rfl ?_
          refine g_goto C 61 dX0_gatherOne_102 (by decide) ?_
          exact ih61 (z + (-1)) (up cH z (VH (z - 1))) (up cU z (VU (z - 1))) ⟨by omega, by omega, by rw [hH]; exact shf_s hz1, by rw [hU]; exact shf_s hz1⟩ (by omega)
      exact L61 _ nV VH VU ⟨by omega, by omega, (shf_0 _ _).symm, (shf_0 _ _).symm⟩ (Nat.lt_succ_self _)
    refine g_aload_n C 1 dX0_gatherOne_44 rfl ?_
    refine g_getf C k_X0 1 f_X0_15 0 rfl rfl (by decide) rfl rfl dX0_gatherOne_45 ?_
    refine g_iload_n C 0 dX0_gatherOne_48 rfl ?_
    refine g_dup2 C dX0_gatherOne_49 rfl rfl ?_
    refine g_iald C 2 rfl (by omega) dX0_gatherOne_50 ?_
    refine g_iload_n C 3 dX0_gatherOne_51 rfl ?_
    refine g_iadd C dX0_gatherOne_52 ?_
    refine g_iast C 2 rfl (by omega) [(vo, cO 0 [.ref vh, .ref vu, .ref vm, vi nV]), (vh, cA g 40 VH), (vu, cA g 40 (up VU t ((VU t) + u)))] rfl dX0_gatherOne_53 ?_
    exact g_vret C hR dX0_gatherOne_54 ⟨VH, (up VU t (VU t + u)), nV, rfl, rfl, ⟨t, ht0, by omega, ht2, Or.inl ⟨by omega, by omega, rfl, rfl, rfl⟩⟩⟩ rfl
  have L2 : ∀ (f : Nat) (t : Int), (0 ≤ t ∧ t ≤ nV ∧ ∀ j, 0 ≤ j → j < t → VH j < h) → (nV - t).toNat < f → gW g x [(vo, cO 0 [.ref vh, .ref vu, .ref vm, vi nV]), (vh, cA g 40 VH), (vu, cA g 40 VU)] 0 0 [(3, vi t), (0, .ref vo), (1, vi h), (2, vi u)] 2 [] := by
    intro f
    induction f with
    | zero => intro t hI2 hf; exact absurd hf (Nat.not_lt_zero _)
    | succ f ih2 =>
      intro t hI2 hf2
      refine g_iload_n C 0 dX0_gatherOne_2 rfl ?_
      refine g_aload_n C 1 dX0_gatherOne_3 rfl ?_
      refine g_getf C k_X0 3 f_X0_21 0 rfl rfl (by decide) rfl rfl dX0_gatherOne_4 ?_
      refine g_icmp_ge C 26 dX0_gatherOne_7 (by decide) (by omega) (by omega) (fun c7 => ?_) (fun c7 => ?_)
      · exact J26 t ⟨by omega, by omega, hI2.2.2, by omega⟩
      refine g_aload_n C 1 dX0_gatherOne_10 rfl ?_
      refine g_getf C k_X0 0 f_X0_9 0 rfl rfl (by decide) rfl rfl dX0_gatherOne_11 ?_
      refine g_iload_n C 0 dX0_gatherOne_14 rfl ?_
      refine g_iald C 1 rfl (by omega) dX0_gatherOne_15 ?_
      have r2_15 := hVH t
      refine g_iload_n C 2 dX0_gatherOne_16 rfl ?_
      refine g_icmp_ge C 26 dX0_gatherOne_17 (by decide) (by omega) (by omega) (fun c17 => ?_) (fun c17 => ?_)
      · exact J26 t ⟨by omega, by omega, hI2.2.2, by omega⟩
      refine g_iinc C 0 [(3, vi (t + 1)), (0, .ref vo), (1, vi h), (2, vi u)] dX0_gatherOne_20 rfl (by decide) rfl ?_
      refine g_goto C 2 dX0_gatherOne_23 (by decide) ?_
      exact ih2 (t + 1) ⟨by omega, by omega, fun j h0 h1 => by
            by_cases e : j = t
            · rw [e]; omega
            · exact hI2.2.2 j h0 (by omega)⟩ (by omega)
  exact L2 _ 0 ⟨by omega, by omega, fun j h0 h1 => by omega⟩ (Nat.lt_succ_self _)

set_option maxHeartbeats 4000000 in
set_option maxRecDepth 100000 in
theorem c_X0_gather (l : Launch) (g : gD) (vo : Nat) (vh : Nat) (vu : Nat) (vm : Nat) (VH : Int → Int) (VU : Int → Int) (nV : Int) (lo : Nat) (lp : Nat) (lh : Nat) (lu : Nat) (LP : Int → Int) (LH : Int → Int) (LU : Int → Int) (nL : Int) (p : Int) (hVH : ∀ k, 0 ≤ VH k ∧ VH k ≤ 2199) (hLP : ∀ k, 0 ≤ LP k ∧ LP k ≤ 2) (hLH : ∀ k, 0 ≤ LH k ∧ LH k ≤ 2199) (hLU : ∀ k, 0 ≤ LU k ∧ LU k ≤ 99999) (hnL : 0 ≤ nL ∧ nL ≤ 40) (hp : -2147483648 ≤ p ∧ p < 2147483648) : gMet l g yX0_gather cX0_gather 4 none 1 0 0 24 [.ref vo, .ref lo, vi p] [(vo, cO 0 [.ref vh, .ref vu, .ref vm, vi nV]), (vh, cA g 40 VH), (vu, cA g 40 VU), (lo, cO 2 [.ref lp, .ref lh, .ref lu, vi nL]), (lp, cA g 40 LP), (lh, cA g 40 LH), (lu, cA g 40 LU)] (fun v9 w9 => ∃ (H : Int → Int) (U : Int → Int) (n : Int), v9 = none ∧ w9 = [(vo, cO 0 [.ref vh, .ref vu, .ref vm, vi n]), (vh, cA g 40 H), (vu, cA g 40 U), (lo, cO 2 [.ref lp, .ref lh, .ref lu, vi nL]), (lp, cA g 40 LP), (lh, cA g 40 LH), (lu, cA g 40 LU)] ∧ (gvd LP LH LU p H U n nL) ∧ (∀ k, 0 ≤ H k ∧ H k ≤ 2199)) := by
  refine gMet.of y_X0_gather.2.2.2.2.1 (Nat.le_of_ble_eq_true rfl) ?_
  intro x hlx C hR hnm
  subst hlx
  have C : gC g x RX0 cX0_gather 4 1 0 0 24 := C
  show gW g x [(vo, cO 0 [.ref vh, .ref vu, .ref vm, vi nV]), (vh, cA g 40 VH), (vu, cA g 40 VU), (lo, cO 2 [.ref lp, .ref lh, .ref lu, vi nL]), (lp, cA g 40 LP), (lh, cA g 40 LH), (lu, cA g 40 LU)] 0 0 [(0, .ref vo), (1, .ref lo), (2, vi p)] 0 []
  refine g_aload_n C 0 dX0_gather_0 rfl ?_
  refine g_iconst C dX0_gather_1 ?_
  refine g_putf C k_X0 tyX0_ok nmX0 3 f_X0_21 0 rfl rfl (by decide) rfl rfl rfl rfl (Nat.le_of_ble_eq_true rfl) [(vo, cO 0 [.ref vh, .ref vu, .ref vm, vi 0]), (vh, cA g 40 VH), (vu, cA g 40 VU), (lo, cO 2 [.ref lp, .ref lh, .ref lu, vi nL]), (lp, cA g 40 LP), (lh, cA g 40 LH), (lu, cA g 40 LU)] rfl dX0_gather_2 ?_
  refine g_iconst C dX0_gather_5 ?_
  refine g_istore_n C [(3, vi 0), (0, .ref vo), (1, .ref lo), (2, vi p)] dX0_gather_6 (by decide) rfl ?_
  have L7 : ∀ (f : Nat) (i : Int) (n : Int) (cH : Int → Int) (cU : Int → Int), (0 ≤ i ∧ i ≤ nL ∧ gvd LP LH LU p cH cU n i ∧ ∀ k, 0 ≤ cH k ∧ cH k ≤ 2199) → (nL - i).toNat < f → gW g x [(vo, cO 0 [.ref vh, .ref vu, .ref vm, vi n]), (vh, cA g 40 cH), (vu, cA g 40 cU), (lo, cO 2 [.ref lp, .ref lh, .ref lu, vi nL]), (lp, cA g 40 LP), (lh, cA g 40 LH), (lu, cA g 40 LU)] 0 0 [(3, vi i), (0, .ref vo), (1, .ref lo), (2, vi p)] 7 [] := by
    intro f
    induction f with
    | zero => intro i n cH cU hI7 hf; exact absurd hf (Nat.not_lt_zero _)
    | succ f ih7 =>
      intro i n cH cU hI7 hf7
      obtain ⟨hi0, hi1, hg, hHr⟩ := hI7
      have hn9 := hg.1
      refine g_iload_n C 0 dX0_gather_7 rfl ?_
      refine g_aload_n C 2 dX0_gather_8 rfl ?_
      refine g_getfN C k_X2 3 f_X0_25 3 rfl rfl (by decide) rfl rfl dX0_gather_9 ?_
      refine g_icmp_ge C 47 dX0_gather_12 (by decide) (by omega) (by omega) (fun c12 => ?_) (fun c12 => ?_)
      · exact g_vret C hR dX0_gather_47 ⟨cH, cU, n, rfl, rfl, (by rw [← show i = nL by omega]; exact hg), hHr⟩ rfl
      refine g_aload_n C 2 dX0_gather_15 rfl ?_
      refine g_getfN C k_X2 0 f_X0_28 3 rfl rfl (by decide) rfl rfl dX0_gather_16 ?_
      refine g_iload_n C 0 dX0_gather_19 rfl ?_
      refine g_iald C 4 rfl (by omega) dX0_gather_20 ?_
      have r1_20 := hLP i
      refine g_iload_n C 3 dX0_gather_21 rfl ?_
      refine g_icmp_ne C 41 dX0_gather_22 (by decide) (by omega) (by omega) (fun c22 => ?_) (fun c22 => ?_)
      · refine g_iinc C 0 [(3, vi (i + 1)), (0, .ref vo), (1, .ref lo), (2, vi p)] dX0_gather_41 rfl (by decide) rfl ?_
        refine g_goto C 7 dX0_gather_44 (by decide) ?_
        exact ih7 (i + 1) n cH cU ⟨by omega, by omega, by first | exact gvd_skip hg hi0 (by omega) | exact gvd_step hg hi0 (by omega) hins_38, by first | exact hHr | exact ins9_r hins_38 hHr (hLH i)⟩ (by omega)
      refine g_aload_n C 1 dX0_gather_25 rfl ?_
      refine g_aload_n C 2 dX0_gather_26 rfl ?_
      refine g_getfN C k_X2 1 f_X0_31 3 rfl rfl (by decide) rfl rfl dX0_gather_27 ?_
      refine g_iload_n C 0 dX0_gather_30 rfl ?_
      refine g_iald C 5 rfl (by omega) dX0_gather_31 ?_
      have r2_31 := hLH i
      refine g_aload_n C 2 dX0_gather_32 rfl ?_
      refine g_getfN C k_X2 2 f_X0_32 3 rfl rfl (by decide) rfl rfl dX0_gather_33 ?_
      refine g_iload_n C 0 dX0_gather_36 rfl ?_
      refine g_iald C 6 rfl (by omega) dX0_gather_37 ?_
      have r3_37 := hLU i
      refine g_callV C [vi (LH i), vi (LU i)] [] (c_X0_gatherOne x.1.2.1 g vo vh vu vm cH cU n (LH i) (LU i) hHr (by omega) (hLH i)) y_X0_gatherOne l_X0_33 [0, 1, 2] rfl (by decide) 0 rfl rfl rfl (Nat.le_of_ble_eq_true rfl) rfl (by decide) dX0_gather_38 (fun v9 w9 hp9 => ?_)
      obtain ⟨H38, U38, n38, rfl, rfl, hins_38⟩ := hp9
      simp only [putAll, List.set_cons_succ, List.set_cons_zero, List.cons_append, List.nil_append, List.append_nil, Option.toList]
      show gW g x [(vo, cO 0 [.ref vh, .ref vu, .ref vm, vi n38]), (vh, cA g 40 H38), (vu, cA g 40 U38), (lo, cO 2 [.ref lp, .ref lh, .ref lu, vi nL]), (lp, cA g 40 LP), (lh, cA g 40 LH), (lu, cA g 40 LU)] 0 0 [(3, vi i), (0, .ref vo), (1, .ref lo), (2, vi p)] 41 []
      refine g_iinc C 0 [(3, vi (i + 1)), (0, .ref vo), (1, .ref lo), (2, vi p)] dX0_gather_41 rfl (by decide) rfl ?_
      refine g_goto C 7 dX0_gather_44 (by decide) ?_
      exact ih7 (i + 1) n38 H38 U38 ⟨by omega, by omega, by first | exact gvd_skip hg hi0 (by omega) | exact gvd_step hg hi0 (by omega) hins_38, by first | exact hHr | exact ins9_r hins_38 hHr (hLH i)⟩ (by omega)
  exact L7 _ 0 0 VH VU ⟨by omega, by omega, gvd_0 LP LH LU p VH VU, hVH⟩ (Nat.lt_succ_self _)

