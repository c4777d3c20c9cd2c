theorem hic_s {OP OF OT : Int → Int} {p a b n : Int} (hn : 0 ≤ n) : hic OP OF OT p a b (n + 1) ↔ hic OP OF OT p a b n ∨ (OP n = p ∧ OF n ≤ b ∧ a ≤ OT n) := by
  constructor
  · rintro ⟨k, h0, h1, h2⟩
    by_cases e : k = n
    · subst e; exact Or.inr h2
    · exact Or.inl ⟨k, h0, by omega, h2⟩
  · rintro (⟨k, h0, h1, h2⟩ | h)
    · exact ⟨k, h0, by omega, h2⟩
    · exact ⟨n, hn, by omega, h⟩
/-- the model's 'can' after the first i windows -/
def cn9 (ca : Int) (OP OF OT : Int → Int) (p a b nO i : Int) : Prop := (ca = 0 ∧ (8 ≤ nO ∨ hic OP OF OT p a b i)) ∨ (ca = 1 ∧ nO < 8 ∧ ¬ hic OP OF OT p a b i)
theorem cn9_s {ca : Int} {OP OF OT : Int → Int} {p a b nO i w : Int} (hi : 0 ≤ i) (h : cn9 ca OP OF OT p a b nO i) (hw : w = if ca = 1 ∧ ¬ (OP i = p ∧ OF i ≤ b ∧ a ≤ OT i) then 1 else 0) : cn9 w OP OF OT p a b nO (i + 1) := by
  rcases h with ⟨rfl, h⟩ | ⟨rfl, h, h2⟩
  · rw [if_neg (by omega)] at hw
    exact Or.inl ⟨hw, h.imp id (fun q => (hic_s hi).mpr (Or.inl q))⟩
  · by_cases q : OP i = p ∧ OF i ≤ b ∧ a ≤ OT i
    · rw [if_neg (fun z => z.2 q)] at hw
      exact Or.inl ⟨hw, Or.inr ((hic_s hi).mpr (Or.inr q))⟩
    · rw [if_pos ⟨rfl, q⟩] at hw
      exact Or.inr ⟨hw, h, fun z => ((hic_s hi).mp z).elim h2 q⟩
theorem cn9_t {ca : Int} {OP OF OT : Int → Int} {p a b nO i : Int} (h : cn9 ca OP OF OT p a b nO i) (hc : ca ≠ 0) : nO < 8 ∧ ¬ hic OP OF OT p a b i := by
  rcases h with ⟨e, _⟩ | ⟨_, h⟩
  · exact absurd e hc
  · exact h
theorem cn9_f {ca : Int} {OP OF OT : Int → Int} {p a b nO i : Int} (hO : nO ≤ 8) (h : cn9 ca OP OF OT p a b nO i) (hc : ca = 0) : nO = 8 ∨ hic OP OF OT p a b i := by
  rcases h with ⟨_, q | q⟩ | ⟨e, _⟩
  · exact Or.inl (by omega)
  · exact Or.inr q
  · omega
theorem cn9_r {ca : Int} {OP OF OT : Int → Int} {p a b nO i : Int} (h : cn9 ca OP OF OT p a b nO i) : 0 ≤ ca ∧ ca ≤ 1 := by
  rcases h with ⟨e, _⟩ | ⟨e, _⟩ <;> omega
theorem cn9_0 {ca : Int} {OP OF OT : Int → Int} {p a b nO : Int} (h : ca = if nO < 8 then 1 else 0) : cn9 ca OP OF OT p a b nO 0 := by
  by_cases q : nO < 8
  · rw [if_pos q] at h; exact Or.inr ⟨h, q, fun ⟨k, h0, h1, _⟩ => by omega⟩
  · rw [if_neg q] at h; exact Or.inl ⟨h, Or.inl (by omega)⟩

set_option maxHeartbeats 4000000 in
set_option maxRecDepth 100000 in
theorem c_X10_choose (l : Launch) (g : gD) (ko : Nat) (A : Nat → Nat) (th : Int) (hr : Int) (nL : Int) (nO : Int) (Q : Int) (nY : Int) (nE : Int) (nR : Int) (nB : Int) (OP : Int → Int) (OF : Int → Int) (OT : Int → Int) (p : Int) (a : Int) (b : Int) (hOP : ∀ k, 0 ≤ OP k ∧ OP k ≤ 2) (hOF : ∀ k, 0 ≤ OF k ∧ OF k ≤ 2199) (hOT : ∀ k, 0 ≤ OT k ∧ OT k ≤ 2199) (hnO : 0 ≤ nO ∧ nO ≤ 8) (hp : -2147483648 ≤ p ∧ p < 2147483648) (ha : -2147483648 ≤ a ∧ a < 2147483648) (hb : -2147483648 ≤ b ∧ b < 2147483648) : gMet l g yX10_choose cX10_choose 7 (some .int) 2 0 0 42 [.ref ko, vi p, vi a, vi b] [(ko, cO 10 (kF th hr nL nO Q nY nE nR nB A)), (A 7, cA g 8 OP), (A 8, cA g 8 OF), (A 9, cA g 8 OT)] (fun v9 w9 => (((0 ≤ p ∧ p ≤ 2 ∧ 0 ≤ a ∧ a ≤ b ∧ b ≤ 2199 ∧ b - a < (if p = 0 then 72 else 168)) ∧ nO < 8 ∧ ¬ hic OP OF OT p a b nO) ∧ v9 = some (vi (nO)) ∧ w9 = [(ko, cO 10 (kF 0 hr nL (nO + 1) Q nY nE nR nB A)), (A 7, cA g 8 (up OP nO p)), (A 8, cA g 8 (up OF nO a)), (A 9, cA g 8 (up OT nO b))]) ∨ ((¬ (0 ≤ p ∧ p ≤ 2 ∧ 0 ≤ a ∧ a ≤ b ∧ b ≤ 2199 ∧ b - a < (if p = 0 then 72 else 168))) ∧ v9 = some (vi 0) ∧ w9 = [(ko, cO 10 (kF 1 hr nL nO Q nY nE nR nB A)), (A 7, cA g 8 OP), (A 8, cA g 8 OF), (A 9, cA g 8 OT)]) ∨ (((0 ≤ p ∧ p ≤ 2 ∧ 0 ≤ a ∧ a ≤ b ∧ b ≤ 2199 ∧ b - a < (if p = 0 then 72 else 168)) ∧ (nO = 8 ∨ hic OP OF OT p a b nO)) ∧ v9 = some (vi 0) ∧ w9 = [(ko, cO 10 (kF 2 hr nL nO Q nY nE nR nB A)), (A 7, cA g 8 OP), (A 8, cA g 8 OF), (A 9, cA g 8 OT)])) := by
  refine gMet.of y_X10_choose.2.2.2.2.1 (Nat.le_of_ble_eq_true rfl) ?_
  intro x hlx C hR hnm
  subst hlx
  have C : gC g x RX10 cX10_choose 7 2 0 0 42 := C
  show gW g x [(ko, cO 10 (kF th hr nL nO Q nY nE nR nB A)), (A 7, cA g 8 OP), (A 8, cA g 8 OF), (A 9, cA g 8 OT)] 0 0 [(0, .ref ko), (1, vi p), (2, vi a), (3, vi b)] 0 []
  have J41 : ∀ (w0 : Int), (w0 = if 0 ≤ p ∧ p ≤ 2 ∧ 0 ≤ a ∧ a ≤ b ∧ b ≤ 2199 ∧ b - a < (if p = 0 then 72 else 168) then 1 else 0) → gW g x [(ko, cO 10 (kF th hr nL nO Q nY nE nR nB A)), (A 7, cA g 8 OP), (A 8, cA g 8 OF), (A 9, cA g 8 OT)] 0 0 [(0, .ref ko), (1, vi p), (2, vi a), (3, vi b)] 41 [vi w0] := by
    intro w0 hJ41
    refine g_istore C [(4, vi w0), (0, .ref ko), (1, vi p), (2, vi a), (3, vi b)] dX10_choose_41 (by decide) rfl ?_
    have J57 : ∀ (c0 : Int), (c0 = if nO < 8 then 1 else 0) → gW g x [(ko, cO 10 (kF th hr nL nO Q nY nE nR nB A)), (A 7, cA g 8 OP), (A 8, cA g 8 OF), (A 9, cA g 8 OT)] 0 0 [(4, vi w0), (0, .ref ko), (1, vi p), (2, vi a), (3, vi b)] 57 [vi c0] := by
      intro c0 hJ57
      refine g_istore C [(5, vi c0), (4, vi w0), (0, .ref ko), (1, vi p), (2, vi a), (3, vi b)] dX10_choose_57 (by decide) rfl ?_
      refine g_iconst C dX10_choose_59 ?_
      refine g_istore C [(6, vi 0), (5, vi c0), (4, vi w0), (0, .ref ko), (1, vi p), (2, vi a), (3, vi b)] dX10_choose_60 (by decide) rfl ?_
      have L62 : ∀ (f : Nat) (ca : Int) (i : Int), (0 ≤ i ∧ i ≤ nO ∧ cn9 ca OP OF OT p a b nO i) → (nO - i).toNat < f → gW g x [(ko, cO 10 (kF th hr nL nO Q nY nE nR nB A)), (A 7, cA g 8 OP), (A 8, cA g 8 OF), (A 9, cA g 8 OT)] 0 0 [(6, vi i), (5, vi ca), (4, vi w0), (0, .ref ko), (1, vi p), (2, vi a), (3, vi b)] 62 [] := by
        intro f
        induction f with
        | zero => intro ca i hI62 hf; exact absurd hf (Nat.not_lt_zero _)
        | succ f ih62 =>
          intro ca i hI62 hf62
          obtain ⟨hi0, hi1, hcn⟩ := hI62
          have hcr := cn9_r hcn
          refine g_iload C 0 dX10_choose_62 rfl ?_
          refine g_aload_n C 3 dX10_choose_64 rfl ?_
          refine g_getf C k_X10 6 f_X10_163 0 rfl rfl (by decide) rfl rfl dX10_choose_65 ?_
          refine g_icmp_ge C 122 dX10_choose_68 (by decide) (by omega) (by omega) (fun c68 => ?_) (fun c68 => ?_)
          · have hcn := (show i = nO by omega) ▸ hcn
            refine g_aload_n C 3 dX10_choose_122 rfl ?_
            have J142 : ∀ (cd : Int), ((cd = 0 ∧ (0 ≤ p ∧ p ≤ 2 ∧ 0 ≤ a ∧ a ≤ b ∧ b ≤ 2199 ∧ b - a < (if p = 0 then 72 else 168)) ∧ nO < 8 ∧ ¬ hic OP OF OT p a b nO) ∨ (cd = 1 ∧ ¬ (0 ≤ p ∧ p ≤ 2 ∧ 0 ≤ a ∧ a ≤ b ∧ b ≤ 2199 ∧ b - a < (if p = 0 then 72 else 168))) ∨ (cd = 2 ∧ (0 ≤ p ∧ p ≤ 2 ∧ 0 ≤ a ∧ a ≤ b ∧ b ≤ 2199 ∧ b - a < (if p = 0 then 72 else 168)) ∧ (nO = 8 ∨ hic OP OF OT p a b nO))) → gW g x [(ko, cO 10 (kF th hr nL nO Q nY nE nR nB A)), (A 7, cA g 8 OP), (A 8, cA g 8 OF), (A 9, cA g 8 OT)] 0 0 [(6, vi i), (5, vi ca), (4, vi w0), (0, .ref ko), (1, vi p), (2, vi a), (3, vi b)] 142 [vi cd, .ref ko] := by
              intro cd hJ142
              refine g_callV C [vi cd] [] (c_X10_goesWell x.1.2.1 g ko A th hr nL nO Q nY nE nR nB cd (by omega)) y_X10_goesWell l_X10_156 [0] rfl (by decide) 0 rfl rfl rfl (Nat.le_of_ble_eq_true rfl) rfl (by decide) dX10_choose_142 (fun v9 w9 hp9 => ?_)
              obtain ⟨rfl, rfl⟩ := hp9
              simp only [putAll, List.set_cons_succ, List.set_cons_zero, List.cons_append, List.nil_append, List.append_nil, Option.toList]
              show gW g x [(ko, cO 10 (kF cd hr nL nO Q nY nE nR nB A)), (A 7, cA g 8 OP), (A 8, cA g 8 OF), (A 9, cA g 8 OT)] 0 0 [(6, vi i), (5, vi ca), (4, vi w0), (0, .ref ko), (1, vi p), (2, vi a), (3, vi b)] 145 [vi (if cd = 0 then 1 else 0)]
              refine g_if_ne C 150 dX10_choose_145 (by decide) (by omega) (fun c145 => ?_) (fun c145 => ?_)
              · obtain ⟨rfl, hok⟩ : cd = 0 ∧ ((0 ≤ p ∧ p ≤ 2 ∧ 0 ≤ a ∧ a ≤ b ∧ b ≤ 2199 ∧ b - a < (if p = 0 then 72 else 168)) ∧ nO < 8 ∧ ¬ hic OP OF OT p a b nO) := by
                  rcases hJ142 with ⟨e9, h9⟩ | ⟨e9, h9⟩ | ⟨e9, h9⟩
                  · exact ⟨e9, h9⟩
                  · exfalso; omega
                  · exfalso; omega
                refine g_aload_n C 3 dX10_choose_150 rfl ?_
                refine g_getf C k_X10 7 f_X10_19 0 rfl rfl (by decide) rfl rfl dX10_choose_151 ?_
                refine g_aload_n C 3 dX10_choose_154 rfl ?_
                refine g_getf C k_X10 6 f_X10_163 0 rfl rfl (by decide) rfl rfl dX10_choose_155 ?_
                refine g_iload_n C 4 dX10_choose_158 rfl ?_
                refine g_iast C 1 rfl (by omega) [(ko, cO 10 (kF 0 hr nL nO Q nY nE nR nB A)), (A 7, cA g 8 (up OP nO p)), (A 8, cA g 8 OF), (A 9, cA g 8 OT)] rfl dX10_choose_159 ?_
                refine g_aload_n C 3 dX10_choose_160 rfl ?_
                refine g_getf C k_X10 8 f_X10_22 0 rfl rfl (by decide) rfl rfl dX10_choose_161 ?_
                refine g_aload_n C 3 dX10_choose_164 rfl ?_
                refine g_getf C k_X10 6 f_X10_163 0 rfl rfl (by decide) rfl rfl dX10_choose_165 ?_
                refine g_iload_n C 5 dX10_choose_168 rfl ?_
                refine g_iast C 2 rfl (by omega) [(ko, cO 10 (kF 0 hr nL nO Q nY nE nR nB A)), (A 7, cA g 8 (up OP nO p)), (A 8, cA g 8 (up OF nO a)), (A 9, cA g 8 OT)] rfl dX10_choose_169 ?_
                refine g_aload_n C 3 dX10_choose_170 rfl ?_
                refine g_getf C k_X10 9 f_X10_25 0 rfl rfl (by decide) rfl rfl dX10_choose_171 ?_
                refine g_aload_n C 3 dX10_choose_174 rfl ?_
                refine g_getf C k_X10 6 f_X10_163 0 rfl rfl (by decide) rfl rfl dX10_choose_175 ?_
                refine g_iload_n C 6 dX10_choose_178 rfl ?_
                refine g_iast C 3 rfl (by omega) [(ko, cO 10 (kF 0 hr nL nO Q nY nE nR nB A)), (A 7, cA g 8 (up OP nO p)), (A 8, cA g 8 (up OF nO a)), (A 9, cA g 8 (up OT nO b))] rfl dX10_choose_179 ?_
                refine g_aload_n C 3 dX10_choose_180 rfl ?_
                refine g_dup C dX10_choose_181 rfl ?_
                refine g_getf C k_X10 6 f_X10_163 0 rfl rfl (by decide) rfl rfl dX10_choose_182 ?_
                refine g_iconst C dX10_choose_185 ?_
                refine g_iadd C dX10_choose_186 ?_
                refine g_putf C k_X10 tyX10_ok nmX10 6 f_X10_163 0 rfl rfl (by decide) rfl rfl rfl rfl (Nat.le_of_ble_eq_true rfl) [(ko, cO 10 (kF 0 hr nL (nO + 1) Q nY nE nR nB A)), (A 7, cA g 8 (up OP nO p)), (A 8, cA g 8 (up OF nO a)), (A 9, cA g 8 (up OT nO b))] rfl dX10_choose_187 ?_
                refine g_aload_n C 3 dX10_choose_190 rfl ?_
                refine g_getf C k_X10 6 f_X10_163 0 rfl rfl (by decide) rfl rfl dX10_choose_191 ?_
                refine g_iconst C dX10_choose_194 ?_
                refine g_isub C dX10_choose_195 ?_
                exact g_iret C hR dX10_choose_196 (Or.inl ⟨hok, (by first | rfl | (congr 2; omega)), rfl⟩) rfl
              refine g_iconst C dX10_choose_148 ?_
              rcases hJ142 with ⟨e9, h9⟩ | ⟨e9, h9⟩ | ⟨e9, h9⟩
              · exfalso; omega
              · subst e9; exact g_iret C hR dX10_choose_149 (Or.inr (Or.inl ⟨h9, rfl, rfl⟩)) rfl
              · subst e9; exact g_iret C hR dX10_choose_149 (Or.inr (Or.inr (⟨h9, rfl, rfl⟩))) rfl
            refine g_iload C 2 dX10_choose_123 rfl ?_
            refine g_if_ne C 132 dX10_choose_125 (by decide) (by omega) (fun c125 => ?_) (fun c125 => ?_)
            · refine g_iload C 1 dX10_choose_132 rfl ?_
              refine g_if_eq C 141 dX10_choose_134 (by decide) (by omega) (fun c134 => ?_) (fun c134 => ?_)
              · refine g_iconst C dX10_choose_141 ?_
                exact J142 2 (by first | exact Or.inr (Or.inl ⟨rfl, by omega⟩) | exact Or.inl ⟨rfl, by omega, cn9_t hcn (by omega)⟩ | exact Or.inr (Or.inr ⟨rfl, by omega, cn9_f hnO.2 hcn (by omega)⟩))
              refine g_iconst C dX10_choose_137 ?_
              refine g_goto C 142 dX10_choose_138 (by decide) ?_
              exact J142 0 (by first | exact Or.inr (Or.inl ⟨rfl, by omega⟩) | exact Or.inl ⟨rfl, by omega, cn9_t hcn (by omega)⟩ | exact Or.inr (Or.inr ⟨rfl, by omega, cn9_f hnO.2 hcn (by omega)⟩))
            refine g_iconst C dX10_choose_128 ?_
            refine g_goto C 142 dX10_choose_129 (by decide) ?_
            exact J142 1 (by first | exact Or.inr (Or.inl ⟨rfl, by omega⟩) | exact Or.inl ⟨rfl, by omega, cn9_t hcn (by omega)⟩ | exact Or.inr (Or.inr ⟨rfl, by omega, cn9_f hnO.2 hcn (by omega)⟩))
          have J114 : ∀ (w9 : Int), (w9 = if ca = 1 ∧ ¬ (OP i = p ∧ OF i ≤ b ∧ a ≤ OT i) then 1 else 0) → gW g x [(ko, cO 10 (kF th hr nL nO Q nY nE nR nB A)), (A 7, cA g 8 OP), (A 8, cA g 8 OF), (A 9, cA g 8 OT)] 0 0 [(6, vi i), (5, vi ca), (4, vi w0), (0, .ref ko), (1, vi p), (2, vi a), (3, vi b)] 114 [vi w9] := by
            intro w9 hJ114
            refine g_istore C [(5, vi w9), (6, vi i), (4, vi w0), (0, .ref ko), (1, vi p), (2, vi a), (3, vi b)] dX10_choose_114 (by decide) rfl ?_
            refine g_iinc C 1 [(6, vi (i + 1)), (5, vi w9), (4, vi w0), (0, .ref ko), (1, vi p), (2, vi a), (3, vi b)] dX10_choose_116 rfl (by decide) rfl ?_
            refine g_goto C 62 dX10_choose_119 (by decide) ?_
            exact ih62 w9 (i + 1) ⟨by omega, by omega, cn9_s hi0 hcn hJ114⟩ (by omega)
          refine g_iload C 1 dX10_choose_71 rfl ?_
          refine g_if_eq C 113 dX10_choose_73 (by decide) (by omega) (fun c73 => ?_) (fun c73 => ?_)
          · refine g_iconst C dX10_choose_113 ?_
            exact J114 0 (by omega)
          refine g_aload_n C 3 dX10_choose_76 rfl ?_
          refine g_getf C k_X10 7 f_X10_19 0 rfl rfl (by decide) rfl rfl dX10_choose_77 ?_
          refine g_iload C 0 dX10_choose_80 rfl ?_
          refine g_iald C 1 rfl (by omega) dX10_choose_82 ?_
          have r1_82 := hOP i
          refine g_iload_n C 4 dX10_choose_83 rfl ?_
          refine g_icmp_ne C 109 dX10_choose_84 (by decide) (by omega) (by omega) (fun c84 => ?_) (fun c84 => ?_)
          · refine g_iconst C dX10_choose_109 ?_
            refine g_goto C 114 dX10_choose_110 (by decide) ?_
            exact J114 1 (by omega)
          refine g_iload_n C 6 dX10_choose_87 rfl ?_
          refine g_aload_n C 3 dX10_choose_88 rfl ?_
          refine g_getf C k_X10 8 f_X10_22 0 rfl rfl (by decide) rfl rfl dX10_choose_89 ?_
          refine g_iload C 0 dX10_choose_92 rfl ?_
          refine g_iald C 2 rfl (by omega) dX10_choose_94 ?_
          have r2_94 := hOF i
          refine g_icmp_lt C 109 dX10_choose_95 (by decide) (by omega) (by omega) (fun c95 => ?_) (fun c95 => ?_)
          · refine g_iconst C dX10_choose_109 ?_
            refine g_goto C 114 dX10_choose_110 (by decide) ?_
            exact J114 1 (by omega)
          refine g_iload_n C 5 dX10_choose_98 rfl ?_
          refine g_aload_n C 3 dX10_choose_99 rfl ?_
          refine g_getf C k_X10 9 f_X10_25 0 rfl rfl (by decide) rfl rfl dX10_choose_100 ?_
          refine g_iload C 0 dX10_choose_103 rfl ?_
          refine g_iald C 3 rfl (by omega) dX10_choose_105 ?_
          have r3_105 := hOT i
          refine g_icmp_le C 113 dX10_choose_106 (by decide) (by omega) (by omega) (fun c106 => ?_) (fun c106 => ?_)
          · refine g_iconst C dX10_choose_113 ?_
            exact J114 0 (by omega)
          refine g_iconst C dX10_choose_109 ?_
          refine g_goto C 114 dX10_choose_110 (by decide) ?_
          exact J114 1 (by omega)
      exact L62 _ c0 0 ⟨by omega, by omega, cn9_0 hJ57⟩ (Nat.lt_succ_self _)
    refine g_aload_n C 1 dX10_choose_43 rfl ?_
    refine g_getf C k_X10 6 f_X10_163 0 rfl rfl (by decide) rfl rfl dX10_choose_44 ?_
    refine g_bipush C dX10_choose_47 (by decide) ?_
    refine g_icmp_ge C 56 dX10_choose_49 (by decide) (by omega) (by omega) (fun c49 => ?_) (fun c49 => ?_)
    · refine g_iconst C dX10_choose_56 ?_
      exact J57 0 (by omega)
    refine g_iconst C dX10_choose_52 ?_
    refine g_goto C 57 dX10_choose_53 (by decide) ?_
    exact J57 1 (by omega)
  refine g_iload_n C 1 dX10_choose_0 rfl ?_
  refine g_callSp C [vi p] [] (c_X10_isPeril x.1.2.1 g p hp) y_X10_isPeril l_X10_145 [] rfl (by decide) rfl (Nat.le_of_ble_eq_true rfl) rfl (by decide) dX10_choose_1 ?_
  refine g_if_eq C 40 dX10_choose_4 (by decide) (by omega) (fun c4 => ?_) (fun c4 => ?_)
  · refine g_iconst C dX10_choose_40 ?_
    exact J41 0 (by omega)
  refine g_iload_n C 2 dX10_choose_7 rfl ?_
  refine g_callSp C [vi a] [] (c_X10_isHour x.1.2.1 g a ha) y_X10_isHour l_X10_149 [] rfl (by decide) rfl (Nat.le_of_ble_eq_true rfl) rfl (by decide) dX10_choose_8 ?_
  refine g_if_eq C 40 dX10_choose_11 (by decide) (by omega) (fun c11 => ?_) (fun c11 => ?_)
  · refine g_iconst C dX10_choose_40 ?_
    exact J41 0 (by omega)
  refine g_iload_n C 3 dX10_choose_14 rfl ?_
  refine g_callSp C [vi b] [] (c_X10_isHour x.1.2.1 g b hb) y_X10_isHour l_X10_149 [] rfl (by decide) rfl (Nat.le_of_ble_eq_true rfl) rfl (by decide) dX10_choose_15 ?_
  refine g_if_eq C 40 dX10_choose_18 (by decide) (by omega) (fun c18 => ?_) (fun c18 => ?_)
  · refine g_iconst C dX10_choose_40 ?_
    exact J41 0 (by omega)
  refine g_iload_n C 3 dX10_choose_21 rfl ?_
  refine g_iload_n C 2 dX10_choose_22 rfl ?_
  refine g_icmp_lt C 40 dX10_choose_23 (by decide) (by omega) (by omega) (fun c23 => ?_) (fun c23 => ?_)
  · refine g_iconst C dX10_choose_40 ?_
    exact J41 0 (by omega)
  refine g_iload_n C 3 dX10_choose_26 rfl ?_
  refine g_iload_n C 2 dX10_choose_27 rfl ?_
  refine g_isub C dX10_choose_28 ?_
  refine g_iload_n C 1 dX10_choose_29 rfl ?_
  refine g_callSp C [vi p] [vi (b - a)] (c_X10_clause x.1.2.1 g p hp) y_X10_clause l_X10_159 [] rfl (by decide) rfl (Nat.le_of_ble_eq_true rfl) rfl (by decide) dX10_choose_30 ?_
  refine g_icmp_ge C 40 dX10_choose_33 (by decide) (by omega) (by omega) (fun c33 => ?_) (fun c33 => ?_)
  · refine g_iconst C dX10_choose_40 ?_
    exact J41 0 (by omega)
  refine g_iconst C dX10_choose_36 ?_
  refine g_goto C 41 dX10_choose_37 (by decide) ?_
  exact J41 1 (by omega)

set_option maxHeartbeats 4000000 in
set_option maxRecDepth 100000 in
theorem c_X10_isIn (l : Launch) (g : gD) (ko : Nat) (A : Nat → Nat) (th : Int) (hr : Int) (nL : Int) (nO : Int) (Q : Int) (nY : Int) (nE : Int) (nR : Int) (nB : Int) (LP : Int → Int) (LH : Int → Int) (OP : Int → Int) (OF : Int → Int) (OT : Int → Int) (v : Int) (o : Int) (hLP : ∀ k, 0 ≤ LP k ∧ LP k ≤ 2) (hLH : ∀ k, 0 ≤ LH k ∧ LH k ≤ 2199) (hOP : ∀ k, 0 ≤ OP k ∧ OP k ≤ 2) (hOF : ∀ k, 0 ≤ OF k ∧ OF k ≤ 2199) (hOT : ∀ k, 0 ≤ OT k ∧ OT k ≤ 2199) (hv4 : 0 ≤ v ∧ v < 40) (ho8 : 0 ≤ o ∧ o < 8) (hv : -2147483648 ≤ v ∧ v < 2147483648) (ho : -2147483648 ≤ o ∧ o < 2147483648) : gMet l g yX10_isIn cX10_isIn 3 (some .boolean) 1 0 0 22 [.ref ko, vi v, vi o] [(ko, cO 10 (kF th hr nL nO Q nY nE nR nB A)), (A 3, cA g 40 LP), (A 4, cA g 40 LH), (A 7, cA g 8 OP), (A 8, cA g 8 OF), (A 9, cA g 8 OT)] (gM (some (vi (if LP v = OP o ∧ OF o ≤ LH v ∧ LH v ≤ OT o then 1 else 0))) [(ko, cO 10 (kF th hr nL nO Q nY nE nR nB A)), (A 3, cA g 40 LP), (A 4, cA g 40 LH), (A 7, cA g 8 OP), (A 8, cA g 8 OF), (A 9, cA g 8 OT)]) := by
  refine gMet.of y_X10_isIn.2.2.2.2.1 (Nat.le_of_ble_eq_true rfl) ?_
  intro x hlx C hR hnm
  subst hlx
  have C : gC g x RX10 cX10_isIn 3 1 0 0 22 := C
  show gW g x [(ko, cO 10 (kF th hr nL nO Q nY nE nR nB A)), (A 3, cA g 40 LP), (A 4, cA g 40 LH), (A 7, cA g 8 OP), (A 8, cA g 8 OF), (A 9, cA g 8 OT)] 0 0 [(0, .ref ko), (1, vi v), (2, vi o)] 0 []
  refine g_aload_n C 0 dX10_isIn_0 rfl ?_
  refine g_getf C k_X10 3 f_X10_7 0 rfl rfl (by decide) rfl rfl dX10_isIn_1 ?_
  refine g_iload_n C 1 dX10_isIn_4 rfl ?_
  refine g_iald C 1 rfl (by omega) dX10_isIn_5 ?_
  have r1_5 := hLP v
  refine g_aload_n C 0 dX10_isIn_6 rfl ?_
  refine g_getf C k_X10 7 f_X10_19 0 rfl rfl (by decide) rfl rfl dX10_isIn_7 ?_
  refine g_iload_n C 2 dX10_isIn_10 rfl ?_
  refine g_iald C 3 rfl (by omega) dX10_isIn_11 ?_
  have r2_11 := hOP o
  refine g_icmp_ne C 43 dX10_isIn_12 (by decide) (by omega) (by omega) (fun c12 => ?_) (fun c12 => ?_)
  · refine g_iconst C dX10_isIn_43 ?_
    exact g_zretM C hR dX10_isIn_44 (by omega) (by first | rfl | omega) rfl rfl
  refine g_aload_n C 0 dX10_isIn_15 rfl ?_
  refine g_getf C k_X10 4 f_X10_13 0 rfl rfl (by decide) rfl rfl dX10_isIn_16 ?_
  refine g_iload_n C 1 dX10_isIn_19 rfl ?_
  refine g_iald C 2 rfl (by omega) dX10_isIn_20 ?_
  have r3_20 := hLH v
  refine g_aload_n C 0 dX10_isIn_21 rfl ?_
  refine g_getf C k_X10 8 f_X10_22 0 rfl rfl (by decide) rfl rfl dX10_isIn_22 ?_
  refine g_iload_n C 2 dX10_isIn_25 rfl ?_
  refine g_iald C 4 rfl (by omega) dX10_isIn_26 ?_
  have r4_26 := hOF o
  refine g_aload_n C 0 dX10_isIn_27 rfl ?_
  refine g_getf C k_X10 9 f_X10_25 0 rfl rfl (by decide) rfl rfl dX10_isIn_28 ?_
  refine g_iload_n C 2 dX10_isIn_31 rfl ?_
  refine g_iald C 5 rfl (by omega) dX10_isIn_32 ?_
  have r5_32 := hOT o
  refine g_callSp C [vi (LH v), vi (OF o), vi (OT o)] [] (c_X10_in x.1.2.1 g (LH v) (OF o) (OT o) (by omega) (by omega) (by omega)) y_X10_in l_X10_141 [] rfl (by decide) rfl (Nat.le_of_ble_eq_true rfl) rfl (by decide) dX10_isIn_33 ?_
  refine g_if_eq C 43 dX10_isIn_36 (by decide) (by omega) (fun c36 => ?_) (fun c36 => ?_)
  · refine g_iconst C dX10_isIn_43 ?_
    exact g_zretM C hR dX10_isIn_44 (by omega) (by first | rfl | omega) rfl rfl
  refine g_iconst C dX10_isIn_39 ?_
  refine g_goto C 44 dX10_isIn_40 (by decide) ?_
  exact g_zretM C hR dX10_isIn_44 (by omega) (by first | rfl | omega) rfl rfl

set_option maxHeartbeats 4000000 in
set_option maxRecDepth 100000 in
theorem c_X10_ground (l : Launch) (g : gD) (ko : Nat) (A : Nat → Nat) (th : Int) (hr : Int) (nL : Int) (nO : Int) (Q : Int) (nY : Int) (nE : Int) (nR : Int) (nB : Int) (LP : Int → Int) (LH : Int → Int) (LU : Int → Int) (OP : Int → Int) (OF : Int → Int) (OT : Int → Int) (o : Int) (hLP : ∀ k, 0 ≤ LP k ∧ LP k ≤ 2) (hLH : ∀ k, 0 ≤ LH k ∧ LH k ≤ 2199) (hLU : ∀ k, 0 ≤ LU k ∧ LU k ≤ 99999) (hnL : 0 ≤ nL ∧ nL ≤ 40) (hOP : ∀ k, 0 ≤ OP k ∧ OP k ≤ 2) (hOF : ∀ k, 0 ≤ OF k ∧ OF k ≤ 2199) (hOT : ∀ k, 0 ≤ OT k ∧ OT k ≤ 2199) (ho8 : 0 ≤ o ∧ o < 8) (ho : -2147483648 ≤ o ∧ o < 2147483648) : gMet l g yX10_ground cX10_ground 4 (some .int) 2 0 0 44 [.ref ko, vi o] [(ko, cO 10 (kF th hr nL nO Q nY nE nR nB A)), (A 3, cA g 40 LP), (A 4, cA g 40 LH), (A 5, cA g 40 LU), (A 7, cA g 8 OP), (A 8, cA g 8 OF), (A 9, cA g 8 OT)] (gM (some (vi (gro LP LH LU nL OP OF OT o))) [(ko, cO 10 (kF th hr nL nO Q nY nE nR nB A)), (A 3, cA g 40 LP), (A 4, cA g 40 LH), (A 5, cA g 40 LU), (A 7, cA g 8 OP), (A 8, cA g 8 OF), (A 9, cA g 8 OT)]) := by
  refine gMet.of y_X10_ground.2.2.2.2.1 (Nat.le_of_ble_eq_true rfl) ?_
  intro x hlx C hR hnm
  subst hlx
  have C : gC g x RX10 cX10_ground 4 2 0 0 44 := C
  show gW g x [(ko, cO 10 (kF th hr nL nO Q nY nE nR nB A)), (A 3, cA g 40 LP), (A 4, cA g 40 LH), (A 5, cA g 40 LU), (A 7, cA g 8 OP), (A 8, cA g 8 OF), (A 9, cA g 8 OT)] 0 0 [(0, .ref ko), (1, vi o)] 0 []
  refine g_iconst C dX10_ground_0 ?_
  refine g_istore_n C [(2, vi 0), (0, .ref ko), (1, vi o)] dX10_ground_1 (by decide) rfl ?_
  refine g_iconst C dX10_ground_2 ?_
  refine g_istore_n C [(3, vi 0), (2, vi 0), (0, .ref ko), (1, vi o)] dX10_ground_3 (by decide) rfl ?_
  have L4 : ∀ (f : Nat) (acc : Int) (i : Int), (0 ≤ i ∧ i ≤ nL ∧ acc = sm (grd LP LH LU (OP o) (OF o) (OT o)) i) → (nL - i).toNat < f → gW g x [(ko, cO 10 (kF th hr nL nO Q nY nE nR nB A)), (A 3, cA g 40 LP), (A 4, cA g 40 LH), (A 5, cA g 40 LU), (A 7, cA g 8 OP), (A 8, cA g 8 OF), (A 9, cA g 8 OT)] 0 0 [(3, vi i), (2, vi acc), (0, .ref ko), (1, vi o)] 4 [] := by
    intro f
    induction f with
    | zero => intro acc i hI4 hf; exact absurd hf (Nat.not_lt_zero _)
    | succ f ih4 =>
      intro acc i hI4 hf4
      refine g_iload_n C 0 dX10_ground_4 rfl ?_
      refine g_aload_n C 2 dX10_ground_5 rfl ?_
      refine g_getf C k_X10 2 f_X10_153 0 rfl rfl (by decide) rfl rfl dX10_ground_6 ?_
      refine g_icmp_ge C 40 dX10_ground_9 (by decide) (by omega) (by omega) (fun c9 => ?_) (fun c9 => ?_)
      · refine g_iload_n C 1 dX10_ground_40 rfl ?_
        exact g_iretM C hR dX10_ground_41 (by unfold gro; rw [hI4.2.2, show i = nL by omega]) rfl rfl
      refine g_iload_n C 1 dX10_ground_12 rfl ?_
      refine g_aload_n C 2 dX10_ground_13 rfl ?_
      refine g_iload_n C 0 dX10_ground_14 rfl ?_
      refine g_iload_n C 3 dX10_ground_15 rfl ?_
      refine g_callVp C [vi i, vi o] [vi acc] (c_X10_isIn x.1.2.1 g ko A th hr nL nO Q nY nE nR nB LP LH OP OF OT i o hLP hLH hOP hOF hOT (by omega) ho8 (by omega) ho) y_X10_isIn l_X10_166 [0, 1, 2, 4, 5, 6] rfl (by decide) 0 rfl rfl rfl (Nat.le_of_ble_eq_true rfl) rfl (by decide) dX10_ground_16 ?_
      refine g_if_eq C 31 dX10_ground_19 (by decide) (by omega) (fun c19 => ?_) (fun c19 => ?_)
      · refine g_iconst C dX10_ground_31 ?_
        refine g_iadd C dX10_ground_32 ?_
        refine g_istore_n C [(2, vi (acc + 0)), (3, vi i), (0, .ref ko), (1, vi o)] dX10_ground_33 (by decide) rfl ?_
        refine g_iinc C 1 [(3, vi (i + 1)), (2, vi (acc + 0)), (0, .ref ko), (1, vi o)] dX10_ground_34 rfl (by decide) rfl ?_
        refine g_goto C 4 dX10_ground_37 (by decide) ?_
        exact ih4 (acc + 0) (i + 1) ⟨by omega, by omega, by rw [sm_s _ (by omega), ← hI4.2.2]; unfold grd; first | (rw [if_pos (by omega)]; done) | (rw [if_neg (by omega)]; done)⟩ (by omega)
      refine g_aload_n C 2 dX10_ground_22 rfl ?_
      refine g_getf C k_X10 5 f_X10_16 0 rfl rfl (by decide) rfl rfl dX10_ground_23 ?_
      refine g_iload_n C 0 dX10_ground_26 rfl ?_
      refine g_iald C 3 rfl (by omega) dX10_ground_27 ?_
      have r1_27 := hLU i
      refine g_goto C 32 dX10_ground_28 (by decide) ?_
      refine g_iadd C dX10_ground_32 ?_
      refine g_istore_n C [(2, vi (acc + (LU i))), (3, vi i), (0, .ref ko), (1, vi o)] dX10_ground_33 (by decide) rfl ?_
      refine g_iinc C 1 [(3, vi (i + 1)), (2, vi (acc + (LU i))), (0, .ref ko), (1, vi o)] dX10_ground_34 rfl (by decide) rfl ?_
      refine g_goto C 4 dX10_ground_37 (by decide) ?_
      exact ih4 (acc + (LU i)) (i + 1) ⟨by omega, by omega, by rw [sm_s _ (by omega), ← hI4.2.2]; unfold grd; first | (rw [if_pos (by omega)]; done) | (rw [if_neg (by omega)]; done)⟩ (by omega)
  exact L4 _ 0 0 ⟨by omega, by omega, rfl⟩ (Nat.lt_succ_self _)

set_option maxHeartbeats 4000000 in
set_option maxRecDepth 100000 in
theorem c_X10_ceded (l : Launch) (g : gD) (ko : Nat) (A : Nat → Nat) (th : Int) (hr : Int) (nL : Int) (nO : Int) (Q : Int) (nY : Int) (nE : Int) (nR : Int) (nB : Int) (v : Int) (hQ : 0 ≤ Q ∧ Q ≤ 90) (hvr : 0 ≤ v ∧ v ≤ 9999999) (hv : -2147483648 ≤ v ∧ v < 2147483648) : gMet l g yX10_ceded cX10_ceded 2 (some .int) 0 0 0 0 [.ref ko, vi v] [(ko, cO 10 (kF th hr nL nO Q nY nE nR nB A))] (gM (some (vi (qto Q v))) [(ko, cO 10 (kF th hr nL nO Q nY nE nR nB A))]) := by
  refine gMet.of y_X10_ceded.2.2.2.2.1 (Nat.le_of_ble_eq_true rfl) ?_
  intro x hlx C hR hnm
  subst hlx
  have C : gC g x RX10 cX10_ceded 2 0 0 0 0 := C
  show gW g x [(ko, cO 10 (kF th hr nL nO Q nY nE nR nB A))] 0 0 [(0, .ref ko), (1, vi v)] 0 []
  refine g_aload_n C 0 dX10_ceded_0 rfl ?_
  refine g_getf C k_X10 10 f_X10_170 0 rfl rfl (by decide) rfl rfl dX10_ceded_1 ?_
  refine g_i2l C dX10_ceded_4 (by omega) ?_
  refine g_iload_n C 1 dX10_ceded_5 rfl ?_
  refine g_i2l C dX10_ceded_6 (by omega) ?_
  refine g_lmul C dX10_ceded_7 ?_
  have h9 := mul_rng hQ hvr
  refine g_ldc2 C (100) n_X10_173 (by decide) dX10_ceded_8 ?_
  refine g_ldiv C dX10_ceded_11 (by omega) (by omega) ?_
  refine g_l2i C dX10_ceded_12 ?_
  exact g_iretM C hR dX10_ceded_13 (by first | rfl | omega) rfl rfl

set_option maxHeartbeats 4000000 in
set_option maxRecDepth 100000 in
theorem c_X10_above (l : Launch) (g : gD) (ko : Nat) (A : Nat → Nat) (th : Int) (hr : Int) (nL : Int) (nO : Int) (Q : Int) (nY : Int) (nE : Int) (nR : Int) (nB : Int) (FL : Int → Int) (DP : Int → Int) (y : Int) (v : Int) (hFL : ∀ k, 0 ≤ FL k ∧ FL k ≤ 999999) (hDP : ∀ k, 0 ≤ DP k ∧ DP k ≤ 999999) (hy5 : 0 ≤ y ∧ y < 5) (hvr : 0 ≤ v ∧ v ≤ 9999999) (hy : -2147483648 ≤ y ∧ y < 2147483648) (hv : -2147483648 ≤ v ∧ v < 2147483648) : gMet l g yX10_above cX10_above 4 (some .int) 0 0 0 0 [.ref ko, vi y, vi v] [(ko, cO 10 (kF th hr nL nO Q nY nE nR nB A)), (A 12, cA g 5 FL), (A 13, cA g 5 DP)] (gM (some (vi (fhit FL DP y v))) [(ko, cO 10 (kF th hr nL nO Q nY nE nR nB A)), (A 12, cA g 5 FL), (A 13, cA g 5 DP)]) := by
  refine gMet.of y_X10_above.2.2.2.2.1 (Nat.le_of_ble_eq_true rfl) ?_
  intro x hlx C hR hnm
  subst hlx
  have C : gC g x RX10 cX10_above 4 0 0 0 0 := C
  show gW g x [(ko, cO 10 (kF th hr nL nO Q nY nE nR nB A)), (A 12, cA g 5 FL), (A 13, cA g 5 DP)] 0 0 [(0, .ref ko), (1, vi y), (2, vi v)] 0 []
  have J22 : ∀ (w : Int), (w = if FL y < v then v - FL y else 0) → gW g x [(ko, cO 10 (kF th hr nL nO Q nY nE nR nB A)), (A 12, cA g 5 FL), (A 13, cA g 5 DP)] 0 0 [(0, .ref ko), (1, vi y), (2, vi v)] 22 [vi w] := by
    intro w hJ22
    have hf9 := hFL y
    have hd9 := hDP y
    refine g_istore_n C [(3, vi w), (0, .ref ko), (1, vi y), (2, vi v)] dX10_above_22 (by decide) rfl ?_
    refine g_iload_n C 0 dX10_above_23 rfl ?_
    refine g_aload_n C 1 dX10_above_24 rfl ?_
    refine g_getf C k_X10 13 f_X10_31 0 rfl rfl (by decide) rfl rfl dX10_above_25 ?_
    refine g_iload_n C 2 dX10_above_28 rfl ?_
    refine g_iald C 2 rfl (by omega) dX10_above_29 ?_
    have r1_29 := hDP y
    refine g_icmp_le C 42 dX10_above_30 (by decide) (by omega) (by omega) (fun c30 => ?_) (fun c30 => ?_)
    · refine g_iload_n C 0 dX10_above_42 rfl ?_
      exact g_iretM C hR dX10_above_43 (by unfold fhit; omega) rfl rfl
    refine g_aload_n C 1 dX10_above_33 rfl ?_
    refine g_getf C k_X10 13 f_X10_31 0 rfl rfl (by decide) rfl rfl dX10_above_34 ?_
    refine g_iload_n C 2 dX10_above_37 rfl ?_
    refine g_iald C 2 rfl (by omega) dX10_above_38 ?_
    have r2_38 := hDP y
    refine g_goto C 43 dX10_above_39 (by decide) ?_
    exact g_iretM C hR dX10_above_43 (by unfold fhit; omega) rfl rfl
  refine g_iload_n C 2 dX10_above_0 rfl ?_
  refine g_aload_n C 0 dX10_above_1 rfl ?_
  refine g_getf C k_X10 12 f_X10_28 0 rfl rfl (by decide) rfl rfl dX10_above_2 ?_
  refine g_iload_n C 1 dX10_above_5 rfl ?_
  refine g_iald C 1 rfl (by omega) dX10_above_6 ?_
  have r3_6 := hFL y
  refine g_icmp_le C 21 dX10_above_7 (by decide) (by omega) (by omega) (fun c7 => ?_) (fun c7 => ?_)
  · refine g_iconst C dX10_above_21 ?_
    exact J22 0 (by omega)
  refine g_iload_n C 2 dX10_above_10 rfl ?_
  refine g_aload_n C 0 dX10_above_11 rfl ?_
  refine g_getf C k_X10 12 f_X10_28 0 rfl rfl (by decide) rfl rfl dX10_above_12 ?_
  refine g_iload_n C 1 dX10_above_15 rfl ?_
  refine g_iald C 1 rfl (by omega) dX10_above_16 ?_
  have r4_16 := hFL y
  refine g_isub C dX10_above_17 ?_
  refine g_goto C 22 dX10_above_18 (by decide) ?_
  exact J22 (v - (FL y)) (by omega)

set_option maxHeartbeats 4000000 in
set_option maxRecDepth 100000 in
theorem c_X10_pays (l : Launch) (g : gD) (ko : Nat) (A : Nat → Nat) (th : Int) (hr : Int) (nL : Int) (nO : Int) (Q : Int) (nY : Int) (nE : Int) (nR : Int) (nB : Int) (SH : Int → Int) (y : Int) (h : Int) (hSH : ∀ k, 0 ≤ SH k ∧ SH k ≤ 100) (hy5 : 0 ≤ y ∧ y < 5) (hhr : 0 ≤ h ∧ h ≤ 9999999) (hy : -2147483648 ≤ y ∧ y < 2147483648) (hh : -2147483648 ≤ h ∧ h < 2147483648) : gMet l g yX10_pays cX10_pays 3 (some .int) 0 0 0 0 [.ref ko, vi y, vi h] [(ko, cO 10 (kF th hr nL nO Q nY nE nR nB A)), (A 14, cA g 5 SH)] (gM (some (vi (pay SH y h))) [(ko, cO 10 (kF th hr nL nO Q nY nE nR nB A)), (A 14, cA g 5 SH)]) := by
  refine gMet.of y_X10_pays.2.2.2.2.1 (Nat.le_of_ble_eq_true rfl) ?_
  intro x hlx C hR hnm
  subst hlx
  have C : gC g x RX10 cX10_pays 3 0 0 0 0 := C
  show gW g x [(ko, cO 10 (kF th hr nL nO Q nY nE nR nB A)), (A 14, cA g 5 SH)] 0 0 [(0, .ref ko), (1, vi y), (2, vi h)] 0 []
  refine g_aload_n C 0 dX10_pays_0 rfl ?_
  refine g_getf C k_X10 14 f_X10_34 0 rfl rfl (by decide) rfl rfl dX10_pays_1 ?_
  refine g_iload_n C 1 dX10_pays_4 rfl ?_
  refine g_iald C 1 rfl (by omega) dX10_pays_5 ?_
  have r1_5 := hSH y
  refine g_i2l C dX10_pays_6 (by omega) ?_
  refine g_iload_n C 2 dX10_pays_7 rfl ?_
  refine g_i2l C dX10_pays_8 (by omega) ?_
  refine g_lmul C dX10_pays_9 ?_
  have h9 := mul_rng (hSH y) hhr
  refine g_ldc2 C (100) n_X10_173 (by decide) dX10_pays_10 ?_
  refine g_ldiv C dX10_pays_13 (by omega) (by omega) ?_
  refine g_l2i C dX10_pays_14 ?_
  exact g_iretM C hR dX10_pays_15 (by first | rfl | omega) rfl rfl

set_option maxHeartbeats 4000000 in
set_option maxRecDepth 100000 in
theorem c_X10_findPlaces (l : Launch) (g : gD) (ko : Nat) (A : Nat → Nat) (th : Int) (hr : Int) (nL : Int) (nO : Int) (Q : Int) (nY : Int) (nE : Int) (nR : Int) (nB : Int) (OP : Int → Int) (OF : Int → Int) (ZP : Int → Int) (hOP : ∀ k, 0 ≤ OP k ∧ OP k ≤ 2) (hOF : ∀ k, 0 ≤ OF k ∧ OF k ≤ 2199) (hnO : 0 ≤ nO ∧ nO ≤ 8) : gMet l g yX10_findPlaces cX10_findPlaces 3 none 0 0 0 0 [.ref ko] [(ko, cO 10 (kF th hr nL nO Q nY nE nR nB A)), (A 7, cA g 8 OP), (A 8, cA g 8 OF), (A 42, cA g 8 ZP)] (gM none [(ko, cO 10 (kF th hr nL nO Q nY nE nR nB A)), (A 7, cA g 8 OP), (A 8, cA g 8 OF), (A 42, cA g 8 (cpy (plc OP OF nO) ZP nO))]) := by
  refine gMet.of y_X10_findPlaces.2.2.2.2.1 (Nat.le_of_ble_eq_true rfl) ?_
  intro x hlx C hR hnm
  subst hlx
  have C : gC g x RX10 cX10_findPlaces 3 0 0 0 0 := C
  show gW g x [(ko, cO 10 (kF th hr nL nO Q nY nE nR nB A)), (A 7, cA g 8 OP), (A 8, cA g 8 OF), (A 42, cA g 8 ZP)] 0 0 [(0, .ref ko)] 0 []
  refine g_iconst C dX10_findPlaces_0 ?_
  refine g_istore_n C [(1, vi 0), (0, .ref ko)] dX10_findPlaces_1 (by decide) rfl ?_
  have L2 : ∀ (f : Nat) (i : Int) (cB : Int → Int), (0 ≤ i ∧ i ≤ nO ∧ cB = cpy (plc OP OF nO) ZP i) → (nO - i).toNat < f → gW g x [(ko, cO 10 (kF th hr nL nO Q nY nE nR nB A)), (A 7, cA g 8 OP), (A 8, cA g 8 OF), (A 42, cA g 8 cB)] 0 0 [(1, vi i), (0, .ref ko)] 2 [] := by
    intro f
    induction f with
    | zero => intro i cB hI2 hf; exact absurd hf (Nat.not_lt_zero _)
    | succ f ih2 =>
      intro i cB hI2 hf2
      obtain ⟨hi0, hi1, hB⟩ := hI2
      refine g_iload_n C 0 dX10_findPlaces_2 rfl ?_
      refine g_aload_n C 1 dX10_findPlaces_3 rfl ?_
      refine g_getf C k_X10 6 f_X10_163 0 rfl rfl (by decide) rfl rfl dX10_findPlaces_4 ?_
      refine g_icmp_ge C 98 dX10_findPlaces_7 (by decide) (by omega) (by omega) (fun c7 => ?_) (fun c7 => ?_)
      · obtain rfl : nO = i := by omega
        subst hB
        exact g_vretM C hR dX10_findPlaces_98 rfl rfl
      refine g_aload_n C 1 dX10_findPlaces_10 rfl ?_
      refine g_getf C k_X10 42 f_X10_109 0 rfl rfl (by decide) rfl rfl dX10_findPlaces_11 ?_
      refine g_iload_n C 0 dX10_findPlaces_14 rfl ?_
      refine g_iconst C dX10_findPlaces_15 ?_
      refine g_iast C 3 rfl (by omega) [(ko, cO 10 (kF th hr nL nO Q nY nE nR nB A)), (A 7, cA g 8 OP), (A 8, cA g 8 OF), (A 42, cA g 8 (up cB i 0))] rfl dX10_findPlaces_16 ?_
      refine g_iconst C dX10_findPlaces_17 ?_
      refine g_istore_n C [(2, vi 0), (1, vi i), (0, .ref ko)] dX10_findPlaces_18 (by decide) rfl ?_
      have L19 : ∀ (f : Nat) (j : Int) (cD : Int → Int), (0 ≤ j ∧ j ≤ nO ∧ cD = up cB i (sm (bef OP OF i) j)) → (nO - j).toNat < f → gW g x [(ko, cO 10 (kF th hr nL nO Q nY nE nR nB A)), (A 7, cA g 8 OP), (A 8, cA g 8 OF), (A 42, cA g 8 cD)] 0 0 [(2, vi j), (1, vi i), (0, .ref ko)] 19 [] := by
        intro f
        induction f with
        | zero => intro j cD hI19 hf; exact absurd hf (Nat.not_lt_zero _)
        | succ f ih19 =>
          intro j cD hI19 hf19
          obtain ⟨hj0, hj1, hD⟩ := hI19
          refine g_iload_n C 0 dX10_findPlaces_19 rfl ?_
          refine g_aload_n C 2 dX10_findPlaces_20 rfl ?_
          refine g_getf C k_X10 6 f_X10_163 0 rfl rfl (by decide) rfl rfl dX10_findPlaces_21 ?_
          refine g_icmp_ge C 92 dX10_findPlaces_24 (by decide) (by omega) (by omega) (fun c24 => ?_) (fun c24 => ?_)
          · refine g_iinc C 1 [(1, vi (i + 1)), (2, vi j), (0, .ref ko)] dX10_findPlaces_92 rfl (by decide) rfl ?_
            refine g_goto C 2 dX10_findPlaces_95 (by decide) ?_
            refine g_lv [(1, vi (i + 1)), (0, .ref ko)] [0, 2] rfl ?_
            exact ih2 (i + 1) cD ⟨by omega, by omega, by rw [cpy_s _ _ hi0, ← hB, hD, show j = nO by omega]; rfl⟩ (by omega)
          refine g_aload_n C 2 dX10_findPlaces_27 rfl ?_
          refine g_getf C k_X10 42 f_X10_109 0 rfl rfl (by decide) rfl rfl dX10_findPlaces_28 ?_
          refine g_iload_n C 1 dX10_findPlaces_31 rfl ?_
          refine g_dup2 C dX10_findPlaces_32 rfl rfl ?_
          refine g_iald C 3 rfl (by omega) dX10_findPlaces_33 ?_
          have J84 : ∀ (w : Int), (w = if OF j < OF i ∨ (OF j = OF i ∧ OP j < OP i) then 1 else 0) → gW g x [(ko, cO 10 (kF th hr nL nO Q nY nE nR nB A)), (A 7, cA g 8 OP), (A 8, cA g 8 OF), (A 42, cA g 8 cD)] 0 0 [(2, vi j), (1, vi i), (0, .ref ko)] 84 [vi w, vi (cD i), vi i, .ref (A 42)] := by
            intro w hJ84
            refine g_iadd C dX10_findPlaces_84 ?_
            refine g_iast C 3 rfl (by omega) [(ko, cO 10 (kF th hr nL nO Q nY nE nR nB A)), (A 7, cA g 8 OP), (A 8, cA g 8 OF), (A 42, cA g 8 (up cD i ((cD i) + w)))] rfl dX10_findPlaces_85 ?_
            refine g_iinc C 0 [(2, vi (j + 1)), (1, vi i), (0, .ref ko)] dX10_findPlaces_86 rfl (by decide) rfl ?_
            refine g_goto C 19 dX10_findPlaces_89 (by decide) ?_
            exact ih19 (j + 1) (up cD i ((cD i) + w)) ⟨by omega, by omega, by rw [hD, up_s]; funext q; simp only [up]; by_cases e : q = i; (rw [if_pos e, if_pos e, sm_s _ hj0, hJ84]; rfl); (rw [if_neg e, if_neg e, if_neg e])⟩ (by omega)
          refine g_aload_n C 2 dX10_findPlaces_34 rfl ?_
          refine g_getf C k_X10 8 f_X10_22 0 rfl rfl (by decide) rfl rfl dX10_findPlaces_35 ?_
          refine g_iload_n C 0 dX10_findPlaces_38 rfl ?_
          refine g_iald C 2 rfl (by omega) dX10_findPlaces_39 ?_
          have r1_39 := hOF j
          refine g_aload_n C 2 dX10_findPlaces_40 rfl ?_
          refine g_getf C k_X10 8 f_X10_22 0 rfl rfl (by decide) rfl rfl dX10_findPlaces_41 ?_
          refine g_iload_n C 1 dX10_findPlaces_44 rfl ?_
          refine g_iald C 2 rfl (by omega) dX10_findPlaces_45 ?_
          have r2_45 := hOF i
          refine g_icmp_lt C 79 dX10_findPlaces_46 (by decide) (by omega) (by omega) (fun c46 => ?_) (fun c46 => ?_)
          · refine g_iconst C dX10_findPlaces_79 ?_
            refine g_goto C 84 dX10_findPlaces_80 (by decide) ?_
            exact J84 1 (by omega)
          refine g_aload_n C 2 dX10_findPlaces_49 rfl ?_
          refine g_getf C k_X10 8 f_X10_22 0 rfl rfl (by decide) rfl rfl dX10_findPlaces_50 ?_
          refine g_iload_n C 0 dX10_findPlaces_53 rfl ?_
          refine g_iald C 2 rfl (by omega) dX10_findPlaces_54 ?_
          have r3_54 := hOF j
          refine g_aload_n C 2 dX10_findPlaces_55 rfl ?_
          refine g_getf C k_X10 8 f_X10_22 0 rfl rfl (by decide) rfl rfl dX10_findPlaces_56 ?_
          refine g_iload_n C 1 dX10_findPlaces_59 rfl ?_
          refine g_iald C 2 rfl (by omega) dX10_findPlaces_60 ?_
          have r4_60 := hOF i
          refine g_icmp_ne C 83 dX10_findPlaces_61 (by decide) (by omega) (by omega) (fun c61 => ?_) (fun c61 => ?_)
          · refine g_iconst C dX10_findPlaces_83 ?_
            exact J84 0 (by omega)
          refine g_aload_n C 2 dX10_findPlaces_64 rfl ?_
          refine g_getf C k_X10 7 f_X10_19 0 rfl rfl (by decide) rfl rfl dX10_findPlaces_65 ?_
          refine g_iload_n C 0 dX10_findPlaces_68 rfl ?_
          refine g_iald C 1 rfl (by omega) dX10_findPlaces_69 ?_
          have r5_69 := hOP j
          refine g_aload_n C 2 dX10_findPlaces_70 rfl ?_
          refine g_getf C k_X10 7 f_X10_19 0 rfl rfl (by decide) rfl rfl dX10_findPlaces_71 ?_
          refine g_iload_n C 1 dX10_findPlaces_74 rfl ?_
          refine g_iald C 1 rfl (by omega) dX10_findPlaces_75 ?_
          have r6_75 := hOP i
          refine g_icmp_ge C 83 dX10_findPlaces_76 (by decide) (by omega) (by omega) (fun c76 => ?_) (fun c76 => ?_)
          · refine g_iconst C dX10_findPlaces_83 ?_
            exact J84 0 (by omega)
          refine g_iconst C dX10_findPlaces_79 ?_
          refine g_goto C 84 dX10_findPlaces_80 (by decide) ?_
          exact J84 1 (by omega)
      exact L19 _ 0 (up cB i 0) ⟨by omega, by omega, by rw [sm_0]⟩ (Nat.lt_succ_self _)
  exact L2 _ 0 ZP ⟨by omega, by omega, (cpy_0 _ _).symm⟩ (Nat.lt_succ_self _)

set_option maxHeartbeats 4000000 in
set_option maxRecDepth 100000 in
theorem c_X10_dueBack (l : Launch) (g : gD) (ko : Nat) (A : Nat → Nat) (th : Int) (hr : Int) (nL : Int) (nO : Int) (Q : Int) (nY : Int) (nE : Int) (nR : Int) (nB : Int) (DP : Int → Int) (PR : Int → Int) (RA : Int → Int) (ZB : Int → Int) (y : Int) (o : Int) (hDP : ∀ k, 0 ≤ DP k ∧ DP k ≤ 999999) (hPR : ∀ k, 0 ≤ PR k ∧ PR k ≤ 99999) (hRA : ∀ k, 0 ≤ RA k ∧ RA k ≤ 150) (hZB : ∀ k, 0 ≤ ZB k ∧ ZB k ≤ 999999) (hy5 : 0 ≤ y ∧ y < 5) (ho8 : 0 ≤ o ∧ o < 8) (hd1 : 1 ≤ DP y) (hy : -2147483648 ≤ y ∧ y < 2147483648) (ho : -2147483648 ≤ o ∧ o < 2147483648) : gMet l g yX10_dueBack cX10_dueBack 3 (some .int) 0 0 0 0 [.ref ko, vi y, vi o] [(ko, cO 10 (kF th hr nL nO Q nY nE nR nB A)), (A 13, cA g 5 DP), (A 16, cA g 5 PR), (A 17, cA g 5 RA), (A 44, cA g 40 ZB)] (gM (some (vi (chg DP PR RA y (ZB (8 * y + o))))) [(ko, cO 10 (kF th hr nL nO Q nY nE nR nB A)), (A 13, cA g 5 DP), (A 16, cA g 5 PR), (A 17, cA g 5 RA), (A 44, cA g 40 ZB)]) := by
  refine gMet.of y_X10_dueBack.2.2.2.2.1 (Nat.le_of_ble_eq_true rfl) ?_
  intro x hlx C hR hnm
  subst hlx
  have C : gC g x RX10 cX10_dueBack 3 0 0 0 0 := C
  show gW g x [(ko, cO 10 (kF th hr nL nO Q nY nE nR nB A)), (A 13, cA g 5 DP), (A 16, cA g 5 PR), (A 17, cA g 5 RA), (A 44, cA g 40 ZB)] 0 0 [(0, .ref ko), (1, vi y), (2, vi o)] 0 []
  refine g_aload_n C 0 dX10_dueBack_0 rfl ?_
  refine g_getf C k_X10 16 f_X10_40 0 rfl rfl (by decide) rfl rfl dX10_dueBack_1 ?_
  refine g_iload_n C 1 dX10_dueBack_4 rfl ?_
  refine g_iald C 2 rfl (by omega) dX10_dueBack_5 ?_
  have r1_5 := hPR y
  refine g_i2l C dX10_dueBack_6 (by omega) ?_
  refine g_aload_n C 0 dX10_dueBack_7 rfl ?_
  refine g_getf C k_X10 44 f_X10_115 0 rfl rfl (by decide) rfl rfl dX10_dueBack_8 ?_
  refine g_bipush C dX10_dueBack_11 (by decide) ?_
  refine g_iload_n C 1 dX10_dueBack_13 rfl ?_
  refine g_imul C dX10_dueBack_14 ?_
  refine g_iload_n C 2 dX10_dueBack_15 rfl ?_
  refine g_iadd C dX10_dueBack_16 ?_
  refine g_iald C 4 rfl (by omega) dX10_dueBack_17 ?_
  have r2_17 := hZB ((8 * y) + o)
  refine g_i2l C dX10_dueBack_18 (by omega) ?_
  refine g_lmul C dX10_dueBack_19 ?_
  refine g_aload_n C 0 dX10_dueBack_20 rfl ?_
  refine g_getf C k_X10 17 f_X10_43 0 rfl rfl (by decide) rfl rfl dX10_dueBack_21 ?_
  refine g_iload_n C 1 dX10_dueBack_24 rfl ?_
  refine g_iald C 3 rfl (by omega) dX10_dueBack_25 ?_
  have r3_25 := hRA y
  refine g_i2l C dX10_dueBack_26 (by omega) ?_
  refine g_lmul C dX10_dueBack_27 ?_
  have h8 := mul_rng (hPR y) (hZB (8 * y + o))
  have h9 := mul_rng h8 (hRA y)
  have h7 := hDP y
  refine g_ldc2 C (100) n_X10_173 (by decide) dX10_dueBack_28 ?_
  refine g_aload_n C 0 dX10_dueBack_31 rfl ?_
  refine g_getf C k_X10 13 f_X10_31 0 rfl rfl (by decide) rfl rfl dX10_dueBack_32 ?_
  refine g_iload_n C 1 dX10_dueBack_35 rfl ?_
  refine g_iald C 1 rfl (by omega) dX10_dueBack_36 ?_
  have r4_36 := hDP y
  refine g_i2l C dX10_dueBack_37 (by omega) ?_
  refine g_lmul C dX10_dueBack_38 ?_
  refine g_ldiv C dX10_dueBack_39 (by omega) (by omega) ?_
  refine g_l2i C dX10_dueBack_40 ?_
  exact g_iretM C hR dX10_dueBack_41 (by first | rfl | omega) rfl rfl

