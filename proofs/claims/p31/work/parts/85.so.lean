set_option maxHeartbeats 4000000 in
set_option maxRecDepth 100000 in
theorem q_so (l : Launch) (hst9 : l.stackTraces = false) (g : gD) (B : Nat → Nat) (S X : Nat → Int → Int) (v : Int) (hI : iv9 S X) : gMetQ l g yL_isSo cL_isSo 7 (some .boolean) 14 900 5400 341 [.ref (B 0), vi v] (wP g B S X) (pO g B S (vi 1) True) := by
  refine gMetQ.of (by decide +kernel) (Nat.le_of_ble_eq_true rfl) ?_
  intro x hlx C hR hZ
  subst hlx
  have C : gC g x RL cL_isSo 7 14 900 5400 341 := C
  have hnO := iv_nO hI
  have hnY := iv_nY hI
  have hnB := iv_nB hI
  show gW g x (wP g B S X) 0 0 [(0, .ref (B 0)), (1, vi v)] 0 []
  refine g_aload_n C 0 dL_isSo_0 rfl ?_
  refine g_callSQ C hZ [.ref (B 0)] [] (q_due x.1.2.1 hst9 g B S X  hI) y_L_isDueSo l_L_177 isP (hCP _ _ _ _) ndP rfl (Nat.le_of_ble_eq_true rfl) rfl (by omega) dL_isSo_1 (fun v9 w9 hp9 => ?_)
  obtain ⟨hc1, X1, rfl, rfl, hI1⟩ := hp9
  rw [puP]
  show gW g x (wP g B S X1) 700 4200 [(0, .ref (B 0)), (1, vi v)] 4 [vi 1]
  refine g_istore_n C [(2, vi 1), (0, .ref (B 0)), (1, vi v)] dL_isSo_4 (by decide) rfl ?_
  refine g_iconst C dL_isSo_5 ?_
  refine g_istore_n C [(3, vi 0), (2, vi 1), (0, .ref (B 0)), (1, vi v)] dL_isSo_6 (by decide) rfl ?_
  have L7 : ∀ (f : Nat) (p9 : Int) (Xa : Nat → Int → Int) (k9 : Nat) (n9 : Nat), (0 ≤ p9 ∧ p9 ≤ 3 ∧ iv9 S Xa ∧ (k9 : Int) ≤ 700 + 3 * p9 ∧ (n9 : Int) ≤ 4200 + 18 * p9) → (3 - p9).toNat < f → gW g x (wP g B S Xa) k9 n9 [(3, vi p9), (2, vi 1), (0, .ref (B 0)), (1, vi v)] 7 [] := by
    intro f
    induction f with
    | zero => intro p9 Xa k9 n9 hI7 hf; exact absurd hf (Nat.not_lt_zero _)
    | succ f ih7 =>
      intro p9 Xa k9 n9 hI7 hf7
      obtain ⟨hp0, hp1, hXa, hk9, hn9⟩ := hI7
      have ha := anew_at p9 S
      refine g_iload_n C 0 dL_isSo_7 rfl ?_
      refine g_iconst C dL_isSo_8 ?_
      refine g_icmp_ge C 58 dL_isSo_9 (by decide) (by omega) (by omega) (fun c9 => ?_) (fun c9 => ?_)
      · refine g_iconst C dL_isSo_58 ?_
        refine g_istore_n C [(3, vi 0), (2, vi 1), (0, .ref (B 0)), (1, vi v)] dL_isSo_59 (by decide) rfl ?_
        refine g_iconst C dL_isSo_60 ?_
        refine g_istore C [(4, vi 0), (3, vi 0), (2, vi 1), (0, .ref (B 0)), (1, vi v)] dL_isSo_61 (by decide) rfl ?_
        have L63 : ∀ (f : Nat) (b9 : Int) (py : Int) (Xb : Nat → Int → Int) (kb : Nat) (nb : Nat), (0 ≤ b9 ∧ b9 ≤ 5 ∧ py = sm (fun b => oY S b) (mn b9 (S 40 0)) ∧ iv9 S Xb ∧ (kb : Int) ≤ 709 + 10 * b9 ∧ (nb : Int) ≤ 4254 + 60 * b9) → (5 - b9).toNat < f → gW g x (wP g B S Xb) kb nb [(4, vi b9), (3, vi py), (2, vi 1), (0, .ref (B 0)), (1, vi v)] 63 [] := by
          intro f
          induction f with
          | zero => intro b9 py Xb kb nb hI63 hf; exact absurd hf (Nat.not_lt_zero _)
          | succ f ih63 =>
            intro b9 py Xb kb nb hI63 hf63
            obtain ⟨hb0, hb1, hpy, hXb, hkb, hnb⟩ := hI63
            have hi := oI_r hI b9
            have hy := oY_r hI b9
            refine g_iload C 0 dL_isSo_63 rfl ?_
            refine g_iconst C dL_isSo_65 ?_
            refine g_icmp_ge C 184 dL_isSo_66 (by decide) (by omega) (by omega) (fun c66 => ?_) (fun c66 => ?_)
            · have hm5 : mn b9 (S 40 0) = (S 40 0) := by unfold mn; omega
              rw [hm5] at hpy
              refine g_iconst C dL_isSo_184 ?_
              refine g_istore C [(4, vi 0), (3, vi py), (2, vi 1), (0, .ref (B 0)), (1, vi v)] dL_isSo_185 (by decide) rfl ?_
              have L187 : ∀ (f : Nat) (l9 : Int) (Xc : Nat → Int → Int) (kc : Nat) (nc : Nat), (0 ≤ l9 ∧ l9 ≤ 5 ∧ iv9 S Xc ∧ (kc : Int) ≤ 759 + 6 * l9 ∧ (nc : Int) ≤ 4554 + 36 * l9) → (5 - l9).toNat < f → gW g x (wP g B S Xc) kc nc [(4, vi l9), (3, vi py), (2, vi 1), (0, .ref (B 0)), (1, vi v)] 187 [] := by
                intro f
                induction f with
                | zero => intro l9 Xc kc nc hI187 hf; exact absurd hf (Nat.not_lt_zero _)
                | succ f ih187 =>
                  intro l9 Xc kc nc hI187 hf187
                  obtain ⟨hl0, hl1, hXc, hkc, hnc⟩ := hI187
                  have hlo := lo9_r (sh9 v l9) (n := 99) (by decide)
                  refine g_iload C 0 dL_isSo_187 rfl ?_
                  refine g_iconst C dL_isSo_189 ?_
                  refine g_icmp_ge C 264 dL_isSo_190 (by decide) (by omega) (by omega) (fun c190 => ?_) (fun c190 => ?_)
                  · refine g_iload_n C 2 dL_isSo_264 rfl ?_
                    refine g_if_eq C 287 dL_isSo_265 (by decide) (by omega) (fun c265 => (by exfalso; omega)) (fun c265 => ?_)
                    refine g_aload_n C 3 dL_isSo_268 rfl ?_
                    refine g_callV C [] [] (p_basis x.1.2.1 hst9 g B S Xc  hXc) y_X9_basis l_L_166 isP (hCP _ _ _ _) ndP 0 rfl rfl rfl (Nat.le_of_ble_eq_true rfl) rfl (by omega) dL_isSo_269 (fun v9 w9 hp9 => ?_)
                    obtain ⟨hc269, X269, rfl, rfl, hI269⟩ := hp9
                    rw [puP]
                    show gW g x (wP g B S X269) kc nc [(4, vi l9), (3, vi py), (2, vi 1), (0, .ref (B 0)), (1, vi v)] 272 [vi (vR_basis S)]
                    refine g_iload_n C 1 dL_isSo_272 rfl ?_
                    refine g_aload_n C 3 dL_isSo_273 rfl ?_
                    refine g_bipush C dL_isSo_274 (by decide) ?_
                    refine g_callVX C hZ [vi 6] [vi py, vi (vR_basis S)] (p_sum x.1.2.1 hst9 g B S X269 6 hI269 (by omega)) y_X9_sum l_L_75 isP (hCP _ _ _ _) ndP 0 rfl rfl rfl (Nat.le_of_ble_eq_true rfl) rfl (by omega) dL_isSo_276 (fun v9 w9 hp9 => ?_) (fun E9 w9 hp9 => absurd (show vC_sum 6 S from (by unfold vC_sum; omega)) hp9.1)
                    obtain ⟨hc276, X276, rfl, rfl, hI276⟩ := hp9
                    rw [puP]
                    show gW g x (wP g B S X276) (kc + 1) (nc + 6) [(4, vi l9), (3, vi py), (2, vi 1), (0, .ref (B 0)), (1, vi v)] 279 [vi (vR_sum 6 S), vi py, vi (vR_basis S)]
                    refine g_isub C dL_isSo_279 ?_
                    refine g_val (w := vR_basis S) (by rw [basis_is, hpy]) ?_
                    refine g_icmpSn C 287 dL_isSo_280 (by decide) ?_
                    refine g_iconst C dL_isSo_283 ?_
                    refine g_goto C 288 dL_isSo_284 (by decide) ?_
                    refine g_widen (k' := 900) (n' := 5400) (by omega) (by omega) ?_
                    exact g_zret C hR dL_isSo_288 (by omega) ⟨trivial, X276, rfl, rfl, hI276⟩ rfl
                  refine g_iload_n C 2 dL_isSo_193 rfl ?_
                  refine g_if_eq C 264 dL_isSo_194 (by decide) (by omega) (fun c194 => (by exfalso; omega)) (fun c194 => ?_)
                  refine g_iconst C dL_isSo_197 ?_
                  refine g_istore C [(5, vi 0), (4, vi l9), (3, vi py), (2, vi 1), (0, .ref (B 0)), (1, vi v)] dL_isSo_198 (by decide) rfl ?_
                  have L200 : ∀ (f : Nat) (m9 : Int) (Xd : Nat → Int → Int) (kd : Nat) (nd : Nat), (0 ≤ m9 ∧ m9 ≤ 3 ∧ iv9 S Xd ∧ (kd : Int) ≤ 759 + 6 * l9 + 2 * m9 ∧ (nd : Int) ≤ 4554 + 36 * l9 + 12 * m9) → (3 - m9).toNat < f → gW g x (wP g B S Xd) kd nd [(5, vi m9), (4, vi l9), (3, vi py), (2, vi 1), (0, .ref (B 0)), (1, vi v)] 200 [] := by
                    intro f
                    induction f with
                    | zero => intro m9 Xd kd nd hI200 hf; exact absurd hf (Nat.not_lt_zero _)
                    | succ f ih200 =>
                      intro m9 Xd kd nd hI200 hf200
                      obtain ⟨hm0, hm1, hXd, hkd, hnd⟩ := hI200
                      have htm := tail_mono hI l9 m9 (u := lo9 (sh9 v l9) 99) hlo.1 (by omega)
                      refine g_iload C 0 dL_isSo_200 rfl ?_
                      refine g_iconst C dL_isSo_202 ?_
                      refine g_icmp_ge C 258 dL_isSo_203 (by decide) (by omega) (by omega) (fun c203 => ?_) (fun c203 => ?_)
                      · refine g_iinc C 1 [(4, vi (l9 + 1)), (5, vi m9), (3, vi py), (2, vi 1), (0, .ref (B 0)), (1, vi v)] dL_isSo_258 rfl (by decide) rfl ?_
                        refine g_goto C 187 dL_isSo_261 (by decide) ?_
                        refine g_lv [(4, vi (l9 + 1)), (3, vi py), (2, vi 1), (0, .ref (B 0)), (1, vi v)] [0, 2, 3, 4, 5] rfl ?_
                        exact ih187 (l9 + 1) Xd kd nd ⟨by omega, by omega, hXd, by omega, by omega⟩ (by omega)
                      refine g_iload_n C 5 dL_isSo_206 rfl ?_
                      refine g_iload C 1 dL_isSo_207 rfl ?_
                      refine g_ishrY C dL_isSo_209 ?_
                      refine g_bipush C dL_isSo_210 (by decide) ?_
                      refine g_callSp C [vi (sh9 v l9), vi 99] [] (c_L_low x.1.2.1 g (sh9 v l9) 99 (by omega)) y_L_low l_L_103 [] rfl (by decide) rfl (Nat.le_of_ble_eq_true rfl) rfl (by omega) dL_isSo_212 ?_
                      refine g_istore C [(6, vi (lo9 (sh9 v l9) 99)), (5, vi m9), (4, vi l9), (3, vi py), (2, vi 1), (0, .ref (B 0)), (1, vi v)] dL_isSo_215 (by decide) rfl ?_
                      refine g_iload_n C 4 dL_isSo_217 rfl ?_
                      refine g_if_eq C 250 dL_isSo_218 (by decide) (by omega) (fun c218 => (by exfalso; omega)) (fun c218 => ?_)
                      refine g_aload_n C 5 dL_isSo_221 rfl ?_
                      refine g_iload C 2 dL_isSo_222 rfl ?_
                      refine g_iload C 1 dL_isSo_224 rfl ?_
                      refine g_iload C 0 dL_isSo_226 rfl ?_
                      refine g_iconst C dL_isSo_228 ?_
                      refine g_iadd C dL_isSo_229 ?_
                      refine g_callSZ C hZ [.ref (B 0), vi l9, vi m9, vi ((lo9 (sh9 v l9) 99) + 1)] [] (q_tail x.1.2.1 hst9 g B S Xd l9 m9 ((lo9 (sh9 v l9) 99) + 1) hXd (by omega) (by omega) (by omega)) y_L_tail l_L_172 isP (hCP _ _ _ _) ndP rfl (Nat.le_of_ble_eq_true rfl) rfl (by omega) dL_isSo_230 (fun v9 w9 hp9 => ?_)
                      obtain ⟨hc230, X230, rfl, rfl, hI230⟩ := hp9
                      rw [puP]
                      show gW g x (wP g B S X230) (kd + 1) (nd + 6) [(6, vi (lo9 (sh9 v l9) 99)), (5, vi m9), (4, vi l9), (3, vi py), (2, vi 1), (0, .ref (B 0)), (1, vi v)] 233 [vi (aR_tail l9 m9 ((lo9 (sh9 v l9) 99) + 1) S)]
                      refine g_aload_n C 5 dL_isSo_233 rfl ?_
                      refine g_iload C 2 dL_isSo_234 rfl ?_
                      refine g_iload C 1 dL_isSo_236 rfl ?_
                      refine g_iload C 0 dL_isSo_238 rfl ?_
                      refine g_callSZ C hZ [.ref (B 0), vi l9, vi m9, vi (lo9 (sh9 v l9) 99)] [vi (aR_tail l9 m9 ((lo9 (sh9 v l9) 99) + 1) S)] (q_tail x.1.2.1 hst9 g B S X230 l9 m9 (lo9 (sh9 v l9) 99) hI230 (by omega) (by omega) (by omega)) y_L_tail l_L_172 isP (hCP _ _ _ _) ndP rfl (Nat.le_of_ble_eq_true rfl) rfl (by omega) dL_isSo_240 (fun v9 w9 hp9 => ?_)
                      obtain ⟨hc240, X240, rfl, rfl, hI240⟩ := hp9
                      rw [puP]
                      show gW g x (wP g B S X240) (kd + 2) (nd + 12) [(6, vi (lo9 (sh9 v l9) 99)), (5, vi m9), (4, vi l9), (3, vi py), (2, vi 1), (0, .ref (B 0)), (1, vi v)] 243 [vi (aR_tail l9 m9 (lo9 (sh9 v l9) 99) S), vi (aR_tail l9 m9 ((lo9 (sh9 v l9) 99) + 1) S)]
                      refine g_icmp_gt C 250 dL_isSo_243 (by decide) (by omega) (by omega) (fun c243 => absurd c243 (by omega)) (fun c243 => ?_)
                      refine g_iconst C dL_isSo_246 ?_
                      refine g_goto C 251 dL_isSo_247 (by decide) ?_
                      refine g_istore_n C [(2, vi 1), (6, vi (lo9 (sh9 v l9) 99)), (5, vi m9), (4, vi l9), (3, vi py), (0, .ref (B 0)), (1, vi v)] dL_isSo_251 (by decide) rfl ?_
                      refine g_iinc C 2 [(5, vi (m9 + 1)), (2, vi 1), (6, vi (lo9 (sh9 v l9) 99)), (4, vi l9), (3, vi py), (0, .ref (B 0)), (1, vi v)] dL_isSo_252 rfl (by decide) rfl ?_
                      refine g_goto C 200 dL_isSo_255 (by decide) ?_
                      refine g_lv [(5, vi (m9 + 1)), (4, vi l9), (3, vi py), (2, vi 1), (0, .ref (B 0)), (1, vi v)] [0, 3, 4, 1, 5, 6] rfl ?_
                      exact ih200 (m9 + 1) X240 (kd + 2) (nd + 12) ⟨by omega, by omega, hI240, by omega, by omega⟩ (by omega)
                  exact L200 _ 0 Xc kc nc ⟨by omega, by omega, hXc, by omega, by omega⟩ (Nat.lt_succ_self _)
              exact L187 _ 0 Xb kb nb ⟨by omega, by omega, hXb, by omega, by omega⟩ (Nat.lt_succ_self _)
            refine g_iload_n C 2 dL_isSo_69 rfl ?_
            refine g_if_eq C 184 dL_isSo_70 (by decide) (by omega) (fun c70 => (by exfalso; omega)) (fun c70 => ?_)
            refine g_aload_n C 3 dL_isSo_73 rfl ?_
            refine g_iload C 0 dL_isSo_74 rfl ?_
            refine g_iconst C dL_isSo_76 ?_
            refine g_callSZ C hZ [.ref (B 0), vi b9, vi 0] [] (q_ofBond x.1.2.1 hst9 g B S Xb b9 0 hXb (by omega) (by omega)) y_L_ofBond l_L_164 isP (hCP _ _ _ _) ndP rfl (Nat.le_of_ble_eq_true rfl) rfl (by omega) dL_isSo_77 (fun v9 w9 hp9 => ?_)
            obtain ⟨hc77, X77, rfl, rfl, hI77⟩ := hp9
            rw [puP]
            show gW g x (wP g B S X77) (kb + 1) (nb + 6) [(4, vi b9), (3, vi py), (2, vi 1), (0, .ref (B 0)), (1, vi v)] 80 [vi (aR_ofBond b9 0 S)]
            refine g_istore C [(5, vi (aR_ofBond b9 0 S)), (4, vi b9), (3, vi py), (2, vi 1), (0, .ref (B 0)), (1, vi v)] dL_isSo_80 (by decide) rfl ?_
            refine g_iload C 0 dL_isSo_82 rfl ?_
            refine g_val (w := if b9 < (S 40 0) then oI S b9 else -2000000000) (bond_at hI hb0) ?_
            refine g_if_lt C 178 dL_isSo_84 (by decide) (by omega) (fun c84 => ?_) (fun c84 => ?_)
            · refine g_iinc C 1 [(4, vi (b9 + 1)), (5, vi (aR_ofBond b9 0 S)), (3, vi py), (2, vi 1), (0, .ref (B 0)), (1, vi v)] dL_isSo_178 rfl (by decide) rfl ?_
              refine g_goto C 63 dL_isSo_181 (by decide) ?_
              refine g_lv [(4, vi (b9 + 1)), (3, vi py), (2, vi 1), (0, .ref (B 0)), (1, vi v)] [0, 2, 3, 4, 5] rfl ?_
              exact ih63 (b9 + 1) py X77 (kb + 1) (nb + 6) (by first | exact ⟨by omega, by omega, (by have h := sm_mn (fun b => oY S b) hb0 hbl; rw [← hpy] at h; rw [ofBond_1]; exact h.symm), hI166, by omega, by omega⟩ | exact ⟨by omega, by omega, (by rw [sm_mg (fun b => oY S b) (by omega)]; exact hpy), hI77, by omega, by omega⟩) (by omega)
            have hbl : b9 < (S 40 0) := by omega
            have ht := oT_1 hI b9 hb0 hbl
            refine g_aload_n C 4 dL_isSo_87 rfl ?_
            refine g_iload C 1 dL_isSo_88 rfl ?_
            refine g_iconst C dL_isSo_90 ?_
            refine g_callVX C hZ [vi b9, vi 3] [] (p_ofBond x.1.2.1 hst9 g B S X77 b9 3 hI77 (by omega) (by omega)) y_X9_ofBond l_L_87 isP (hCP _ _ _ _) ndP 0 rfl rfl rfl (Nat.le_of_ble_eq_true rfl) rfl (by omega) dL_isSo_91 (fun v9 w9 hp9 => ?_) (fun E9 w9 hp9 => absurd (show vC_ofBond b9 3 S from (by unfold vC_ofBond; omega)) hp9.1)
            obtain ⟨hc91, X91, rfl, rfl, hI91⟩ := hp9
            rw [puP]
            show gW g x (wP g B S X91) (kb + 2) (nb + 12) [(5, vi (aR_ofBond b9 0 S)), (4, vi b9), (3, vi py), (2, vi 1), (0, .ref (B 0)), (1, vi v)] 94 [vi (vR_ofBond b9 3 S)]
            refine g_aload_n C 4 dL_isSo_94 rfl ?_
            refine g_iload C 1 dL_isSo_95 rfl ?_
            refine g_iconst C dL_isSo_97 ?_
            refine g_callVX C hZ [vi b9, vi 4] [vi (vR_ofBond b9 3 S)] (p_ofBond x.1.2.1 hst9 g B S X91 b9 4 hI91 (by omega) (by omega)) y_X9_ofBond l_L_87 isP (hCP _ _ _ _) ndP 0 rfl rfl rfl (Nat.le_of_ble_eq_true rfl) rfl (by omega) dL_isSo_98 (fun v9 w9 hp9 => ?_) (fun E9 w9 hp9 => absurd (show vC_ofBond b9 4 S from (by unfold vC_ofBond; omega)) hp9.1)
            obtain ⟨hc98, X98, rfl, rfl, hI98⟩ := hp9
            rw [puP]
            show gW g x (wP g B S X98) (kb + 3) (nb + 18) [(5, vi (aR_ofBond b9 0 S)), (4, vi b9), (3, vi py), (2, vi 1), (0, .ref (B 0)), (1, vi v)] 101 [vi (vR_ofBond b9 4 S), vi (vR_ofBond b9 3 S)]
            refine g_iadd C dL_isSo_101 ?_
            refine g_istore C [(6, vi ((vR_ofBond b9 3 S) + (vR_ofBond b9 4 S))), (5, vi (aR_ofBond b9 0 S)), (4, vi b9), (3, vi py), (2, vi 1), (0, .ref (B 0)), (1, vi v)] dL_isSo_102 (by decide) rfl ?_
            refine g_iload_n C 3 dL_isSo_104 rfl ?_
            refine g_aload_n C 5 dL_isSo_105 rfl ?_
            refine g_iload C 2 dL_isSo_106 rfl ?_
            refine g_iconst C dL_isSo_108 ?_
            refine g_callVX C hZ [vi b9, vi 1] [vi py] (p_ofBond x.1.2.1 hst9 g B S X98 b9 1 hI98 (by omega) (by omega)) y_X9_ofBond l_L_87 isP (hCP _ _ _ _) ndP 0 rfl rfl rfl (Nat.le_of_ble_eq_true rfl) rfl (by omega) dL_isSo_109 (fun v9 w9 hp9 => ?_) (fun E9 w9 hp9 => absurd (show vC_ofBond b9 1 S from (by unfold vC_ofBond; omega)) hp9.1)
            obtain ⟨hc109, X109, rfl, rfl, hI109⟩ := hp9
            rw [puP]
            show gW g x (wP g B S X109) (kb + 4) (nb + 24) [(6, vi ((vR_ofBond b9 3 S) + (vR_ofBond b9 4 S))), (5, vi (aR_ofBond b9 0 S)), (4, vi b9), (3, vi py), (2, vi 1), (0, .ref (B 0)), (1, vi v)] 112 [vi (vR_ofBond b9 1 S), vi py]
            refine g_iadd C dL_isSo_112 ?_
            refine g_istore_n C [(3, vi (py + (vR_ofBond b9 1 S))), (6, vi ((vR_ofBond b9 3 S) + (vR_ofBond b9 4 S))), (5, vi (aR_ofBond b9 0 S)), (4, vi b9), (2, vi 1), (0, .ref (B 0)), (1, vi v)] dL_isSo_113 (by decide) rfl ?_
            refine g_iload C 2 dL_isSo_114 rfl ?_
            refine g_val (w := oI S b9) (by rw [bond_at hI hb0, if_pos hbl]) ?_
            refine g_bipush C dL_isSo_116 (by decide) ?_
            refine g_icmp_ge C 176 dL_isSo_118 (by decide) (by omega) (by omega) (fun c118 => absurd c118 (by omega)) (fun c118 => ?_)
            refine g_aload_n C 5 dL_isSo_121 rfl ?_
            refine g_iload C 3 dL_isSo_122 rfl ?_
            refine g_iconst C dL_isSo_124 ?_
            refine g_callVX C hZ [vi b9, vi 2] [] (p_ofBond x.1.2.1 hst9 g B S X109 b9 2 hI109 (by omega) (by omega)) y_X9_ofBond l_L_87 isP (hCP _ _ _ _) ndP 0 rfl rfl rfl (Nat.le_of_ble_eq_true rfl) rfl (by omega) dL_isSo_125 (fun v9 w9 hp9 => ?_) (fun E9 w9 hp9 => absurd (show vC_ofBond b9 2 S from (by unfold vC_ofBond; omega)) hp9.1)
            obtain ⟨hc125, X125, rfl, rfl, hI125⟩ := hp9
            rw [puP]
            show gW g x (wP g B S X125) (kb + 5) (nb + 30) [(3, vi (py + (vR_ofBond b9 1 S))), (6, vi ((vR_ofBond b9 3 S) + (vR_ofBond b9 4 S))), (5, vi (aR_ofBond b9 0 S)), (4, vi b9), (2, vi 1), (0, .ref (B 0)), (1, vi v)] 128 [vi (vR_ofBond b9 2 S)]
            refine g_val (w := if (S 33 0) ≤ S 29 b9 then 1 else 0) (ofBond_2 b9 S) ?_
            refine g_iconst C dL_isSo_128 ?_
            refine g_icmp_ne C 140 dL_isSo_129 (by decide) (by omega) (by omega) (fun c129 => ?_) (fun c129 => ?_)
            · refine g_iload C 1 dL_isSo_140 rfl ?_
              refine g_val (w := S 22 b9) (by rw [ofBond_3, ofBond_4]; omega) ?_
              refine g_if_le C 176 dL_isSo_142 (by decide) (by omega) (fun c142 => absurd c142 (by omega)) (fun c142 => ?_)
              refine g_aload_n C 5 dL_isSo_145 rfl ?_
              refine g_iload C 3 dL_isSo_146 rfl ?_
              refine g_iconst C dL_isSo_148 ?_
              refine g_callVX C hZ [vi b9, vi 3] [] (p_ofBond x.1.2.1 hst9 g B S X125 b9 3 hI125 (by omega) (by omega)) y_X9_ofBond l_L_87 isP (hCP _ _ _ _) ndP 0 rfl rfl rfl (Nat.le_of_ble_eq_true rfl) rfl (by omega) dL_isSo_149 (fun v9 w9 hp9 => ?_) (fun E9 w9 hp9 => absurd (show vC_ofBond b9 3 S from (by unfold vC_ofBond; omega)) hp9.1)
              obtain ⟨hc149, X149, rfl, rfl, hI149⟩ := hp9
              rw [puP]
              show gW g x (wP g B S X149) (kb + 6) (nb + 36) [(3, vi (py + (vR_ofBond b9 1 S))), (6, vi ((vR_ofBond b9 3 S) + (vR_ofBond b9 4 S))), (5, vi (aR_ofBond b9 0 S)), (4, vi b9), (2, vi 1), (0, .ref (B 0)), (1, vi v)] 152 [vi (vR_ofBond b9 3 S)]
              refine g_aload_n C 5 dL_isSo_152 rfl ?_
              refine g_iload C 3 dL_isSo_153 rfl ?_
              refine g_iconst C dL_isSo_155 ?_
              refine g_callVX C hZ [vi b9, vi 1] [vi (vR_ofBond b9 3 S)] (p_ofBond x.1.2.1 hst9 g B S X149 b9 1 hI149 (by omega) (by omega)) y_X9_ofBond l_L_87 isP (hCP _ _ _ _) ndP 0 rfl rfl rfl (Nat.le_of_ble_eq_true rfl) rfl (by omega) dL_isSo_156 (fun v9 w9 hp9 => ?_) (fun E9 w9 hp9 => absurd (show vC_ofBond b9 1 S from (by unfold vC_ofBond; omega)) hp9.1)
              obtain ⟨hc156, X156, rfl, rfl, hI156⟩ := hp9
              rw [puP]
              show gW g x (wP g B S X156) (kb + 7) (nb + 42) [(3, vi (py + (vR_ofBond b9 1 S))), (6, vi ((vR_ofBond b9 3 S) + (vR_ofBond b9 4 S))), (5, vi (aR_ofBond b9 0 S)), (4, vi b9), (2, vi 1), (0, .ref (B 0)), (1, vi v)] 159 [vi (vR_ofBond b9 1 S), vi (vR_ofBond b9 3 S)]
              refine g_val (w := vR_ofBond b9 3 S) (by rw [ofBond_1, ofBond_3]; omega) ?_
              refine g_icmpSn C 176 dL_isSo_159 (by decide) ?_
              refine g_aload_n C 5 dL_isSo_162 rfl ?_
              refine g_iload C 3 dL_isSo_163 rfl ?_
              refine g_iconst C dL_isSo_165 ?_
              refine g_callVX C hZ [vi b9, vi 1] [] (p_ofBond x.1.2.1 hst9 g B S X156 b9 1 hI156 (by omega) (by omega)) y_X9_ofBond l_L_87 isP (hCP _ _ _ _) ndP 0 rfl rfl rfl (Nat.le_of_ble_eq_true rfl) rfl (by omega) dL_isSo_166 (fun v9 w9 hp9 => ?_) (fun E9 w9 hp9 => absurd (show vC_ofBond b9 1 S from (by unfold vC_ofBond; omega)) hp9.1)
              obtain ⟨hc166, X166, rfl, rfl, hI166⟩ := hp9
              rw [puP]
              show gW g x (wP g B S X166) (kb + 8) (nb + 48) [(3, vi (py + (vR_ofBond b9 1 S))), (6, vi ((vR_ofBond b9 3 S) + (vR_ofBond b9 4 S))), (5, vi (aR_ofBond b9 0 S)), (4, vi b9), (2, vi 1), (0, .ref (B 0)), (1, vi v)] 169 [vi (vR_ofBond b9 1 S)]
              refine g_val (w := oY S b9) (ofBond_1 b9 S) ?_
              refine g_if_lt C 176 dL_isSo_169 (by decide) (by omega) (fun c169 => absurd c169 (by omega)) (fun c169 => ?_)
              refine g_iconst C dL_isSo_172 ?_
              refine g_goto C 177 dL_isSo_173 (by decide) ?_
              refine g_istore_n C [(2, vi 1), (3, vi (py + (vR_ofBond b9 1 S))), (6, vi ((vR_ofBond b9 3 S) + (vR_ofBond b9 4 S))), (5, vi (aR_ofBond b9 0 S)), (4, vi b9), (0, .ref (B 0)), (1, vi v)] dL_isSo_177 (by decide) rfl ?_
              refine g_iinc C 4 [(4, vi (b9 + 1)), (2, vi 1), (3, vi (py + (vR_ofBond b9 1 S))), (6, vi ((vR_ofBond b9 3 S) + (vR_ofBond b9 4 S))), (5, vi (aR_ofBond b9 0 S)), (0, .ref (B 0)), (1, vi v)] dL_isSo_178 rfl (by decide) rfl ?_
              refine g_goto C 63 dL_isSo_181 (by decide) ?_
              refine g_lv [(4, vi (b9 + 1)), (3, vi (py + (vR_ofBond b9 1 S))), (2, vi 1), (0, .ref (B 0)), (1, vi v)] [0, 2, 1, 5, 6] rfl ?_
              exact ih63 (b9 + 1) (py + (vR_ofBond b9 1 S)) X166 (kb + 8) (nb + 48) (by first | exact ⟨by omega, by omega, (by have h := sm_mn (fun b => oY S b) hb0 hbl; rw [← hpy] at h; rw [ofBond_1]; exact h.symm), hI166, by omega, by omega⟩ | exact ⟨by omega, by omega, (by rw [sm_mg (fun b => oY S b) (by omega)]; exact hpy), hI77, by omega, by omega⟩) (by omega)
            refine g_iload C 1 dL_isSo_132 rfl ?_
            refine g_val (w := 0) (by rw [ofBond_3, ofBond_4]; omega) ?_
            refine g_if_ne C 176 dL_isSo_134 (by decide) (by omega) (fun c134 => (by exfalso; omega)) (fun c134 => ?_)
            refine g_goto C 162 dL_isSo_137 (by decide) ?_
            refine g_aload_n C 5 dL_isSo_162 rfl ?_
            refine g_iload C 3 dL_isSo_163 rfl ?_
            refine g_iconst C dL_isSo_165 ?_
            refine g_callVX C hZ [vi b9, vi 1] [] (p_ofBond x.1.2.1 hst9 g B S X125 b9 1 hI125 (by omega) (by omega)) y_X9_ofBond l_L_87 isP (hCP _ _ _ _) ndP 0 rfl rfl rfl (Nat.le_of_ble_eq_true rfl) rfl (by omega) dL_isSo_166 (fun v9 w9 hp9 => ?_) (fun E9 w9 hp9 => absurd (show vC_ofBond b9 1 S from (by unfold vC_ofBond; omega)) hp9.1)
            obtain ⟨hc166, X166, rfl, rfl, hI166⟩ := hp9
            rw [puP]
            show gW g x (wP g B S X166) (kb + 6) (nb + 36) [(3, vi (py + (vR_ofBond b9 1 S))), (6, vi ((vR_ofBond b9 3 S) + (vR_ofBond b9 4 S))), (5, vi (aR_ofBond b9 0 S)), (4, vi b9), (2, vi 1), (0, .ref (B 0)), (1, vi v)] 169 [vi (vR_ofBond b9 1 S)]
            refine g_val (w := oY S b9) (ofBond_1 b9 S) ?_
            refine g_if_lt C 176 dL_isSo_169 (by decide) (by omega) (fun c169 => absurd c169 (by omega)) (fun c169 => ?_)
            refine g_iconst C dL_isSo_172 ?_
            refine g_goto C 177 dL_isSo_173 (by decide) ?_
            refine g_istore_n C [(2, vi 1), (3, vi (py + (vR_ofBond b9 1 S))), (6, vi ((vR_ofBond b9 3 S) + (vR_ofBond b9 4 S))), (5, vi (aR_ofBond b9 0 S)), (4, vi b9), (0, .ref (B 0)), (1, vi v)] dL_isSo_177 (by decide) rfl ?_
            refine g_iinc C 4 [(4, vi (b9 + 1)), (2, vi 1), (3, vi (py + (vR_ofBond b9 1 S))), (6, vi ((vR_ofBond b9 3 S) + (vR_ofBond b9 4 S))), (5, vi (aR_ofBond b9 0 S)), (0, .ref (B 0)), (1, vi v)] dL_isSo_178 rfl (by decide) rfl ?_
            refine g_goto C 63 dL_isSo_181 (by decide) ?_
            refine g_lv [(4, vi (b9 + 1)), (3, vi (py + (vR_ofBond b9 1 S))), (2, vi 1), (0, .ref (B 0)), (1, vi v)] [0, 2, 1, 5, 6] rfl ?_
            exact ih63 (b9 + 1) (py + (vR_ofBond b9 1 S)) X166 (kb + 6) (nb + 36) (by first | exact ⟨by omega, by omega, (by have h := sm_mn (fun b => oY S b) hb0 hbl; rw [← hpy] at h; rw [ofBond_1]; exact h.symm), hI166, by omega, by omega⟩ | exact ⟨by omega, by omega, (by rw [sm_mg (fun b => oY S b) (by omega)]; exact hpy), hI77, by omega, by omega⟩) (by omega)
        exact L63 _ 0 0 Xa k9 n9 ⟨by omega, by omega, by rw [mn_0 hnB.1]; rfl, hXa, by omega, by omega⟩ (Nat.lt_succ_self _)
      refine g_iload_n C 1 dL_isSo_12 rfl ?_
      refine g_if_eq C 58 dL_isSo_13 (by decide) (by omega) (fun c13 => (by exfalso; omega)) (fun c13 => ?_)
      refine g_aload_n C 2 dL_isSo_16 rfl ?_
      refine g_iload_n C 0 dL_isSo_17 rfl ?_
      refine g_callSZ C hZ [.ref (B 0), vi p9] [] (q_bestAnew x.1.2.1 hst9 g B S Xa p9 hXa (by omega)) y_L_bestAnew l_L_159 isP (hCP _ _ _ _) ndP rfl (Nat.le_of_ble_eq_true rfl) rfl (by omega) dL_isSo_18 (fun v9 w9 hp9 => ?_)
      obtain ⟨hc18, X18, rfl, rfl, hI18⟩ := hp9
      rw [puP]
      show gW g x (wP g B S X18) (k9 + 1) (n9 + 6) [(3, vi p9), (2, vi 1), (0, .ref (B 0)), (1, vi v)] 21 [vi (aR_bestAnew p9 S)]
      refine g_istore C [(4, vi (aR_bestAnew p9 S)), (3, vi p9), (2, vi 1), (0, .ref (B 0)), (1, vi v)] dL_isSo_21 (by decide) rfl ?_
      refine g_aload_n C 3 dL_isSo_23 rfl ?_
      refine g_iload_n C 1 dL_isSo_24 rfl ?_
      refine g_callVX C hZ [vi p9] [] (p_best x.1.2.1 hst9 g B S X18 p9 hI18 (by omega)) y_X9_best l_L_81 isP (hCP _ _ _ _) ndP 0 rfl rfl rfl (Nat.le_of_ble_eq_true rfl) rfl (by omega) dL_isSo_25 (fun v9 w9 hp9 => ?_) (fun E9 w9 hp9 => absurd (show vC_best p9 S from (by unfold vC_best; omega)) hp9.1)
      obtain ⟨hc25, X25, rfl, rfl, hI25⟩ := hp9
      rw [puP]
      show gW g x (wP g B S X25) (k9 + 2) (n9 + 12) [(4, vi (aR_bestAnew p9 S)), (3, vi p9), (2, vi 1), (0, .ref (B 0)), (1, vi v)] 28 [vi (vR_best p9 S)]
      have hb1 := hc25.2.1
      have hb2 := hc25.2.2
      refine g_if_lt C 50 dL_isSo_28 (by decide) (by omega) (fun c28 => absurd c28 (by omega)) (fun c28 => ?_)
      refine g_iload C 0 dL_isSo_31 rfl ?_
      refine g_if_lt C 46 dL_isSo_33 (by decide) (by omega) (fun c33 => ?_) (fun c33 => ?_)
      · refine g_iconst C dL_isSo_46 ?_
        refine g_goto C 51 dL_isSo_47 (by decide) ?_
        refine g_istore_n C [(2, vi 1), (4, vi (aR_bestAnew p9 S)), (3, vi p9), (0, .ref (B 0)), (1, vi v)] dL_isSo_51 (by decide) rfl ?_
        refine g_iinc C 2 [(3, vi (p9 + 1)), (2, vi 1), (4, vi (aR_bestAnew p9 S)), (0, .ref (B 0)), (1, vi v)] dL_isSo_52 rfl (by decide) rfl ?_
        refine g_goto C 7 dL_isSo_55 (by decide) ?_
        refine g_lv [(3, vi (p9 + 1)), (2, vi 1), (0, .ref (B 0)), (1, vi v)] [0, 1, 3, 4] rfl ?_
        exact ih7 (p9 + 1) X25 (k9 + 2) (n9 + 12) (by first | exact ⟨by omega, by omega, hI25, by omega, by omega⟩ | exact ⟨by omega, by omega, hI40, by omega, by omega⟩) (by omega)
      refine g_iload C 0 dL_isSo_36 rfl ?_
      refine g_aload_n C 3 dL_isSo_38 rfl ?_
      refine g_iload_n C 1 dL_isSo_39 rfl ?_
      refine g_callVX C hZ [vi p9] [vi (aR_bestAnew p9 S)] (p_best x.1.2.1 hst9 g B S X25 p9 hI25 (by omega)) y_X9_best l_L_81 isP (hCP _ _ _ _) ndP 0 rfl rfl rfl (Nat.le_of_ble_eq_true rfl) rfl (by omega) dL_isSo_40 (fun v9 w9 hp9 => ?_) (fun E9 w9 hp9 => absurd (show vC_best p9 S from (by unfold vC_best; omega)) hp9.1)
      obtain ⟨hc40, X40, rfl, rfl, hI40⟩ := hp9
      rw [puP]
      show gW g x (wP g B S X40) (k9 + 3) (n9 + 18) [(4, vi (aR_bestAnew p9 S)), (3, vi p9), (2, vi 1), (0, .ref (B 0)), (1, vi v)] 43 [vi (vR_best p9 S), vi (aR_bestAnew p9 S)]
      refine g_val (w := aR_bestAnew p9 S) (by omega) ?_
      refine g_icmpSn C 50 dL_isSo_43 (by decide) ?_
      refine g_iconst C dL_isSo_46 ?_
      refine g_goto C 51 dL_isSo_47 (by decide) ?_
      refine g_istore_n C [(2, vi 1), (4, vi (aR_bestAnew p9 S)), (3, vi p9), (0, .ref (B 0)), (1, vi v)] dL_isSo_51 (by decide) rfl ?_
      refine g_iinc C 2 [(3, vi (p9 + 1)), (2, vi 1), (4, vi (aR_bestAnew p9 S)), (0, .ref (B 0)), (1, vi v)] dL_isSo_52 rfl (by decide) rfl ?_
      refine g_goto C 7 dL_isSo_55 (by decide) ?_
      refine g_lv [(3, vi (p9 + 1)), (2, vi 1), (0, .ref (B 0)), (1, vi v)] [0, 1, 3, 4] rfl ?_
      exact ih7 (p9 + 1) X40 (k9 + 3) (n9 + 18) (by first | exact ⟨by omega, by omega, hI25, by omega, by omega⟩ | exact ⟨by omega, by omega, hI40, by omega, by omega⟩) (by omega)
  exact L7 _ 0 X1 700 4200 ⟨by omega, by omega, hI1, by omega, by omega⟩ (Nat.lt_succ_self _)

