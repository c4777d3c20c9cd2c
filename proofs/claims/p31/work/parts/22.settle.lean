/-! rows filled place by place -/
def scN (F ix v : Int → Int) : Nat → Int → Int
  | 0 => F
  | n + 1 => up (scN F ix v n) (ix n) (v n)
def scat (F ix v : Int → Int) (n : Int) : Int → Int := scN F ix v n.toNat
theorem scat_s (F ix v : Int → Int) {i : Int} (h : 0 ≤ i) : scat F ix v (i + 1) = up (scat F ix v i) (ix i) (v i) := by
  obtain ⟨k, rfl⟩ : ∃ k : Nat, i = k := ⟨i.toNat, by omega⟩
  have e : ((k : Int) + 1).toNat = k + 1 := by omega
  have e2 : (k : Int).toNat = k := by omega
  simp only [scat, e, e2, scN]
def sdN (F ix v : Int → Int) : Nat → Int → Int
  | 0 => F
  | n + 1 => up (sdN F ix v n) (ix n) (sdN F ix v n (ix n) + v n)
def scad (F ix v : Int → Int) (n : Int) : Int → Int := sdN F ix v n.toNat
theorem scad_s (F ix v : Int → Int) {i : Int} (h : 0 ≤ i) : scad F ix v (i + 1) = up (scad F ix v i) (ix i) (scad F ix v i (ix i) + v i) := by
  obtain ⟨k, rfl⟩ : ∃ k : Nat, i = k := ⟨i.toNat, by omega⟩
  have e : ((k : Int) + 1).toNat = k + 1 := by omega
  have e2 : (k : Int).toNat = k := by omega
  simp only [scad, e, e2, sdN]
theorem cpy_s (f G : Int → Int) {i : Int} (h : 0 ≤ i) : cpy f G (i + 1) = up (cpy f G i) i (f i) := by
  funext j
  simp only [cpy, up]
  by_cases e : j = i
  · subst e; rw [if_pos (by omega), if_pos rfl]
  · rw [if_neg e]
    by_cases q : 0 ≤ j ∧ j < i
    · rw [if_pos (by omega), if_pos q]
    · rw [if_neg (by omega), if_neg q]
theorem cpy_0 (f G : Int → Int) : cpy f G 0 = G := by
  funext j; simp only [cpy]; rw [if_neg (by omega)]
theorem cpy_in {f G : Int → Int} {n j : Int} (h : 0 ≤ j ∧ j < n) : cpy f G n j = f j := if_pos h
theorem scat_out {F ix v : Int → Int} {n : Int} (hn : 0 ≤ n) {z : Int} (h : ∀ b, 0 ≤ b → b < n → ix b ≠ z) : scat F ix v n z = F z := by
  have := sm_ind (P := fun m => m ≤ n → scat F ix v m z = F z) (fun _ => rfl) (fun i hi ih hm => by rw [scat_s _ _ _ hi, up_n (Ne.symm (h i hi (by omega))), ih (by omega)]) n hn
  exact this (Int.le_refl _)
theorem scat_in {F ix v : Int → Int} {n : Int} (hn : 0 ≤ n) (inj : ∀ a b, 0 ≤ a → a < n → 0 ≤ b → b < n → ix a = ix b → a = b) {b : Int} (h0 : 0 ≤ b) (h1 : b < n) : scat F ix v n (ix b) = v b := by
  have := sm_ind (P := fun m => m ≤ n → b < m → scat F ix v m (ix b) = v b) (fun _ h => by omega) (fun i hi ih hm hb => by
    rw [scat_s _ _ _ hi]
    by_cases e : b = i
    · subst e; exact up_s
    · rw [up_n (fun q => e (inj b i h0 (by omega) hi (by omega) q)), ih (by omega) (by omega)]) n hn
  exact this (Int.le_refl _) h1
theorem scad_in {F ix v : Int → Int} {n : Int} (hn : 0 ≤ n) (inj : ∀ a b, 0 ≤ a → a < n → 0 ≤ b → b < n → ix a = ix b → a = b) {b : Int} (h0 : 0 ≤ b) (h1 : b < n) : scad F ix v n (ix b) = F (ix b) + v b := by
  have := sm_ind (P := fun m => m ≤ n → (m ≤ b → scad F ix v m (ix b) = F (ix b)) ∧ (b < m → scad F ix v m (ix b) = F (ix b) + v b)) (fun _ => ⟨fun _ => rfl, fun h => by omega⟩) (fun i hi ih hm => by
    rw [scad_s _ _ _ hi]
    have ih := ih (by omega)
    by_cases e : b = i
    · subst e; refine ⟨fun q => by omega, fun _ => ?_⟩; rw [up_s, ih.1 (Int.le_refl _)]
    · have ne := fun q => e (inj b i h0 (by omega) hi (by omega) q)
      refine ⟨fun q => ?_, fun q => ?_⟩
      · rw [up_n ne]; exact ih.1 (by omega)
      · rw [up_n ne]; exact ih.2 (by omega)) n hn
  exact (this (Int.le_refl _)).2 h1
/-! a layer's way through the windows, place by place -/
def mn (a b : Int) : Int := if b < a then b else a
def stl (FL DP RE : Int → Int) (y : Int) (net : Int → Int) : Nat → Int × Int
  | 0 => (cap DP RE y, DP y * RE y)
  | n + 1 => ((stl FL DP RE y net n).1 - mn (fhit FL DP y (net n)) (stl FL DP RE y net n).1, (stl FL DP RE y net n).2 - mn (mn (fhit FL DP y (net n)) (stl FL DP RE y net n).1) (stl FL DP RE y net n).2)
def lf (FL DP RE : Int → Int) (y : Int) (net : Int → Int) (a : Int) : Int := (stl FL DP RE y net a.toNat).1
def rs (FL DP RE : Int → Int) (y : Int) (net : Int → Int) (a : Int) : Int := (stl FL DP RE y net a.toNat).2
def hitA (FL DP RE : Int → Int) (y : Int) (net : Int → Int) (a : Int) : Int := mn (fhit FL DP y (net a)) (lf FL DP RE y net a)
def resA (FL DP RE : Int → Int) (y : Int) (net : Int → Int) (a : Int) : Int := mn (hitA FL DP RE y net a) (rs FL DP RE y net a)
theorem lf_0 (FL DP RE : Int → Int) (y : Int) (net : Int → Int) : lf FL DP RE y net 0 = cap DP RE y := rfl
theorem rs_0 (FL DP RE : Int → Int) (y : Int) (net : Int → Int) : rs FL DP RE y net 0 = DP y * RE y := rfl
theorem lf_s (FL DP RE : Int → Int) (y : Int) (net : Int → Int) {a : Int} (h : 0 ≤ a) : lf FL DP RE y net (a + 1) = lf FL DP RE y net a - hitA FL DP RE y net a := by
  obtain ⟨k, rfl⟩ : ∃ k : Nat, a = k := ⟨a.toNat, by omega⟩
  have e : ((k : Int) + 1).toNat = k + 1 := by omega
  have e2 : (k : Int).toNat = k := by omega
  simp only [lf, hitA, e, e2, stl]
theorem rs_s (FL DP RE : Int → Int) (y : Int) (net : Int → Int) {a : Int} (h : 0 ≤ a) : rs FL DP RE y net (a + 1) = rs FL DP RE y net a - resA FL DP RE y net a := by
  obtain ⟨k, rfl⟩ : ∃ k : Nat, a = k := ⟨a.toNat, by omega⟩
  have e : ((k : Int) + 1).toNat = k + 1 := by omega
  have e2 : (k : Int).toNat = k := by omega
  simp only [lf, rs, hitA, resA, e, e2, stl]
theorem lf_r {FL DP RE : Int → Int} (hDP : ∀ k, 0 ≤ DP k ∧ DP k ≤ 999999) (hRE : ∀ k, 0 ≤ RE k ∧ RE k ≤ 3) (y : Int) (net : Int → Int) {a : Int} (h : 0 ≤ a) : (0 ≤ lf FL DP RE y net a ∧ lf FL DP RE y net a ≤ 3999996) ∧ (0 ≤ rs FL DP RE y net a ∧ rs FL DP RE y net a ≤ 2999997) := by
  refine sm_ind (P := fun a => (0 ≤ lf FL DP RE y net a ∧ lf FL DP RE y net a ≤ 3999996) ∧ (0 ≤ rs FL DP RE y net a ∧ rs FL DP RE y net a ≤ 2999997)) ?_ (fun i hi ih => ?_) a h
  · have := mul_rng (hDP y) (hRE y)
    have := hDP y
    rw [lf_0, rs_0]; unfold cap; omega
  · rw [lf_s _ _ _ _ _ hi, rs_s _ _ _ _ _ hi]
    have h1 := fhit_r (FL := FL) hDP y (net i)
    unfold resA hitA mn; omega
theorem hitA_r {FL DP RE : Int → Int} (hDP : ∀ k, 0 ≤ DP k ∧ DP k ≤ 999999) (hRE : ∀ k, 0 ≤ RE k ∧ RE k ≤ 3) (y : Int) (net : Int → Int) {a : Int} (h : 0 ≤ a) : (0 ≤ hitA FL DP RE y net a ∧ hitA FL DP RE y net a ≤ 999999) ∧ (0 ≤ resA FL DP RE y net a ∧ resA FL DP RE y net a ≤ 999999) := by
  have h1 := fhit_r (FL := FL) hDP y (net a)
  have h2 := lf_r (FL := FL) hDP hRE y net h
  have h3 := hDP y
  unfold resA hitA mn; omega
def nt (SG SQ SO : Int → Int) (a : Int) : Int := SG (SO a) - SQ (SO a)

set_option maxHeartbeats 4000000 in
set_option maxRecDepth 100000 in
theorem c_X5_slotOf (l : Launch) (g : gD) (a : Int) (b : Int)  : gMet l g yX5_slotOf cX5_slotOf 2 (some .int) 0 0 0 0 [vi a, vi b] [] (gM (some (vi (a * 8 + b))) []) := by
  refine gMet.of y_X5_slotOf.2.2.2.1 (Nat.le_of_ble_eq_true rfl) ?_
  intro x hlx C hR hnm
  subst hlx
  have C : gC g x RX5 cX5_slotOf 2 0 0 0 0 := C
  show gW g x [] 0 0 [(0, vi a), (1, vi b)] 0 []
  refine g_iload_n C 0 dX5_slotOf_0 rfl ?_
  refine g_bipush C dX5_slotOf_1 (by decide) ?_
  refine g_imul C dX5_slotOf_3 ?_
  refine g_iload_n C 1 dX5_slotOf_4 rfl ?_
  refine g_iadd C dX5_slotOf_5 ?_
  exact g_iretM C hR dX5_slotOf_6 (by first | rfl | omega) rfl rfl

set_option maxHeartbeats 4000000 in
set_option maxRecDepth 100000 in
theorem c_X5_netOf (l : Launch) (g : gD) (so : Nat) (sg : Nat) (sq : Nat) (sp : Nat) (sd : Nat) (sc : Nat) (xh : Nat) (xp : Nat) (xr : Nat) (xc : Nat) (xl : Nat) (SG : Int → Int) (SQ : Int → Int) (nSo : Int) (nSy : Int) (nSl : Int) (nSr : Int) (a : Int) (ha : 0 ≤ a ∧ a < 8) : gMet l g yX5_netOf cX5_netOf 2 (some .int) 0 0 0 0 [.ref so, vi a] [(so, cO 5 [.ref sg, .ref sq, .ref sp, .ref sd, .ref sc, .ref xh, .ref xp, .ref xr, .ref xc, .ref xl, vi nSo, vi nSy, vi nSl, vi nSr]), (sg, cA g 8 SG), (sq, cA g 8 SQ)] (gM (some (vi (SG a - SQ a))) [(so, cO 5 [.ref sg, .ref sq, .ref sp, .ref sd, .ref sc, .ref xh, .ref xp, .ref xr, .ref xc, .ref xl, vi nSo, vi nSy, vi nSl, vi nSr]), (sg, cA g 8 SG), (sq, cA g 8 SQ)]) := by
  refine gMet.of y_X5_netOf.2.2.2.2.1 (Nat.le_of_ble_eq_true rfl) ?_
  intro x hlx C hR hnm
  subst hlx
  have C : gC g x RX5 cX5_netOf 2 0 0 0 0 := C
  show gW g x [(so, cO 5 [.ref sg, .ref sq, .ref sp, .ref sd, .ref sc, .ref xh, .ref xp, .ref xr, .ref xc, .ref xl, vi nSo, vi nSy, vi nSl, vi nSr]), (sg, cA g 8 SG), (sq, cA g 8 SQ)] 0 0 [(0, .ref so), (1, vi a)] 0 []
  refine g_aload_n C 0 dX5_netOf_0 rfl ?_
  refine g_getf C k_X5 0 f_X5_9 0 rfl rfl (by decide) rfl rfl dX5_netOf_1 ?_
  refine g_iload_n C 1 dX5_netOf_4 rfl ?_
  refine g_iald C 1 rfl (by omega) dX5_netOf_5 ?_
  refine g_aload_n C 0 dX5_netOf_6 rfl ?_
  refine g_getf C k_X5 1 f_X5_15 0 rfl rfl (by decide) rfl rfl dX5_netOf_7 ?_
  refine g_iload_n C 1 dX5_netOf_10 rfl ?_
  refine g_iald C 2 rfl (by omega) dX5_netOf_11 ?_
  refine g_isub C dX5_netOf_12 ?_
  exact g_iretM C hR dX5_netOf_13 (by first | rfl | omega) rfl rfl

set_option maxHeartbeats 4000000 in
set_option maxRecDepth 100000 in
theorem c_X5_settleOne (l : Launch) (g : gD) (to : Nat) (tf : Nat) (td : Nat) (tS : Nat) (tr : Nat) (tp : Nat) (tt : Nat) (FL : Int → Int) (DP : Int → Int) (SH : Int → Int) (RE : Int → Int) (PR : Int → Int) (RA : Int → Int) (nY : Int) (Q : Int) (so : Nat) (sg : Nat) (sq : Nat) (sp : Nat) (sd : Nat) (sc : Nat) (xh : Nat) (xp : Nat) (xr : Nat) (xc : Nat) (xl : Nat) (SG : Int → Int) (SQ : Int → Int) (SD : Int → Int) (SC : Int → Int) (XH : Int → Int) (XP : Int → Int) (XR : Int → Int) (XC : Int → Int) (XL : Int → Int) (nSo : Int) (nSy : Int) (le : Int) (re : Int) (y : Int) (o : Int) (hFL : ∀ k, 0 ≤ FL k ∧ FL k ≤ 999999) (hDP : ∀ k, 0 ≤ DP k ∧ DP k ≤ 999999) (hSH : ∀ k, 0 ≤ SH k ∧ SH k ≤ 100) (hRE : ∀ k, 0 ≤ RE k ∧ RE k ≤ 3) (hPR : ∀ k, 0 ≤ PR k ∧ PR k ≤ 99999) (hRA : ∀ k, 0 ≤ RA k ∧ RA k ≤ 150) (hn : 0 ≤ SG o - SQ o ∧ SG o - SQ o ≤ 3999960) (hy : 0 ≤ y ∧ y < 5) (ho : 0 ≤ o ∧ o < 8) (hd : 1 ≤ DP y) (hle : 0 ≤ le ∧ le ≤ 3999996) (hre : 0 ≤ re ∧ re ≤ 2999997) : gMet l g yX5_settleOne cX5_settleOne 5 none 1 0 0 40 [.ref so, .ref to, vi y, vi o] [(to, cO 7 [.ref tf, .ref td, .ref tS, .ref tr, .ref tp, .ref tt, vi nY, vi Q]), (tf, cA g 5 FL), (td, cA g 5 DP), (tS, cA g 5 SH), (tr, cA g 5 RE), (tp, cA g 5 PR), (tt, cA g 5 RA), (so, cO 5 [.ref sg, .ref sq, .ref sp, .ref sd, .ref sc, .ref xh, .ref xp, .ref xr, .ref xc, .ref xl, vi nSo, vi nSy, vi le, vi re]), (sg, cA g 8 SG), (sq, cA g 8 SQ), (sd, cA g 8 SD), (sc, cA g 8 SC), (xh, cA g 40 XH), (xp, cA g 40 XP), (xr, cA g 40 XR), (xc, cA g 40 XC), (xl, cA g 40 XL)] (gM none [(to, cO 7 [.ref tf, .ref td, .ref tS, .ref tr, .ref tp, .ref tt, vi nY, vi Q]), (tf, cA g 5 FL), (td, cA g 5 DP), (tS, cA g 5 SH), (tr, cA g 5 RE), (tp, cA g 5 PR), (tt, cA g 5 RA), (so, cO 5 [.ref sg, .ref sq, .ref sp, .ref sd, .ref sc, .ref xh, .ref xp, .ref xr, .ref xc, .ref xl, vi nSo, vi nSy, vi (le - (mn (fhit FL DP y (SG o - SQ o)) le)), vi (re - (mn (mn (fhit FL DP y (SG o - SQ o)) le) re))]), (sg, cA g 8 SG), (sq, cA g 8 SQ), (sd, cA g 8 (up SD o (SD o + pay SH y (mn (fhit FL DP y (SG o - SQ o)) le)))), (sc, cA g 8 (up SC o (SC o + chg DP PR RA y (mn (mn (fhit FL DP y (SG o - SQ o)) le) re)))), (xh, cA g 40 (up XH (y * 8 + o) (mn (fhit FL DP y (SG o - SQ o)) le))), (xp, cA g 40 (up XP (y * 8 + o) (pay SH y (mn (fhit FL DP y (SG o - SQ o)) le)))), (xr, cA g 40 (up XR (y * 8 + o) (mn (mn (fhit FL DP y (SG o - SQ o)) le) re))), (xc, cA g 40 (up XC (y * 8 + o) (chg DP PR RA y (mn (mn (fhit FL DP y (SG o - SQ o)) le) re)))), (xl, cA g 40 (up XL (y * 8 + o) (le - (mn (fhit FL DP y (SG o - SQ o)) le))))]) := by
  refine gMet.of y_X5_settleOne.2.2.2.2.1 (Nat.le_of_ble_eq_true rfl) ?_
  intro x hlx C hR hnm
  subst hlx
  have C : gC g x RX5 cX5_settleOne 5 1 0 0 40 := C
  show gW g x [(to, cO 7 [.ref tf, .ref td, .ref tS, .ref tr, .ref tp, .ref tt, vi nY, vi Q]), (tf, cA g 5 FL), (td, cA g 5 DP), (tS, cA g 5 SH), (tr, cA g 5 RE), (tp, cA g 5 PR), (tt, cA g 5 RA), (so, cO 5 [.ref sg, .ref sq, .ref sp, .ref sd, .ref sc, .ref xh, .ref xp, .ref xr, .ref xc, .ref xl, vi nSo, vi nSy, vi le, vi re]), (sg, cA g 8 SG), (sq, cA g 8 SQ), (sd, cA g 8 SD), (sc, cA g 8 SC), (xh, cA g 40 XH), (xp, cA g 40 XP), (xr, cA g 40 XR), (xc, cA g 40 XC), (xl, cA g 40 XL)] 0 0 [(0, .ref so), (1, .ref to), (2, vi y), (3, vi o)] 0 []
  refine g_iload_n C 2 dX5_settleOne_0 rfl ?_
  refine g_iload_n C 3 dX5_settleOne_1 rfl ?_
  refine g_callSp C [vi y, vi o] [] (c_X5_slotOf x.1.2.1 g y o) y_X5_slotOf l_X5_87 [] rfl (by decide) rfl (Nat.le_of_ble_eq_true rfl) rfl (by decide) dX5_settleOne_2 ?_
  refine g_istore C [(4, vi (y * 8 + o)), (0, .ref so), (1, .ref to), (2, vi y), (3, vi o)] dX5_settleOne_5 (by decide) rfl ?_
  refine g_aload_n C 1 dX5_settleOne_7 rfl ?_
  refine g_getf C k_X5 5 f_X5_27 7 rfl rfl (by decide) rfl rfl dX5_settleOne_8 ?_
  refine g_iload C 0 dX5_settleOne_11 rfl ?_
  refine g_aload_n C 2 dX5_settleOne_13 rfl ?_
  refine g_iload_n C 3 dX5_settleOne_14 rfl ?_
  refine g_aload_n C 1 dX5_settleOne_15 rfl ?_
  refine g_iload_n C 4 dX5_settleOne_16 rfl ?_
  refine g_callVp C [vi o] [vi y, .ref to, vi (y * 8 + o), .ref xh] (c_X5_netOf x.1.2.1 g so sg sq sp sd sc xh xp xr xc xl SG SQ nSo nSy le re o ho) y_X5_netOf l_X5_91 [7, 8, 9] rfl (by decide) 7 rfl rfl rfl (Nat.le_of_ble_eq_true rfl) rfl (by decide) dX5_settleOne_17 ?_
  refine g_callVp C [vi y, vi (SG o - SQ o)] [vi (y * 8 + o), .ref xh] (c_X7_fullHit x.1.2.1 g to tf td tS tr tp tt FL DP nY Q y (SG o - SQ o) hFL hDP hy (by omega)) y_X7_fullHit l_X5_94 [0, 1, 2] rfl (by decide) 0 rfl rfl rfl (Nat.le_of_ble_eq_true rfl) rfl (by decide) dX5_settleOne_20 ?_
  have hf9 := fhit_r (FL := FL) hDP y (SG o - SQ o)
  have hd9 := hDP y
  refine g_aload_n C 1 dX5_settleOne_23 rfl ?_
  refine g_getf C k_X5 12 f_X5_75 7 rfl rfl (by decide) rfl rfl dX5_settleOne_24 ?_
  refine g_mmin C l_X5_97 w_minS w_mathI w_minC (by omega) (by omega) dX5_settleOne_27 ⟨Nat.le_of_ble_eq_true rfl, Nat.le_of_ble_eq_true rfl⟩ (by decide) (by decide) ?_
  have hm9 : 0 ≤ (mn (fhit FL DP y (SG o - SQ o)) le) ∧ (mn (fhit FL DP y (SG o - SQ o)) le) ≤ 999999 := by unfold mn; omega
  refine g_val (w := mn (fhit FL DP y (SG o - SQ o)) le) rfl ?_
  refine g_iast C 12 rfl (by omega) [(to, cO 7 [.ref tf, .ref td, .ref tS, .ref tr, .ref tp, .ref tt, vi nY, vi Q]), (tf, cA g 5 FL), (td, cA g 5 DP), (tS, cA g 5 SH), (tr, cA g 5 RE), (tp, cA g 5 PR), (tt, cA g 5 RA), (so, cO 5 [.ref sg, .ref sq, .ref sp, .ref sd, .ref sc, .ref xh, .ref xp, .ref xr, .ref xc, .ref xl, vi nSo, vi nSy, vi le, vi re]), (sg, cA g 8 SG), (sq, cA g 8 SQ), (sd, cA g 8 SD), (sc, cA g 8 SC), (xh, cA g 40 (up XH (y * 8 + o) (mn (fhit FL DP y (SG o - SQ o)) le))), (xp, cA g 40 XP), (xr, cA g 40 XR), (xc, cA g 40 XC), (xl, cA g 40 XL)] rfl dX5_settleOne_30 ?_
  refine g_aload_n C 1 dX5_settleOne_31 rfl ?_
  refine g_getf C k_X5 6 f_X5_30 7 rfl rfl (by decide) rfl rfl dX5_settleOne_32 ?_
  refine g_iload C 0 dX5_settleOne_35 rfl ?_
  refine g_aload_n C 2 dX5_settleOne_37 rfl ?_
  refine g_iload_n C 3 dX5_settleOne_38 rfl ?_
  refine g_aload_n C 1 dX5_settleOne_39 rfl ?_
  refine g_getf C k_X5 5 f_X5_27 7 rfl rfl (by decide) rfl rfl dX5_settleOne_40 ?_
  refine g_iload C 0 dX5_settleOne_43 rfl ?_
  refine g_iald C 12 rfl (by omega) dX5_settleOne_45 ?_
  refine g_val (w := mn (fhit FL DP y (SG o - SQ o)) le) up_s ?_
  refine g_callVp C [vi y, vi (mn (fhit FL DP y (SG o - SQ o)) le)] [vi (y * 8 + o), .ref xp] (c_X7_payFor x.1.2.1 g to tf td tS tr tp tt SH nY Q y (mn (fhit FL DP y (SG o - SQ o)) le) hSH hy (by omega)) y_X7_payFor l_X5_102 [0, 3] rfl (by decide) 0 rfl rfl rfl (Nat.le_of_ble_eq_true rfl) rfl (by decide) dX5_settleOne_46 ?_
  refine g_iast C 13 rfl (by omega) [(to, cO 7 [.ref tf, .ref td, .ref tS, .ref tr, .ref tp, .ref tt, vi nY, vi Q]), (tf, cA g 5 FL), (td, cA g 5 DP), (tS, cA g 5 SH), (tr, cA g 5 RE), (tp, cA g 5 PR), (tt, cA g 5 RA), (so, cO 5 [.ref sg, .ref sq, .ref sp, .ref sd, .ref sc, .ref xh, .ref xp, .ref xr, .ref xc, .ref xl, vi nSo, vi nSy, vi le, vi re]), (sg, cA g 8 SG), (sq, cA g 8 SQ), (sd, cA g 8 SD), (sc, cA g 8 SC), (xh, cA g 40 (up XH (y * 8 + o) (mn (fhit FL DP y (SG o - SQ o)) le))), (xp, cA g 40 (up XP (y * 8 + o) (pay SH y (mn (fhit FL DP y (SG o - SQ o)) le)))), (xr, cA g 40 XR), (xc, cA g 40 XC), (xl, cA g 40 XL)] rfl dX5_settleOne_49 ?_
  refine g_aload_n C 1 dX5_settleOne_50 rfl ?_
  refine g_getf C k_X5 7 f_X5_33 7 rfl rfl (by decide) rfl rfl dX5_settleOne_51 ?_
  refine g_iload C 0 dX5_settleOne_54 rfl ?_
  refine g_aload_n C 1 dX5_settleOne_56 rfl ?_
  refine g_getf C k_X5 5 f_X5_27 7 rfl rfl (by decide) rfl rfl dX5_settleOne_57 ?_
  refine g_iload C 0 dX5_settleOne_60 rfl ?_
  refine g_iald C 12 rfl (by omega) dX5_settleOne_62 ?_
  refine g_val (w := mn (fhit FL DP y (SG o - SQ o)) le) up_s ?_
  refine g_aload_n C 1 dX5_settleOne_63 rfl ?_
  refine g_getf C k_X5 13 f_X5_81 7 rfl rfl (by decide) rfl rfl dX5_settleOne_64 ?_
  refine g_mmin C l_X5_97 w_minS w_mathI w_minC (by omega) (by omega) dX5_settleOne_67 ⟨Nat.le_of_ble_eq_true rfl, Nat.le_of_ble_eq_true rfl⟩ (by decide) (by decide) ?_
  have hw9 : 0 ≤ (mn (mn (fhit FL DP y (SG o - SQ o)) le) re) ∧ (mn (mn (fhit FL DP y (SG o - SQ o)) le) re) ≤ 999999 := by generalize (mn (fhit FL DP y (SG o - SQ o)) le) = h at hm9 ⊢; unfold mn; omega
  refine g_val (w := mn (mn (fhit FL DP y (SG o - SQ o)) le) re) rfl ?_
  refine g_iast C 14 rfl (by omega) [(to, cO 7 [.ref tf, .ref td, .ref tS, .ref tr, .ref tp, .ref tt, vi nY, vi Q]), (tf, cA g 5 FL), (td, cA g 5 DP), (tS, cA g 5 SH), (tr, cA g 5 RE), (tp, cA g 5 PR), (tt, cA g 5 RA), (so, cO 5 [.ref sg, .ref sq, .ref sp, .ref sd, .ref sc, .ref xh, .ref xp, .ref xr, .ref xc, .ref xl, vi nSo, vi nSy, vi le, vi re]), (sg, cA g 8 SG), (sq, cA g 8 SQ), (sd, cA g 8 SD), (sc, cA g 8 SC), (xh, cA g 40 (up XH (y * 8 + o) (mn (fhit FL DP y (SG o - SQ o)) le))), (xp, cA g 40 (up XP (y * 8 + o) (pay SH y (mn (fhit FL DP y (SG o - SQ o)) le)))), (xr, cA g 40 (up XR (y * 8 + o) (mn (mn (fhit FL DP y (SG o - SQ o)) le) re))), (xc, cA g 40 XC), (xl, cA g 40 XL)] rfl dX5_settleOne_70 ?_
  refine g_aload_n C 1 dX5_settleOne_71 rfl ?_
  refine g_getf C k_X5 8 f_X5_36 7 rfl rfl (by decide) rfl rfl dX5_settleOne_72 ?_
  refine g_iload C 0 dX5_settleOne_75 rfl ?_
  refine g_aload_n C 2 dX5_settleOne_77 rfl ?_
  refine g_iload_n C 3 dX5_settleOne_78 rfl ?_
  refine g_aload_n C 1 dX5_settleOne_79 rfl ?_
  refine g_getf C k_X5 7 f_X5_33 7 rfl rfl (by decide) rfl rfl dX5_settleOne_80 ?_
  refine g_iload C 0 dX5_settleOne_83 rfl ?_
  refine g_iald C 14 rfl (by omega) dX5_settleOne_85 ?_
  refine g_val (w := mn (mn (fhit FL DP y (SG o - SQ o)) le) re) up_s ?_
  refine g_callVp C [vi y, vi (mn (mn (fhit FL DP y (SG o - SQ o)) le) re)] [vi (y * 8 + o), .ref xc] (c_X7_chargeFor x.1.2.1 g to tf td tS tr tp tt DP PR RA nY Q y (mn (mn (fhit FL DP y (SG o - SQ o)) le) re) hDP hPR hRA hy hd (by omega)) y_X7_chargeFor l_X5_105 [0, 2, 5, 6] rfl (by decide) 0 rfl rfl rfl (Nat.le_of_ble_eq_true rfl) rfl (by decide) dX5_settleOne_86 ?_
  refine g_iast C 15 rfl (by omega) [(to, cO 7 [.ref tf, .ref td, .ref tS, .ref tr, .ref tp, .ref tt, vi nY, vi Q]), (tf, cA g 5 FL), (td, cA g 5 DP), (tS, cA g 5 SH), (tr, cA g 5 RE), (tp, cA g 5 PR), (tt, cA g 5 RA), (so, cO 5 [.ref sg, .ref sq, .ref sp, .ref sd, .ref sc, .ref xh, .ref xp, .ref xr, .ref xc, .ref xl, vi nSo, vi nSy, vi le, vi re]), (sg, cA g 8 SG), (sq, cA g 8 SQ), (sd, cA g 8 SD), (sc, cA g 8 SC), (xh, cA g 40 (up XH (y * 8 + o) (mn (fhit FL DP y (SG o - SQ o)) le))), (xp, cA g 40 (up XP (y * 8 + o) (pay SH y (mn (fhit FL DP y (SG o - SQ o)) le)))), (xr, cA g 40 (up XR (y * 8 + o) (mn (mn (fhit FL DP y (SG o - SQ o)) le) re))), (xc, cA g 40 (up XC (y * 8 + o) (chg DP PR RA y (mn (mn (fhit FL DP y (SG o - SQ o)) le) re)))), (xl, cA g 40 XL)] rfl dX5_settleOne_89 ?_
  refine g_aload_n C 1 dX5_settleOne_90 rfl ?_
  refine g_dup C dX5_settleOne_91 rfl ?_
  refine g_getf C k_X5 12 f_X5_75 7 rfl rfl (by decide) rfl rfl dX5_settleOne_92 ?_
  refine g_aload_n C 1 dX5_settleOne_95 rfl ?_
  refine g_getf C k_X5 5 f_X5_27 7 rfl rfl (by decide) rfl rfl dX5_settleOne_96 ?_
  refine g_iload C 0 dX5_settleOne_99 rfl ?_
  refine g_iald C 12 rfl (by omega) dX5_settleOne_101 ?_
  refine g_val (w := mn (fhit FL DP y (SG o - SQ o)) le) up_s ?_
  refine g_isub C dX5_settleOne_102 ?_
  refine g_putf C k_X5 tyX5_ok nmX5 12 f_X5_75 7 rfl rfl (by decide) rfl rfl rfl rfl (Nat.le_of_ble_eq_true rfl) [(to, cO 7 [.ref tf, .ref td, .ref tS, .ref tr, .ref tp, .ref tt, vi nY, vi Q]), (tf, cA g 5 FL), (td, cA g 5 DP), (tS, cA g 5 SH), (tr, cA g 5 RE), (tp, cA g 5 PR), (tt, cA g 5 RA), (so, cO 5 [.ref sg, .ref sq, .ref sp, .ref sd, .ref sc, .ref xh, .ref xp, .ref xr, .ref xc, .ref xl, vi nSo, vi nSy, vi (le - (mn (fhit FL DP y (SG o - SQ o)) le)), vi re]), (sg, cA g 8 SG), (sq, cA g 8 SQ), (sd, cA g 8 SD), (sc, cA g 8 SC), (xh, cA g 40 (up XH (y * 8 + o) (mn (fhit FL DP y (SG o - SQ o)) le))), (xp, cA g 40 (up XP (y * 8 + o) (pay SH y (mn (fhit FL DP y (SG o - SQ o)) le)))), (xr, cA g 40 (up XR (y * 8 + o) (mn (mn (fhit FL DP y (SG o - SQ o)) le) re))), (xc, cA g 40 (up XC (y * 8 + o) (chg DP PR RA y (mn (mn (fhit FL DP y (SG o - SQ o)) le) re)))), (xl, cA g 40 XL)] rfl dX5_settleOne_103 ?_
  refine g_aload_n C 1 dX5_settleOne_106 rfl ?_
  refine g_dup C dX5_settleOne_107 rfl ?_
  refine g_getf C k_X5 13 f_X5_81 7 rfl rfl (by decide) rfl rfl dX5_settleOne_108 ?_
  refine g_aload_n C 1 dX5_settleOne_111 rfl ?_
  refine g_getf C k_X5 7 f_X5_33 7 rfl rfl (by decide) rfl rfl dX5_settleOne_112 ?_
  refine g_iload C 0 dX5_settleOne_115 rfl ?_
  refine g_iald C 14 rfl (by omega) dX5_settleOne_117 ?_
  refine g_val (w := mn (mn (fhit FL DP y (SG o - SQ o)) le) re) up_s ?_
  refine g_isub C dX5_settleOne_118 ?_
  refine g_putf C k_X5 tyX5_ok nmX5 13 f_X5_81 7 rfl rfl (by decide) rfl rfl rfl rfl (Nat.le_of_ble_eq_true rfl) [(to, cO 7 [.ref tf, .ref td, .ref tS, .ref tr, .ref tp, .ref tt, vi nY, vi Q]), (tf, cA g 5 FL), (td, cA g 5 DP), (tS, cA g 5 SH), (tr, cA g 5 RE), (tp, cA g 5 PR), (tt, cA g 5 RA), (so, cO 5 [.ref sg, .ref sq, .ref sp, .ref sd, .ref sc, .ref xh, .ref xp, .ref xr, .ref xc, .ref xl, vi nSo, vi nSy, vi (le - (mn (fhit FL DP y (SG o - SQ o)) le)), vi (re - (mn (mn (fhit FL DP y (SG o - SQ o)) le) re))]), (sg, cA g 8 SG), (sq, cA g 8 SQ), (sd, cA g 8 SD), (sc, cA g 8 SC), (xh, cA g 40 (up XH (y * 8 + o) (mn (fhit FL DP y (SG o - SQ o)) le))), (xp, cA g 40 (up XP (y * 8 + o) (pay SH y (mn (fhit FL DP y (SG o - SQ o)) le)))), (xr, cA g 40 (up XR (y * 8 + o) (mn (mn (fhit FL DP y (SG o - SQ o)) le) re))), (xc, cA g 40 (up XC (y * 8 + o) (chg DP PR RA y (mn (mn (fhit FL DP y (SG o - SQ o)) le) re)))), (xl, cA g 40 XL)] rfl dX5_settleOne_119 ?_
  refine g_aload_n C 1 dX5_settleOne_122 rfl ?_
  refine g_getf C k_X5 9 f_X5_39 7 rfl rfl (by decide) rfl rfl dX5_settleOne_123 ?_
  refine g_iload C 0 dX5_settleOne_126 rfl ?_
  refine g_aload_n C 1 dX5_settleOne_128 rfl ?_
  refine g_getf C k_X5 12 f_X5_75 7 rfl rfl (by decide) rfl rfl dX5_settleOne_129 ?_
  refine g_iast C 16 rfl (by omega) [(to, cO 7 [.ref tf, .ref td, .ref tS, .ref tr, .ref tp, .ref tt, vi nY, vi Q]), (tf, cA g 5 FL), (td, cA g 5 DP), (tS, cA g 5 SH), (tr, cA g 5 RE), (tp, cA g 5 PR), (tt, cA g 5 RA), (so, cO 5 [.ref sg, .ref sq, .ref sp, .ref sd, .ref sc, .ref xh, .ref xp, .ref xr, .ref xc, .ref xl, vi nSo, vi nSy, vi (le - (mn (fhit FL DP y (SG o - SQ o)) le)), vi (re - (mn (mn (fhit FL DP y (SG o - SQ o)) le) re))]), (sg, cA g 8 SG), (sq, cA g 8 SQ), (sd, cA g 8 SD), (sc, cA g 8 SC), (xh, cA g 40 (up XH (y * 8 + o) (mn (fhit FL DP y (SG o - SQ o)) le))), (xp, cA g 40 (up XP (y * 8 + o) (pay SH y (mn (fhit FL DP y (SG o - SQ o)) le)))), (xr, cA g 40 (up XR (y * 8 + o) (mn (mn (fhit FL DP y (SG o - SQ o)) le) re))), (xc, cA g 40 (up XC (y * 8 + o) (chg DP PR RA y (mn (mn (fhit FL DP y (SG o - SQ o)) le) re)))), (xl, cA g 40 (up XL (y * 8 + o) (le - (mn (fhit FL DP y (SG o - SQ o)) le))))] rfl dX5_settleOne_132 ?_
  refine g_aload_n C 1 dX5_settleOne_133 rfl ?_
  refine g_getf C k_X5 3 f_X5_21 7 rfl rfl (by decide) rfl rfl dX5_settleOne_134 ?_
  refine g_iload_n C 4 dX5_settleOne_137 rfl ?_
  refine g_dup2 C dX5_settleOne_138 rfl rfl ?_
  refine g_iald C 10 rfl (by omega) dX5_settleOne_139 ?_
  refine g_aload_n C 1 dX5_settleOne_140 rfl ?_
  refine g_getf C k_X5 6 f_X5_30 7 rfl rfl (by decide) rfl rfl dX5_settleOne_141 ?_
  refine g_iload C 0 dX5_settleOne_144 rfl ?_
  refine g_iald C 13 rfl (by omega) dX5_settleOne_146 ?_
  refine g_val (w := pay SH y (mn (fhit FL DP y (SG o - SQ o)) le)) up_s ?_
  refine g_iadd C dX5_settleOne_147 ?_
  refine g_iast C 10 rfl (by omega) [(to, cO 7 [.ref tf, .ref td, .ref tS, .ref tr, .ref tp, .ref tt, vi nY, vi Q]), (tf, cA g 5 FL), (td, cA g 5 DP), (tS, cA g 5 SH), (tr, cA g 5 RE), (tp, cA g 5 PR), (tt, cA g 5 RA), (so, cO 5 [.ref sg, .ref sq, .ref sp, .ref sd, .ref sc, .ref xh, .ref xp, .ref xr, .ref xc, .ref xl, vi nSo, vi nSy, vi (le - (mn (fhit FL DP y (SG o - SQ o)) le)), vi (re - (mn (mn (fhit FL DP y (SG o - SQ o)) le) re))]), (sg, cA g 8 SG), (sq, cA g 8 SQ), (sd, cA g 8 (up SD o ((SD o) + (pay SH y (mn (fhit FL DP y (SG o - SQ o)) le))))), (sc, cA g 8 SC), (xh, cA g 40 (up XH (y * 8 + o) (mn (fhit FL DP y (SG o - SQ o)) le))), (xp, cA g 40 (up XP (y * 8 + o) (pay SH y (mn (fhit FL DP y (SG o - SQ o)) le)))), (xr, cA g 40 (up XR (y * 8 + o) (mn (mn (fhit FL DP y (SG o - SQ o)) le) re))), (xc, cA g 40 (up XC (y * 8 + o) (chg DP PR RA y (mn (mn (fhit FL DP y (SG o - SQ o)) le) re)))), (xl, cA g 40 (up XL (y * 8 + o) (le - (mn (fhit FL DP y (SG o - SQ o)) le))))] rfl dX5_settleOne_148 ?_
  refine g_aload_n C 1 dX5_settleOne_149 rfl ?_
  refine g_getf C k_X5 4 f_X5_24 7 rfl rfl (by decide) rfl rfl dX5_settleOne_150 ?_
  refine g_iload_n C 4 dX5_settleOne_153 rfl ?_
  refine g_dup2 C dX5_settleOne_154 rfl rfl ?_
  refine g_iald C 11 rfl (by omega) dX5_settleOne_155 ?_
  refine g_aload_n C 1 dX5_settleOne_156 rfl ?_
  refine g_getf C k_X5 8 f_X5_36 7 rfl rfl (by decide) rfl rfl dX5_settleOne_157 ?_
  refine g_iload C 0 dX5_settleOne_160 rfl ?_
  refine g_iald C 15 rfl (by omega) dX5_settleOne_162 ?_
  refine g_val (w := chg DP PR RA y (mn (mn (fhit FL DP y (SG o - SQ o)) le) re)) up_s ?_
  refine g_iadd C dX5_settleOne_163 ?_
  refine g_iast C 11 rfl (by omega) [(to, cO 7 [.ref tf, .ref td, .ref tS, .ref tr, .ref tp, .ref tt, vi nY, vi Q]), (tf, cA g 5 FL), (td, cA g 5 DP), (tS, cA g 5 SH), (tr, cA g 5 RE), (tp, cA g 5 PR), (tt, cA g 5 RA), (so, cO 5 [.ref sg, .ref sq, .ref sp, .ref sd, .ref sc, .ref xh, .ref xp, .ref xr, .ref xc, .ref xl, vi nSo, vi nSy, vi (le - (mn (fhit FL DP y (SG o - SQ o)) le)), vi (re - (mn (mn (fhit FL DP y (SG o - SQ o)) le) re))]), (sg, cA g 8 SG), (sq, cA g 8 SQ), (sd, cA g 8 (up SD o ((SD o) + (pay SH y (mn (fhit FL DP y (SG o - SQ o)) le))))), (sc, cA g 8 (up SC o ((SC o) + (chg DP PR RA y (mn (mn (fhit FL DP y (SG o - SQ o)) le) re))))), (xh, cA g 40 (up XH (y * 8 + o) (mn (fhit FL DP y (SG o - SQ o)) le))), (xp, cA g 40 (up XP (y * 8 + o) (pay SH y (mn (fhit FL DP y (SG o - SQ o)) le)))), (xr, cA g 40 (up XR (y * 8 + o) (mn (mn (fhit FL DP y (SG o - SQ o)) le) re))), (xc, cA g 40 (up XC (y * 8 + o) (chg DP PR RA y (mn (mn (fhit FL DP y (SG o - SQ o)) le) re)))), (xl, cA g 40 (up XL (y * 8 + o) (le - (mn (fhit FL DP y (SG o - SQ o)) le))))] rfl dX5_settleOne_164 ?_
  exact g_vretM C hR dX5_settleOne_165 rfl rfl

/-- the place that the inner way has come to -/
def nx9 (SO : Int → Int) (p i : Int) : Int := if i ≤ SO p then p else p + 1
theorem so_up {F ix v : Int → Int} {p : Int} (h0 : 0 ≤ p) {c : Int → Int} (hc : c = scat F ix v p) {z w : Int} (hz : z = ix p) (hw : w = v p) : up c z w = scat F ix v (p + 1) := by
  rw [scat_s _ _ _ h0, ← hc, hz, hw]
theorem so_ad {F ix v : Int → Int} {p : Int} (h0 : 0 ≤ p) {c : Int → Int} (hc : c = scad F ix v p) {z w : Int} (hz : z = ix p) (hw : w = v p) : up c z (c z + w) = scad F ix v (p + 1) := by
  rw [scad_s _ _ _ h0, ← hc, hz, hw]

set_option maxHeartbeats 4000000 in
set_option maxRecDepth 100000 in
theorem c_X5_settleLayer (l : Launch) (g : gD) (to : Nat) (tf : Nat) (td : Nat) (tS : Nat) (tr : Nat) (tp : Nat) (tt : Nat) (FL : Int → Int) (DP : Int → Int) (SH : Int → Int) (RE : Int → Int) (PR : Int → Int) (RA : Int → Int) (nY : Int) (Q : Int) (so : Nat) (sg : Nat) (sq : Nat) (sp : Nat) (sd : Nat) (sc : Nat) (xh : Nat) (xp : Nat) (xr : Nat) (xc : Nat) (xl : Nat) (SG : Int → Int) (SQ : Int → Int) (SP : Int → Int) (SO : Int → Int) (SD : Int → Int) (SC : Int → Int) (XH : Int → Int) (XP : Int → Int) (XR : Int → Int) (XC : Int → Int) (XL : Int → Int) (nSo : Int) (nSy : Int) (nSl : Int) (nSr : Int) (y : Int) (hFL : ∀ k, 0 ≤ FL k ∧ FL k ≤ 999999) (hDP : ∀ k, 0 ≤ DP k ∧ DP k ≤ 999999) (hSH : ∀ k, 0 ≤ SH k ∧ SH k ≤ 100) (hRE : ∀ k, 0 ≤ RE k ∧ RE k ≤ 3) (hPR : ∀ k, 0 ≤ PR k ∧ PR k ≤ 99999) (hRA : ∀ k, 0 ≤ RA k ∧ RA k ≤ 150) (hinv : ∀ a9, 0 ≤ a9 → a9 < nSo → (0 ≤ SO a9 ∧ SO a9 < nSo) ∧ SP (SO a9) = a9) (hpl : ∀ o9, 0 ≤ o9 → o9 < nSo → (0 ≤ SP o9 ∧ SP o9 < nSo) ∧ SO (SP o9) = o9) (hNet : ∀ k, 0 ≤ SG k - SQ k ∧ SG k - SQ k ≤ 3999960) (hSo : 0 ≤ nSo ∧ nSo ≤ 8) (hy : 0 ≤ y ∧ y < 5) (hd : 1 ≤ DP y) : gMet l g yX5_settleLayer cX5_settleLayer 5 none 2 0 0 64 [.ref so, .ref to, vi y] [(to, cO 7 [.ref tf, .ref td, .ref tS, .ref tr, .ref tp, .ref tt, vi nY, vi Q]), (tf, cA g 5 FL), (td, cA g 5 DP), (tS, cA g 5 SH), (tr, cA g 5 RE), (tp, cA g 5 PR), (tt, cA g 5 RA), (so, cO 5 [.ref sg, .ref sq, .ref sp, .ref sd, .ref sc, .ref xh, .ref xp, .ref xr, .ref xc, .ref xl, vi nSo, vi nSy, vi nSl, vi nSr]), (sg, cA g 8 SG), (sq, cA g 8 SQ), (sp, cA g 8 SP), (sd, cA g 8 SD), (sc, cA g 8 SC), (xh, cA g 40 XH), (xp, cA g 40 XP), (xr, cA g 40 XR), (xc, cA g 40 XC), (xl, cA g 40 XL)] (gM none [(to, cO 7 [.ref tf, .ref td, .ref tS, .ref tr, .ref tp, .ref tt, vi nY, vi Q]), (tf, cA g 5 FL), (td, cA g 5 DP), (tS, cA g 5 SH), (tr, cA g 5 RE), (tp, cA g 5 PR), (tt, cA g 5 RA), (so, cO 5 [.ref sg, .ref sq, .ref sp, .ref sd, .ref sc, .ref xh, .ref xp, .ref xr, .ref xc, .ref xl, vi nSo, vi nSy, vi (lf FL DP RE y (nt SG SQ SO) nSo), vi (rs FL DP RE y (nt SG SQ SO) nSo)]), (sg, cA g 8 SG), (sq, cA g 8 SQ), (sp, cA g 8 SP), (sd, cA g 8 (scad SD SO (fun a => pay SH y ((hitA FL DP RE y (nt SG SQ SO)) a)) nSo)), (sc, cA g 8 (scad SC SO (fun a => chg DP PR RA y ((resA FL DP RE y (nt SG SQ SO)) a)) nSo)), (xh, cA g 40 (scat XH (fun a => y * 8 + SO a) (hitA FL DP RE y (nt SG SQ SO)) nSo)), (xp, cA g 40 (scat XP (fun a => y * 8 + SO a) (fun a => pay SH y ((hitA FL DP RE y (nt SG SQ SO)) a)) nSo)), (xr, cA g 40 (scat XR (fun a => y * 8 + SO a) (resA FL DP RE y (nt SG SQ SO)) nSo)), (xc, cA g 40 (scat XC (fun a => y * 8 + SO a) (fun a => chg DP PR RA y ((resA FL DP RE y (nt SG SQ SO)) a)) nSo)), (xl, cA g 40 (scat XL (fun a => y * 8 + SO a) (fun a => lf FL DP RE y (nt SG SQ SO) (a + 1)) nSo))]) := by
  refine gMet.of y_X5_settleLayer.2.2.2.2.1 (Nat.le_of_ble_eq_true rfl) ?_
  intro x hlx C hR hnm
  subst hlx
  have C : gC g x RX5 cX5_settleLayer 5 2 0 0 64 := C
  show gW g x [(to, cO 7 [.ref tf, .ref td, .ref tS, .ref tr, .ref tp, .ref tt, vi nY, vi Q]), (tf, cA g 5 FL), (td, cA g 5 DP), (tS, cA g 5 SH), (tr, cA g 5 RE), (tp, cA g 5 PR), (tt, cA g 5 RA), (so, cO 5 [.ref sg, .ref sq, .ref sp, .ref sd, .ref sc, .ref xh, .ref xp, .ref xr, .ref xc, .ref xl, vi nSo, vi nSy, vi nSl, vi nSr]), (sg, cA g 8 SG), (sq, cA g 8 SQ), (sp, cA g 8 SP), (sd, cA g 8 SD), (sc, cA g 8 SC), (xh, cA g 40 XH), (xp, cA g 40 XP), (xr, cA g 40 XR), (xc, cA g 40 XC), (xl, cA g 40 XL)] 0 0 [(0, .ref so), (1, .ref to), (2, vi y)] 0 []
  refine g_aload_n C 0 dX5_settleLayer_0 rfl ?_
  refine g_aload_n C 1 dX5_settleLayer_1 rfl ?_
  refine g_iload_n C 2 dX5_settleLayer_2 rfl ?_
  refine g_callVp C [vi y] [.ref so] (c_X7_capacity x.1.2.1 g to tf td tS tr tp tt DP RE nY Q y hy) y_X7_capacity l_X5_72 [0, 2, 4] rfl (by decide) 0 rfl rfl rfl (Nat.le_of_ble_eq_true rfl) rfl (by decide) dX5_settleLayer_3 ?_
  refine g_putf C k_X5 tyX5_ok nmX5 12 f_X5_75 7 rfl rfl (by decide) rfl rfl rfl rfl (Nat.le_of_ble_eq_true rfl) [(to, cO 7 [.ref tf, .ref td, .ref tS, .ref tr, .ref tp, .ref tt, vi nY, vi Q]), (tf, cA g 5 FL), (td, cA g 5 DP), (tS, cA g 5 SH), (tr, cA g 5 RE), (tp, cA g 5 PR), (tt, cA g 5 RA), (so, cO 5 [.ref sg, .ref sq, .ref sp, .ref sd, .ref sc, .ref xh, .ref xp, .ref xr, .ref xc, .ref xl, vi nSo, vi nSy, vi (cap DP RE y), vi nSr]), (sg, cA g 8 SG), (sq, cA g 8 SQ), (sp, cA g 8 SP), (sd, cA g 8 SD), (sc, cA g 8 SC), (xh, cA g 40 XH), (xp, cA g 40 XP), (xr, cA g 40 XR), (xc, cA g 40 XC), (xl, cA g 40 XL)] rfl dX5_settleLayer_6 ?_
  refine g_aload_n C 0 dX5_settleLayer_9 rfl ?_
  refine g_aload_n C 1 dX5_settleLayer_10 rfl ?_
  refine g_iload_n C 2 dX5_settleLayer_11 rfl ?_
  refine g_callVp C [vi y] [.ref so] (c_X7_restorable x.1.2.1 g to tf td tS tr tp tt DP RE nY Q y hy) y_X7_restorable l_X5_78 [0, 2, 4] rfl (by decide) 0 rfl rfl rfl (Nat.le_of_ble_eq_true rfl) rfl (by decide) dX5_settleLayer_12 ?_
  refine g_putf C k_X5 tyX5_ok nmX5 13 f_X5_81 7 rfl rfl (by decide) rfl rfl rfl rfl (Nat.le_of_ble_eq_true rfl) [(to, cO 7 [.ref tf, .ref td, .ref tS, .ref tr, .ref tp, .ref tt, vi nY, vi Q]), (tf, cA g 5 FL), (td, cA g 5 DP), (tS, cA g 5 SH), (tr, cA g 5 RE), (tp, cA g 5 PR), (tt, cA g 5 RA), (so, cO 5 [.ref sg, .ref sq, .ref sp, .ref sd, .ref sc, .ref xh, .ref xp, .ref xr, .ref xc, .ref xl, vi nSo, vi nSy, vi (cap DP RE y), vi (DP y * RE y)]), (sg, cA g 8 SG), (sq, cA g 8 SQ), (sp, cA g 8 SP), (sd, cA g 8 SD), (sc, cA g 8 SC), (xh, cA g 40 XH), (xp, cA g 40 XP), (xr, cA g 40 XR), (xc, cA g 40 XC), (xl, cA g 40 XL)] rfl dX5_settleLayer_15 ?_
  refine g_iconst C dX5_settleLayer_18 ?_
  refine g_istore_n C [(3, vi 0), (0, .ref so), (1, .ref to), (2, vi y)] dX5_settleLayer_19 (by decide) rfl ?_
  have L20 : ∀ (f : Nat) (le : Int) (re : Int) (p : Int) (cH : Int → Int) (cP : Int → Int) (cR : Int → Int) (cC : Int → Int) (cL : Int → Int) (cD : Int → Int) (cE : Int → Int), (0 ≤ p ∧ p ≤ nSo ∧ le = lf FL DP RE y (nt SG SQ SO) p ∧ re = rs FL DP RE y (nt SG SQ SO) p ∧ cH = scat XH (fun a => y * 8 + SO a) (hitA FL DP RE y (nt SG SQ SO)) p ∧ cP = scat XP (fun a => y * 8 + SO a) (fun a => pay SH y ((hitA FL DP RE y (nt SG SQ SO)) a)) p ∧ cR = scat XR (fun a => y * 8 + SO a) (resA FL DP RE y (nt SG SQ SO)) p ∧ cC = scat XC (fun a => y * 8 + SO a) (fun a => chg DP PR RA y ((resA FL DP RE y (nt SG SQ SO)) a)) p ∧ cL = scat XL (fun a => y * 8 + SO a) (fun a => lf FL DP RE y (nt SG SQ SO) (a + 1)) p ∧ cD = scad SD SO (fun a => pay SH y ((hitA FL DP RE y (nt SG SQ SO)) a)) p ∧ cE = scad SC SO (fun a => chg DP PR RA y ((resA FL DP RE y (nt SG SQ SO)) a)) p) → (nSo - p).toNat < f → gW g x [(to, cO 7 [.ref tf, .ref td, .ref tS, .ref tr, .ref tp, .ref tt, vi nY, vi Q]), (tf, cA g 5 FL), (td, cA g 5 DP), (tS, cA g 5 SH), (tr, cA g 5 RE), (tp, cA g 5 PR), (tt, cA g 5 RA), (so, cO 5 [.ref sg, .ref sq, .ref sp, .ref sd, .ref sc, .ref xh, .ref xp, .ref xr, .ref xc, .ref xl, vi nSo, vi nSy, vi le, vi re]), (sg, cA g 8 SG), (sq, cA g 8 SQ), (sp, cA g 8 SP), (sd, cA g 8 cD), (sc, cA g 8 cE), (xh, cA g 40 cH), (xp, cA g 40 cP), (xr, cA g 40 cR), (xc, cA g 40 cC), (xl, cA g 40 cL)] 0 0 [(3, vi p), (0, .ref so), (1, .ref to), (2, vi y)] 20 [] := by
    intro f
    induction f with
    | zero => intro le re p cH cP cR cC cL cD cE hI20 hf; exact absurd hf (Nat.not_lt_zero _)
    | succ f ih20 =>
      intro le re p cH cP cR cC cL cD cE hI20 hf20
      obtain ⟨hp0, hp1, hle, hre, hH9, hP9, hR9, hC9, hL9, hD9, hE9⟩ := hI20
      refine g_iload_n C 0 dX5_settleLayer_20 rfl ?_
      refine g_aload_n C 1 dX5_settleLayer_21 rfl ?_
      refine g_getf C k_X5 10 f_X5_48 7 rfl rfl (by decide) rfl rfl dX5_settleLayer_22 ?_
      refine g_icmp_ge C 71 dX5_settleLayer_25 (by decide) (by omega) (by omega) (fun c25 => ?_) (fun c25 => ?_)
      · obtain rfl : p = nSo := by omega
        subst hle hre hH9 hP9 hR9 hC9 hL9 hD9 hE9
        exact g_vretM C hR dX5_settleLayer_71 rfl rfl
      obtain ⟨⟨hq0, hq1⟩, hq2⟩ := hinv p hp0 (by omega)
      have hn0 : nx9 SO p 0 = p := if_pos hq0
      refine g_iconst C dX5_settleLayer_28 ?_
      refine g_istore C [(4, vi 0), (3, vi p), (0, .ref so), (1, .ref to), (2, vi y)] dX5_settleLayer_29 (by decide) rfl ?_
      have L31 : ∀ (f : Nat) (lw : Int) (rw9 : Int) (i : Int) (dH : Int → Int) (dP : Int → Int) (dR : Int → Int) (dC : Int → Int) (dL : Int → Int) (dD : Int → Int) (dE : Int → Int), (0 ≤ i ∧ i ≤ nSo ∧ lw = lf FL DP RE y (nt SG SQ SO) (nx9 SO p i) ∧ rw9 = rs FL DP RE y (nt SG SQ SO) (nx9 SO p i) ∧ dH = scat XH (fun a => y * 8 + SO a) (hitA FL DP RE y (nt SG SQ SO)) (nx9 SO p i) ∧ dP = scat XP (fun a => y * 8 + SO a) (fun a => pay SH y ((hitA FL DP RE y (nt SG SQ SO)) a)) (nx9 SO p i) ∧ dR = scat XR (fun a => y * 8 + SO a) (resA FL DP RE y (nt SG SQ SO)) (nx9 SO p i) ∧ dC = scat XC (fun a => y * 8 + SO a) (fun a => chg DP PR RA y ((resA FL DP RE y (nt SG SQ SO)) a)) (nx9 SO p i) ∧ dL = scat XL (fun a => y * 8 + SO a) (fun a => lf FL DP RE y (nt SG SQ SO) (a + 1)) (nx9 SO p i) ∧ dD = scad SD SO (fun a => pay SH y ((hitA FL DP RE y (nt SG SQ SO)) a)) (nx9 SO p i) ∧ dE = scad SC SO (fun a => chg DP PR RA y ((resA FL DP RE y (nt SG SQ SO)) a)) (nx9 SO p i)) → (nSo - i).toNat < f → gW g x [(to, cO 7 [.ref tf, .ref td, .ref tS, .ref tr, .ref tp, .ref tt, vi nY, vi Q]), (tf, cA g 5 FL), (td, cA g 5 DP), (tS, cA g 5 SH), (tr, cA g 5 RE), (tp, cA g 5 PR), (tt, cA g 5 RA), (so, cO 5 [.ref sg, .ref sq, .ref sp, .ref sd, .ref sc, .ref xh, .ref xp, .ref xr, .ref xc, .ref xl, vi nSo, vi nSy, vi lw, vi rw9]), (sg, cA g 8 SG), (sq, cA g 8 SQ), (sp, cA g 8 SP), (sd, cA g 8 dD), (sc, cA g 8 dE), (xh, cA g 40 dH), (xp, cA g 40 dP), (xr, cA g 40 dR), (xc, cA g 40 dC), (xl, cA g 40 dL)] 0 0 [(4, vi i), (3, vi p), (0, .ref so), (1, .ref to), (2, vi y)] 31 [] := by
        intro f
        induction f with
        | zero => intro lw rw9 i dH dP dR dC dL dD dE hI31 hf; exact absurd hf (Nat.not_lt_zero _)
        | succ f ih31 =>
          intro lw rw9 i dH dP dR dC dL dD dE hI31 hf31
          obtain ⟨hi0, hi1, hlw, hrw, gH9, gP9, gR9, gC9, gL9, gD9, gE9⟩ := hI31
          refine g_iload C 0 dX5_settleLayer_31 rfl ?_
          refine g_aload_n C 2 dX5_settleLayer_33 rfl ?_
          refine g_getf C k_X5 10 f_X5_48 7 rfl rfl (by decide) rfl rfl dX5_settleLayer_34 ?_
          refine g_icmp_ge C 65 dX5_settleLayer_37 (by decide) (by omega) (by omega) (fun c37 => ?_) (fun c37 => ?_)
          · have hx9 : nx9 SO p i = p + 1 := if_neg (by omega)
            refine g_iinc C 1 [(3, vi (p + 1)), (4, vi i), (0, .ref so), (1, .ref to), (2, vi y)] dX5_settleLayer_65 rfl (by decide) rfl ?_
            refine g_goto C 20 dX5_settleLayer_68 (by decide) ?_
            refine g_lv [(3, vi (p + 1)), (0, .ref so), (1, .ref to), (2, vi y)] [0, 2, 3, 4] rfl ?_
            exact ih20 lw rw9 (p + 1) dH dP dR dC dL dD dE ⟨by omega, by omega, by rw [← hx9]; exact hlw, by rw [← hx9]; exact hrw, by rw [← hx9]; exact gH9, by rw [← hx9]; exact gP9, by rw [← hx9]; exact gR9, by rw [← hx9]; exact gC9, by rw [← hx9]; exact gL9, by rw [← hx9]; exact gD9, by rw [← hx9]; exact gE9⟩ (by omega)
          obtain ⟨⟨hs0, hs1⟩, hs2⟩ := hpl i hi0 (by omega)
          refine g_aload_n C 2 dX5_settleLayer_40 rfl ?_
          refine g_getf C k_X5 2 f_X5_18 7 rfl rfl (by decide) rfl rfl dX5_settleLayer_41 ?_
          refine g_iload C 0 dX5_settleLayer_44 rfl ?_
          refine g_iald C 10 rfl (by omega) dX5_settleLayer_46 ?_
          refine g_iload_n C 1 dX5_settleLayer_47 rfl ?_
          refine g_icmp_ne C 59 dX5_settleLayer_48 (by decide) (by omega) (by omega) (fun c48 => ?_) (fun c48 => ?_)
          · have hnx : nx9 SO p (i + 1) = nx9 SO p i := by
              have e9 : i ≠ SO p := fun z => by rw [z, hq2] at c48; exact c48 rfl
              unfold nx9; split <;> split <;> omega
            refine g_iinc C 0 [(4, vi (i + 1)), (3, vi p), (0, .ref so), (1, .ref to), (2, vi y)] dX5_settleLayer_59 rfl (by decide) rfl ?_
            refine g_goto C 31 dX5_settleLayer_62 (by decide) ?_
            exact ih31 lw rw9 (i + 1) dH dP dR dC dL dD dE (by first | exact ⟨by omega, by omega, by rw [hn2]; exact hl9, by rw [hn2]; exact hr9, by rw [hn2]; exact so_up hp0 (by rw [← hn1]; exact gH9) (by rw [hi9]) hh9, by rw [hn2]; exact so_up hp0 (by rw [← hn1]; exact gP9) (by rw [hi9]) (congrArg (pay SH y) hh9), by rw [hn2]; exact so_up hp0 (by rw [← hn1]; exact gR9) (by rw [hi9]) hw9, by rw [hn2]; exact so_up hp0 (by rw [← hn1]; exact gC9) (by rw [hi9]) (congrArg (chg DP PR RA y) hw9), by rw [hn2]; exact so_up hp0 (by rw [← hn1]; exact gL9) (by rw [hi9]) hl9, by rw [hn2]; exact so_ad hp0 (by rw [← hn1]; exact gD9) (by rw [hi9]) (congrArg (pay SH y) hh9), by rw [hn2]; exact so_ad hp0 (by rw [← hn1]; exact gE9) (by rw [hi9]) (congrArg (chg DP PR RA y) hw9)⟩ | exact ⟨by omega, by omega, by rw [hnx]; exact hlw, by rw [hnx]; exact hrw, by rw [hnx]; exact gH9, by rw [hnx]; exact gP9, by rw [hnx]; exact gR9, by rw [hnx]; exact gC9, by rw [hnx]; exact gL9, by rw [hnx]; exact gD9, by rw [hnx]; exact gE9⟩) (by omega)
          have hi9 : i = SO p := by
            have e9 := Classical.not_not.mp c48
            rw [e9] at hs2; exact hs2.symm
          have hn1 : nx9 SO p i = p := if_pos (by omega)
          have hn2 : nx9 SO p (i + 1) = p + 1 := if_neg (by omega)
          have hlw2 : lw = lf FL DP RE y (nt SG SQ SO) p := by rw [← hn1]; exact hlw
          have hrw2 : rw9 = rs FL DP RE y (nt SG SQ SO) p := by rw [← hn1]; exact hrw
          have hh9 : mn (fhit FL DP y (SG i - SQ i)) lw = (hitA FL DP RE y (nt SG SQ SO)) p := by rw [hlw2, hi9]; rfl
          have hw9 : mn (mn (fhit FL DP y (SG i - SQ i)) lw) rw9 = (resA FL DP RE y (nt SG SQ SO)) p := by rw [hh9, hrw2]; rfl
          have hl9 : lw - mn (fhit FL DP y (SG i - SQ i)) lw = lf FL DP RE y (nt SG SQ SO) (p + 1) := by rw [lf_s _ _ _ _ _ hp0, hh9, hlw2]
          have hr9 : rw9 - mn (mn (fhit FL DP y (SG i - SQ i)) lw) rw9 = rs FL DP RE y (nt SG SQ SO) (p + 1) := by rw [rs_s _ _ _ _ _ hp0, hw9, hrw2]
          have hr8 := lf_r (FL := FL) hDP hRE y (nt SG SQ SO) hp0
          have hn9 := hNet i
          refine g_aload_n C 2 dX5_settleLayer_51 rfl ?_
          refine g_aload_n C 3 dX5_settleLayer_52 rfl ?_
          refine g_iload_n C 4 dX5_settleLayer_53 rfl ?_
          refine g_iload C 0 dX5_settleLayer_54 rfl ?_
          refine g_callV C [.ref to, vi y, vi i] [] (c_X5_settleOne x.1.2.1 g to tf td tS tr tp tt FL DP SH RE PR RA nY Q so sg sq sp sd sc xh xp xr xc xl SG SQ dD dE dH dP dR dC dL nSo nSy lw rw9 y i hFL hDP hSH hRE hPR hRA (by omega) hy (by omega) hd (by omega) (by omega)) y_X5_settleOne l_X5_83 [0, 1, 2, 3, 4, 5, 6, 7, 8, 9, 11, 12, 13, 14, 15, 16, 17] rfl (by decide) 7 rfl rfl rfl (Nat.le_of_ble_eq_true rfl) rfl (by decide) dX5_settleLayer_56 (fun v9 w9 hp9 => ?_)
          obtain ⟨rfl, rfl⟩ := hp9
          simp only [putAll, List.set_cons_succ, List.set_cons_zero, List.cons_append, List.nil_append, List.append_nil, Option.toList]
          show gW g x [(to, cO 7 [.ref tf, .ref td, .ref tS, .ref tr, .ref tp, .ref tt, vi nY, vi Q]), (tf, cA g 5 FL), (td, cA g 5 DP), (tS, cA g 5 SH), (tr, cA g 5 RE), (tp, cA g 5 PR), (tt, cA g 5 RA), (so, cO 5 [.ref sg, .ref sq, .ref sp, .ref sd, .ref sc, .ref xh, .ref xp, .ref xr, .ref xc, .ref xl, vi nSo, vi nSy, vi (lw - (mn (fhit FL DP y (SG i - SQ i)) lw)), vi (rw9 - (mn (mn (fhit FL DP y (SG i - SQ i)) lw) rw9))]), (sg, cA g 8 SG), (sq, cA g 8 SQ), (sp, cA g 8 SP), (sd, cA g 8 (up dD i (dD i + pay SH y (mn (fhit FL DP y (SG i - SQ i)) lw)))), (sc, cA g 8 (up dE i (dE i + chg DP PR RA y (mn (mn (fhit FL DP y (SG i - SQ i)) lw) rw9)))), (xh, cA g 40 (up dH (y * 8 + i) (mn (fhit FL DP y (SG i - SQ i)) lw))), (xp, cA g 40 (up dP (y * 8 + i) (pay SH y (mn (fhit FL DP y (SG i - SQ i)) lw)))), (xr, cA g 40 (up dR (y * 8 + i) (mn (mn (fhit FL DP y (SG i - SQ i)) lw) rw9))), (xc, cA g 40 (up dC (y * 8 + i) (chg DP PR RA y (mn (mn (fhit FL DP y (SG i - SQ i)) lw) rw9)))), (xl, cA g 40 (up dL (y * 8 + i) (lw - (mn (fhit FL DP y (SG i - SQ i)) lw))))] 0 0 [(4, vi i), (3, vi p), (0, .ref so), (1, .ref to), (2, vi y)] 59 []
          refine g_iinc C 0 [(4, vi (i + 1)), (3, vi p), (0, .ref so), (1, .ref to), (2, vi y)] dX5_settleLayer_59 rfl (by decide) rfl ?_
          refine g_goto C 31 dX5_settleLayer_62 (by decide) ?_
          exact ih31 (lw - (mn (fhit FL DP y (SG i - SQ i)) lw)) (rw9 - (mn (mn (fhit FL DP y (SG i - SQ i)) lw) rw9)) (i + 1) (up dH (y * 8 + i) (mn (fhit FL DP y (SG i - SQ i)) lw)) (up dP (y * 8 + i) (pay SH y (mn (fhit FL DP y (SG i - SQ i)) lw))) (up dR (y * 8 + i) (mn (mn (fhit FL DP y (SG i - SQ i)) lw) rw9)) (up dC (y * 8 + i) (chg DP PR RA y (mn (mn (fhit FL DP y (SG i - SQ i)) lw) rw9))) (up dL (y * 8 + i) (lw - (mn (fhit FL DP y (SG i - SQ i)) lw))) (up dD i (dD i + pay SH y (mn (fhit FL DP y (SG i - SQ i)) lw))) (up dE i (dE i + chg DP PR RA y (mn (mn (fhit FL DP y (SG i - SQ i)) lw) rw9))) (by first | exact ⟨by omega, by omega, by rw [hn2]; exact hl9, by rw [hn2]; exact hr9, by rw [hn2]; exact so_up hp0 (by rw [← hn1]; exact gH9) (by rw [hi9]) hh9, by rw [hn2]; exact so_up hp0 (by rw [← hn1]; exact gP9) (by rw [hi9]) (congrArg (pay SH y) hh9), by rw [hn2]; exact so_up hp0 (by rw [← hn1]; exact gR9) (by rw [hi9]) hw9, by rw [hn2]; exact so_up hp0 (by rw [← hn1]; exact gC9) (by rw [hi9]) (congrArg (chg DP PR RA y) hw9), by rw [hn2]; exact so_up hp0 (by rw [← hn1]; exact gL9) (by rw [hi9]) hl9, by rw [hn2]; exact so_ad hp0 (by rw [← hn1]; exact gD9) (by rw [hi9]) (congrArg (pay SH y) hh9), by rw [hn2]; exact so_ad hp0 (by rw [← hn1]; exact gE9) (by rw [hi9]) (congrArg (chg DP PR RA y) hw9)⟩ | exact ⟨by omega, by omega, by rw [hnx]; exact hlw, by rw [hnx]; exact hrw, by rw [hnx]; exact gH9, by rw [hnx]; exact gP9, by rw [hnx]; exact gR9, by rw [hnx]; exact gC9, by rw [hnx]; exact gL9, by rw [hnx]; exact gD9, by rw [hnx]; exact gE9⟩) (by omega)
      exact L31 _ le re 0 cH cP cR cC cL cD cE ⟨by omega, by omega, by rw [hn0]; exact hle, by rw [hn0]; exact hre, by rw [hn0]; exact hH9, by rw [hn0]; exact hP9, by rw [hn0]; exact hR9, by rw [hn0]; exact hC9, by rw [hn0]; exact hL9, by rw [hn0]; exact hD9, by rw [hn0]; exact hE9⟩ (Nat.lt_succ_self _)
  exact L20 _ (cap DP RE y) (DP y * RE y) 0 XH XP XR XC XL SD SC ⟨by omega, by omega, rfl, rfl, rfl, rfl, rfl, rfl, rfl, rfl, rfl⟩ (Nat.lt_succ_self _)

