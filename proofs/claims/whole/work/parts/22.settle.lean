/-! rows filled place by place -/
def scN (F ix v : Int → Int) : Nat → Int → Int
  | 0 => F
  | n + 1 => up (scN F ix v n) (ix n) (v n)
def scat (F ix v : Int → Int) (n : Int) : Int → Int := scN F ix v n.toNat
theorem scat_s (F ix v : Int → Int) {i : Int} (h : 0 ≤ i) : scat F ix v (i + 1) = up (scat F ix v i) (ix i) (v i) := by
  obtain ⟨k, rfl⟩ : ∃ k : Nat, i = k := ⟨i.toNat, by omega⟩
  have e : ((k : Int) + 1).toNat = k + 1 := by omega
  have e2 : (k : Int).toNat = k := by omega
  simp only [scat, e, e2, scN]
def sdN (F ix v : Int → Int) : Nat → Int → Int
  | 0 => F
  | n + 1 => up (sdN F ix v n) (ix n) (sdN F ix v n (ix n) + v n)
def scad (F ix v : Int → Int) (n : Int) : Int → Int := sdN F ix v n.toNat
theorem scad_s (F ix v : Int → Int) {i : Int} (h : 0 ≤ i) : scad F ix v (i + 1) = up (scad F ix v i) (ix i) (scad F ix v i (ix i) + v i) := by
  obtain ⟨k, rfl⟩ : ∃ k : Nat, i = k := ⟨i.toNat, by omega⟩
  have e : ((k : Int) + 1).toNat = k + 1 := by omega
  have e2 : (k : Int).toNat = k := by omega
  simp only [scad, e, e2, sdN]
theorem cpy_s (f G : Int → Int) {i : Int} (h : 0 ≤ i) : cpy f G (i + 1) = up (cpy f G i) i (f i) := by
  funext j
  simp only [cpy, up]
  by_cases e : j = i
  · subst e; rw [if_pos (by omega), if_pos rfl]
  · rw [if_neg e]
    by_cases q : 0 ≤ j ∧ j < i
    · rw [if_pos (by omega), if_pos q]
    · rw [if_neg (by omega), if_neg q]
theorem cpy_0 (f G : Int → Int) : cpy f G 0 = G := by
  funext j; simp only [cpy]; rw [if_neg (by omega)]
theorem cpy_in {f G : Int → Int} {n j : Int} (h : 0 ≤ j ∧ j < n) : cpy f G n j = f j := if_pos h
theorem scat_out {F ix v : Int → Int} {n : Int} (hn : 0 ≤ n) {z : Int} (h : ∀ b, 0 ≤ b → b < n → ix b ≠ z) : scat F ix v n z = F z := by
  have := sm_ind (P := fun m => m ≤ n → scat F ix v m z = F z) (fun _ => rfl) (fun i hi ih hm => by rw [scat_s _ _ _ hi, up_n (Ne.symm (h i hi (by omega))), ih (by omega)]) n hn
  exact this (Int.le_refl _)
theorem scat_in {F ix v : Int → Int} {n : Int} (hn : 0 ≤ n) (inj : ∀ a b, 0 ≤ a → a < n → 0 ≤ b → b < n → ix a = ix b → a = b) {b : Int} (h0 : 0 ≤ b) (h1 : b < n) : scat F ix v n (ix b) = v b := by
  have := sm_ind (P := fun m => m ≤ n → b < m → scat F ix v m (ix b) = v b) (fun _ h => by omega) (fun i hi ih hm hb => by
    rw [scat_s _ _ _ hi]
    by_cases e : b = i
    · subst e; exact up_s
    · rw [up_n (fun q => e (inj b i h0 (by omega) hi (by omega) q)), ih (by omega) (by omega)]) n hn
  exact this (Int.le_refl _) h1
theorem scad_in {F ix v : Int → Int} {n : Int} (hn : 0 ≤ n) (inj : ∀ a b, 0 ≤ a → a < n → 0 ≤ b → b < n → ix a = ix b → a = b) {b : Int} (h0 : 0 ≤ b) (h1 : b < n) : scad F ix v n (ix b) = F (ix b) + v b := by
  have := sm_ind (P := fun m => m ≤ n → (m ≤ b → scad F ix v m (ix b) = F (ix b)) ∧ (b < m → scad F ix v m (ix b) = F (ix b) + v b)) (fun _ => ⟨fun _ => rfl, fun h => by omega⟩) (fun i hi ih hm => by
    rw [scad_s _ _ _ hi]
    have ih := ih (by omega)
    by_cases e : b = i
    · subst e; refine ⟨fun q => by omega, fun _ => ?_⟩; rw [up_s, ih.1 (Int.le_refl _)]
    · have ne := fun q => e (inj b i h0 (by omega) hi (by omega) q)
      refine ⟨fun q => ?_, fun q => ?_⟩
      · rw [up_n ne]; exact ih.1 (by omega)
      · rw [up_n ne]; exact ih.2 (by omega)) n hn
  exact (this (Int.le_refl _)).2 h1
/-! a layer's way through the windows, place by place -/
def mn (a b : Int) : Int := if b < a then b else a
def stl (FL DP RE : Int → Int) (y : Int) (net : Int → Int) : Nat → Int × Int
  | 0 => (cap DP RE y, DP y * RE y)
  | n + 1 => ((stl FL DP RE y net n).1 - mn (fhit FL DP y (net n)) (stl FL DP RE y net n).1, (stl FL DP RE y net n).2 - mn (mn (fhit FL DP y (net n)) (stl FL DP RE y net n).1) (stl FL DP RE y net n).2)
def lf (FL DP RE : Int → Int) (y : Int) (net : Int → Int) (a : Int) : Int := (stl FL DP RE y net a.toNat).1
def rs (FL DP RE : Int → Int) (y : Int) (net : Int → Int) (a : Int) : Int := (stl FL DP RE y net a.toNat).2
def hitA (FL DP RE : Int → Int) (y : Int) (net : Int → Int) (a : Int) : Int := mn (fhit FL DP y (net a)) (lf FL DP RE y net a)
def resA (FL DP RE : Int → Int) (y : Int) (net : Int → Int) (a : Int) : Int := mn (hitA FL DP RE y net a) (rs FL DP RE y net a)
theorem lf_0 (FL DP RE : Int → Int) (y : Int) (net : Int → Int) : lf FL DP RE y net 0 = cap DP RE y := rfl
theorem rs_0 (FL DP RE : Int → Int) (y : Int) (net : Int → Int) : rs FL DP RE y net 0 = DP y * RE y := rfl
theorem lf_s (FL DP RE : Int → Int) (y : Int) (net : Int → Int) {a : Int} (h : 0 ≤ a) : lf FL DP RE y net (a + 1) = lf FL DP RE y net a - hitA FL DP RE y net a := by
  obtain ⟨k, rfl⟩ : ∃ k : Nat, a = k := ⟨a.toNat, by omega⟩
  have e : ((k : Int) + 1).toNat = k + 1 := by omega
  have e2 : (k : Int).toNat = k := by omega
  simp only [lf, hitA, e, e2, stl]
theorem rs_s (FL DP RE : Int → Int) (y : Int) (net : Int → Int) {a : Int} (h : 0 ≤ a) : rs FL DP RE y net (a + 1) = rs FL DP RE y net a - resA FL DP RE y net a := by
  obtain ⟨k, rfl⟩ : ∃ k : Nat, a = k := ⟨a.toNat, by omega⟩
  have e : ((k : Int) + 1).toNat = k + 1 := by omega
  have e2 : (k : Int).toNat = k := by omega
  simp only [lf, rs, hitA, resA, e, e2, stl]
theorem lf_r {FL DP RE : Int → Int} (hDP : ∀ k, 0 ≤ DP k ∧ DP k ≤ 999999) (hRE : ∀ k, 0 ≤ RE k ∧ RE k ≤ 3) (y : Int) (net : Int → Int) {a : Int} (h : 0 ≤ a) : (0 ≤ lf FL DP RE y net a ∧ lf FL DP RE y net a ≤ 3999996) ∧ (0 ≤ rs FL DP RE y net a ∧ rs FL DP RE y net a ≤ 2999997) := by
  refine sm_ind (P := fun a => (0 ≤ lf FL DP RE y net a ∧ lf FL DP RE y net a ≤ 3999996) ∧ (0 ≤ rs FL DP RE y net a ∧ rs FL DP RE y net a ≤ 2999997)) ?_ (fun i hi ih => ?_) a h
  · have := mul_rng (hDP y) (hRE y)
    have := hDP y
    rw [lf_0, rs_0]; unfold cap; omega
  · rw [lf_s _ _ _ _ _ hi, rs_s _ _ _ _ _ hi]
    have h1 := fhit_r (FL := FL) hDP y (net i)
    unfold resA hitA mn; omega
theorem hitA_r {FL DP RE : Int → Int} (hDP : ∀ k, 0 ≤ DP k ∧ DP k ≤ 999999) (hRE : ∀ k, 0 ≤ RE k ∧ RE k ≤ 3) (y : Int) (net : Int → Int) {a : Int} (h : 0 ≤ a) : (0 ≤ hitA FL DP RE y net a ∧ hitA FL DP RE y net a ≤ 999999) ∧ (0 ≤ resA FL DP RE y net a ∧ resA FL DP RE y net a ≤ 999999) := by
  have h1 := fhit_r (FL := FL) hDP y (net a)
  have h2 := lf_r (FL := FL) hDP hRE y net h
  have h3 := hDP y
  unfold resA hitA mn; omega
def nt (SG SQ SO : Int → Int) (a : Int) : Int := SG (SO a) - SQ (SO a)

set_option maxHeartbeats 4000000 in
set_option maxRecDepth 100000 in
theorem c_X5_slotOf (l : Launch) (g : gD) (a : Int) (b : Int)  : gMet l g yX5_slotOf cX5_slotOf 2 (some .int) 0 0 0 0 [vi a, vi b] [] (gM (some (vi (a * 8 + b))) []) := by
  refine gMet.of y_X5_slotOf.2.2.2.1 (Nat.le_of_ble_eq_true rfl) ?_
  intro x hlx C hR hnm
  subst hlx
  have C : gC g x RX5 cX5_slotOf 2 0 0 0 0 := C
  show gW g x [] 0 0 [(0, vi a), (1, vi b)] 0 []
  refine g_iload_n C 0 dX5_slotOf_0 rfl ?_
  refine g_bipush C dX5_slotOf_1 (by decide) ?_
  refine g_imul C dX5_slotOf_3 ?_
  refine g_iload_n C 1 dX5_slotOf_4 rfl ?_
  refine g_iadd C dX5_slotOf_5 ?_
  exact g_iretM C hR dX5_slotOf_6 (by first | rfl | omega) rfl rfl

set_option maxHeartbeats 4000000 in
set_option maxRecDepth 100000 in
theorem c_X5_netOf (l : Launch) (g : gD) (so : Nat) (sg : Nat) (sq : Nat) (sp : Nat) (sr : Nat) (sd : Nat) (sc : Nat) (xh : Nat) (xp : Nat) (xr : Nat) (xc : Nat) (xl : Nat) (SG : Int → Int) (SQ : Int → Int) (nSo : Int) (nSy : Int) (a : Int) (ha : 0 ≤ a ∧ a < 8) : gMet l g yX5_netOf cX5_netOf 2 (some .int) 0 0 0 0 [.ref so, vi a] [(so, cO 5 [.ref sg, .ref sq, .ref sp, .ref sr, .ref sd, .ref sc, .ref xh, .ref xp, .ref xr, .ref xc, .ref xl, vi nSo, vi nSy]), (sg, cA g 8 SG), (sq, cA g 8 SQ)] (gM (some (vi (SG a - SQ a))) [(so, cO 5 [.ref sg, .ref sq, .ref sp, .ref sr, .ref sd, .ref sc, .ref xh, .ref xp, .ref xr, .ref xc, .ref xl, vi nSo, vi nSy]), (sg, cA g 8 SG), (sq, cA g 8 SQ)]) := by
  refine gMet.of y_X5_netOf.2.2.2.2.1 (Nat.le_of_ble_eq_true rfl) ?_
  intro x hlx C hR hnm
  subst hlx
  have C : gC g x RX5 cX5_netOf 2 0 0 0 0 := C
  show gW g x [(so, cO 5 [.ref sg, .ref sq, .ref sp, .ref sr, .ref sd, .ref sc, .ref xh, .ref xp, .ref xr, .ref xc, .ref xl, vi nSo, vi nSy]), (sg, cA g 8 SG), (sq, cA g 8 SQ)] 0 0 [(0, .ref so), (1, vi a)] 0 []
  refine g_aload_n C 0 dX5_netOf_0 rfl ?_
  refine g_getf C k_X5 0 f_X5_9 0 rfl rfl (by decide) rfl rfl dX5_netOf_1 ?_
  refine g_iload_n C 1 dX5_netOf_4 rfl ?_
  refine g_iald C 1 rfl (by omega) dX5_netOf_5 ?_
  refine g_aload_n C 0 dX5_netOf_6 rfl ?_
  refine g_getf C k_X5 1 f_X5_15 0 rfl rfl (by decide) rfl rfl dX5_netOf_7 ?_
  refine g_iload_n C 1 dX5_netOf_10 rfl ?_
  refine g_iald C 2 rfl (by omega) dX5_netOf_11 ?_
  refine g_isub C dX5_netOf_12 ?_
  exact g_iretM C hR dX5_netOf_13 (by first | rfl | omega) rfl rfl

set_option maxHeartbeats 4000000 in
set_option maxRecDepth 100000 in
theorem c_X5_settleLayer (l : Launch) (g : gD) (to : Nat) (tf : Nat) (td : Nat) (tS : Nat) (tr : Nat) (tp : Nat) (tt : Nat) (FL : Int → Int) (DP : Int → Int) (SH : Int → Int) (RE : Int → Int) (PR : Int → Int) (RA : Int → Int) (nY : Int) (Q : Int) (so : Nat) (sg : Nat) (sq : Nat) (sp : Nat) (sr : Nat) (sd : Nat) (sc : Nat) (xh : Nat) (xp : Nat) (xr : Nat) (xc : Nat) (xl : Nat) (SG : Int → Int) (SQ : Int → Int) (SO : Int → Int) (SD : Int → Int) (SC : Int → Int) (XH : Int → Int) (XP : Int → Int) (XR : Int → Int) (XC : Int → Int) (XL : Int → Int) (nSo : Int) (nSy : Int) (y : Int) (hFL : ∀ k, 0 ≤ FL k ∧ FL k ≤ 999999) (hDP : ∀ k, 0 ≤ DP k ∧ DP k ≤ 999999) (hSH : ∀ k, 0 ≤ SH k ∧ SH k ≤ 100) (hRE : ∀ k, 0 ≤ RE k ∧ RE k ≤ 3) (hPR : ∀ k, 0 ≤ PR k ∧ PR k ≤ 99999) (hRA : ∀ k, 0 ≤ RA k ∧ RA k ≤ 150) (hSO : ∀ k, 0 ≤ SO k ∧ SO k ≤ 7) (hNet : ∀ k, 0 ≤ SG k - SQ k ∧ SG k - SQ k ≤ 3999960) (hSo : 0 ≤ nSo ∧ nSo ≤ 8) (hy : 0 ≤ y ∧ y < 5) (hd : 1 ≤ DP y) : gMet l g yX5_settleLayer cX5_settleLayer 8 none 2 0 0 42 [.ref so, .ref to, vi y] [(to, cO 7 [.ref tf, .ref td, .ref tS, .ref tr, .ref tp, .ref tt, vi nY, vi Q]), (tf, cA g 5 FL), (td, cA g 5 DP), (tS, cA g 5 SH), (tr, cA g 5 RE), (tp, cA g 5 PR), (tt, cA g 5 RA), (so, cO 5 [.ref sg, .ref sq, .ref sp, .ref sr, .ref sd, .ref sc, .ref xh, .ref xp, .ref xr, .ref xc, .ref xl, vi nSo, vi nSy]), (sg, cA g 8 SG), (sq, cA g 8 SQ), (sr, cA g 8 SO), (sd, cA g 8 SD), (sc, cA g 8 SC), (xh, cA g 40 XH), (xp, cA g 40 XP), (xr, cA g 40 XR), (xc, cA g 40 XC), (xl, cA g 40 XL)] (gM none [(to, cO 7 [.ref tf, .ref td, .ref tS, .ref tr, .ref tp, .ref tt, vi nY, vi Q]), (tf, cA g 5 FL), (td, cA g 5 DP), (tS, cA g 5 SH), (tr, cA g 5 RE), (tp, cA g 5 PR), (tt, cA g 5 RA), (so, cO 5 [.ref sg, .ref sq, .ref sp, .ref sr, .ref sd, .ref sc, .ref xh, .ref xp, .ref xr, .ref xc, .ref xl, vi nSo, vi nSy]), (sg, cA g 8 SG), (sq, cA g 8 SQ), (sr, cA g 8 SO), (sd, cA g 8 (scad SD SO (fun a => pay SH y ((hitA FL DP RE y (nt SG SQ SO)) a)) nSo)), (sc, cA g 8 (scad SC SO (fun a => chg DP PR RA y ((resA FL DP RE y (nt SG SQ SO)) a)) nSo)), (xh, cA g 40 (scat XH (fun a => y * 8 + SO a) (hitA FL DP RE y (nt SG SQ SO)) nSo)), (xp, cA g 40 (scat XP (fun a => y * 8 + SO a) (fun a => pay SH y ((hitA FL DP RE y (nt SG SQ SO)) a)) nSo)), (xr, cA g 40 (scat XR (fun a => y * 8 + SO a) (resA FL DP RE y (nt SG SQ SO)) nSo)), (xc, cA g 40 (scat XC (fun a => y * 8 + SO a) (fun a => chg DP PR RA y ((resA FL DP RE y (nt SG SQ SO)) a)) nSo)), (xl, cA g 40 (scat XL (fun a => y * 8 + SO a) (fun a => lf FL DP RE y (nt SG SQ SO) (a + 1)) nSo))]) := by
  refine gMet.of y_X5_settleLayer.2.2.2.2.1 (Nat.le_of_ble_eq_true rfl) ?_
  intro x hlx C hR hnm
  subst hlx
  have C : gC g x RX5 cX5_settleLayer 8 2 0 0 42 := C
  show gW g x [(to, cO 7 [.ref tf, .ref td, .ref tS, .ref tr, .ref tp, .ref tt, vi nY, vi Q]), (tf, cA g 5 FL), (td, cA g 5 DP), (tS, cA g 5 SH), (tr, cA g 5 RE), (tp, cA g 5 PR), (tt, cA g 5 RA), (so, cO 5 [.ref sg, .ref sq, .ref sp, .ref sr, .ref sd, .ref sc, .ref xh, .ref xp, .ref xr, .ref xc, .ref xl, vi nSo, vi nSy]), (sg, cA g 8 SG), (sq, cA g 8 SQ), (sr, cA g 8 SO), (sd, cA g 8 SD), (sc, cA g 8 SC), (xh, cA g 40 XH), (xp, cA g 40 XP), (xr, cA g 40 XR), (xc, cA g 40 XC), (xl, cA g 40 XL)] 0 0 [(0, .ref so), (1, .ref to), (2, vi y)] 0 []
  refine g_aload_n C 1 dX5_settleLayer_0 rfl ?_
  refine g_iload_n C 2 dX5_settleLayer_1 rfl ?_
  refine g_callVp C [vi y] [] (c_X7_capacity x.1.2.1 g to tf td tS tr tp tt DP RE nY Q y hy) y_X7_capacity l_X5_75 [0, 2, 4] rfl (by decide) 0 rfl rfl rfl (Nat.le_of_ble_eq_true rfl) rfl (by decide) dX5_settleLayer_2 ?_
  refine g_istore_n C [(3, vi (cap DP RE y)), (0, .ref so), (1, .ref to), (2, vi y)] dX5_settleLayer_5 (by decide) rfl ?_
  refine g_aload_n C 2 dX5_settleLayer_6 rfl ?_
  refine g_iload_n C 3 dX5_settleLayer_7 rfl ?_
  refine g_callVp C [vi y] [] (c_X7_restorable x.1.2.1 g to tf td tS tr tp tt DP RE nY Q y hy) y_X7_restorable l_X5_78 [0, 2, 4] rfl (by decide) 0 rfl rfl rfl (Nat.le_of_ble_eq_true rfl) rfl (by decide) dX5_settleLayer_8 ?_
  refine g_istore C [(4, vi (DP y * RE y)), (3, vi (cap DP RE y)), (0, .ref so), (1, .ref to), (2, vi y)] dX5_settleLayer_11 (by decide) rfl ?_
  refine g_iconst C dX5_settleLayer_13 ?_
  refine g_istore C [(5, vi 0), (4, vi (DP y * RE y)), (3, vi (cap DP RE y)), (0, .ref so), (1, .ref to), (2, vi y)] dX5_settleLayer_14 (by decide) rfl ?_
  have L16 : ∀ (f : Nat) (left : Int) (rest : Int) (i : Int) (cH : Int → Int) (cP : Int → Int) (cR : Int → Int) (cC : Int → Int) (cL : Int → Int) (cD : Int → Int) (cE : Int → Int), (0 ≤ i ∧ i ≤ nSo ∧ left = lf FL DP RE y (nt SG SQ SO) i ∧ rest = rs FL DP RE y (nt SG SQ SO) i ∧ cH = scat XH (fun a => y * 8 + SO a) (hitA FL DP RE y (nt SG SQ SO)) i ∧ cP = scat XP (fun a => y * 8 + SO a) (fun a => pay SH y ((hitA FL DP RE y (nt SG SQ SO)) a)) i ∧ cR = scat XR (fun a => y * 8 + SO a) (resA FL DP RE y (nt SG SQ SO)) i ∧ cC = scat XC (fun a => y * 8 + SO a) (fun a => chg DP PR RA y ((resA FL DP RE y (nt SG SQ SO)) a)) i ∧ cL = scat XL (fun a => y * 8 + SO a) (fun a => lf FL DP RE y (nt SG SQ SO) (a + 1)) i ∧ cD = scad SD SO (fun a => pay SH y ((hitA FL DP RE y (nt SG SQ SO)) a)) i ∧ cE = scad SC SO (fun a => chg DP PR RA y ((resA FL DP RE y (nt SG SQ SO)) a)) i) → (nSo - i).toNat < f → gW g x [(to, cO 7 [.ref tf, .ref td, .ref tS, .ref tr, .ref tp, .ref tt, vi nY, vi Q]), (tf, cA g 5 FL), (td, cA g 5 DP), (tS, cA g 5 SH), (tr, cA g 5 RE), (tp, cA g 5 PR), (tt, cA g 5 RA), (so, cO 5 [.ref sg, .ref sq, .ref sp, .ref sr, .ref sd, .ref sc, .ref xh, .ref xp, .ref xr, .ref xc, .ref xl, vi nSo, vi nSy]), (sg, cA g 8 SG), (sq, cA g 8 SQ), (sr, cA g 8 SO), (sd, cA g 8 cD), (sc, cA g 8 cE), (xh, cA g 40 cH), (xp, cA g 40 cP), (xr, cA g 40 cR), (xc, cA g 40 cC), (xl, cA g 40 cL)] 0 0 [(5, vi i), (4, vi rest), (3, vi left), (0, .ref so), (1, .ref to), (2, vi y)] 16 [] := by
    intro f
    induction f with
    | zero => intro left rest i cH cP cR cC cL cD cE hI16 hf; exact absurd hf (Nat.not_lt_zero _)
    | succ f ih16 =>
      intro left rest i cH cP cR cC cL cD cE hI16 hf16
      obtain ⟨hi0, hi1, hlf, hrs, hH, hP, hR9, hC, hL, hD, hE⟩ := hI16
      have hl9 := lf_r (FL := FL) hDP hRE y (nt SG SQ SO) hi0
      have hh9 := hitA_r (FL := FL) hDP hRE y (nt SG SQ SO) hi0
      refine g_iload C 0 dX5_settleLayer_16 rfl ?_
      refine g_aload_n C 3 dX5_settleLayer_18 rfl ?_
      refine g_getf C k_X5 11 f_X5_51 7 rfl rfl (by decide) rfl rfl dX5_settleLayer_19 ?_
      refine g_icmp_ge C 191 dX5_settleLayer_22 (by decide) (by omega) (by omega) (fun c22 => ?_) (fun c22 => ?_)
      · obtain rfl : i = nSo := by omega
        subst hH hP hR9 hC hL hD hE
        exact g_vretM C hR dX5_settleLayer_191 rfl rfl
      refine g_aload_n C 3 dX5_settleLayer_25 rfl ?_
      refine g_getf C k_X5 3 f_X5_21 7 rfl rfl (by decide) rfl rfl dX5_settleLayer_26 ?_
      refine g_iload C 0 dX5_settleLayer_29 rfl ?_
      refine g_iald C 10 rfl (by omega) dX5_settleLayer_31 ?_
      have r1_31 := hSO i
      refine g_istore C [(6, vi (SO i)), (5, vi i), (4, vi rest), (3, vi left), (0, .ref so), (1, .ref to), (2, vi y)] dX5_settleLayer_32 (by decide) rfl ?_
      refine g_iload_n C 6 dX5_settleLayer_34 rfl ?_
      refine g_iload C 0 dX5_settleLayer_35 rfl ?_
      refine g_callSp C [vi y, vi (SO i)] [] (c_X5_slotOf x.1.2.1 g y (SO i)) y_X5_slotOf l_X5_81 [] rfl (by decide) rfl (Nat.le_of_ble_eq_true rfl) rfl (by decide) dX5_settleLayer_37 ?_
      refine g_istore C [(7, vi (y * 8 + (SO i))), (6, vi (SO i)), (5, vi i), (4, vi rest), (3, vi left), (0, .ref so), (1, .ref to), (2, vi y)] dX5_settleLayer_40 (by decide) rfl ?_
      refine g_aload_n C 5 dX5_settleLayer_42 rfl ?_
      refine g_getf C k_X5 6 f_X5_30 7 rfl rfl (by decide) rfl rfl dX5_settleLayer_43 ?_
      refine g_iload C 0 dX5_settleLayer_46 rfl ?_
      refine g_aload_n C 6 dX5_settleLayer_48 rfl ?_
      refine g_iload_n C 7 dX5_settleLayer_49 rfl ?_
      refine g_aload_n C 5 dX5_settleLayer_50 rfl ?_
      refine g_iload C 1 dX5_settleLayer_51 rfl ?_
      refine g_callVp C [vi (SO i)] [vi y, .ref to, vi (y * 8 + (SO i)), .ref xh] (c_X5_netOf x.1.2.1 g so sg sq sp sr sd sc xh xp xr xc xl SG SQ nSo nSy (SO i) (by omega)) y_X5_netOf l_X5_85 [7, 8, 9] rfl (by decide) 7 rfl rfl rfl (Nat.le_of_ble_eq_true rfl) rfl (by decide) dX5_settleLayer_53 ?_
      have hn9 := hNet (SO i)
      refine g_callVp C [vi y, vi (SG (SO i) - SQ (SO i))] [vi (y * 8 + (SO i)), .ref xh] (c_X7_fullHit x.1.2.1 g to tf td tS tr tp tt FL DP nY Q y (SG (SO i) - SQ (SO i)) hFL hDP hy (by omega)) y_X7_fullHit l_X5_88 [0, 1, 2] rfl (by decide) 0 rfl rfl rfl (Nat.le_of_ble_eq_true rfl) rfl (by decide) dX5_settleLayer_56 ?_
      refine g_iload_n C 4 dX5_settleLayer_59 rfl ?_
      have hf9 := fhit_r (FL := FL) hDP y (SG (SO i) - SQ (SO i))
      have hd9 := hDP y
      refine g_mmin C l_X5_91 w_minS w_mathI w_minC (by omega) (by omega) dX5_settleLayer_60 ⟨Nat.le_of_ble_eq_true rfl, Nat.le_of_ble_eq_true rfl⟩ (by decide) (by decide) ?_
      refine g_val (w := hitA FL DP RE y (nt SG SQ SO) i) (by show _ = mn (fhit FL DP y (nt SG SQ SO i)) (lf FL DP RE y (nt SG SQ SO) i); rw [← hlf]; rfl) ?_
      refine g_iast C 13 rfl (by omega) [(to, cO 7 [.ref tf, .ref td, .ref tS, .ref tr, .ref tp, .ref tt, vi nY, vi Q]), (tf, cA g 5 FL), (td, cA g 5 DP), (tS, cA g 5 SH), (tr, cA g 5 RE), (tp, cA g 5 PR), (tt, cA g 5 RA), (so, cO 5 [.ref sg, .ref sq, .ref sp, .ref sr, .ref sd, .ref sc, .ref xh, .ref xp, .ref xr, .ref xc, .ref xl, vi nSo, vi nSy]), (sg, cA g 8 SG), (sq, cA g 8 SQ), (sr, cA g 8 SO), (sd, cA g 8 cD), (sc, cA g 8 cE), (xh, cA g 40 (up cH (y * 8 + (SO i)) (hitA FL DP RE y (nt SG SQ SO) i))), (xp, cA g 40 cP), (xr, cA g 40 cR), (xc, cA g 40 cC), (xl, cA g 40 cL)] rfl dX5_settleLayer_63 ?_
      refine g_aload_n C 5 dX5_settleLayer_64 rfl ?_
      refine g_getf C k_X5 7 f_X5_33 7 rfl rfl (by decide) rfl rfl dX5_settleLayer_65 ?_
      refine g_iload C 0 dX5_settleLayer_68 rfl ?_
      refine g_aload_n C 6 dX5_settleLayer_70 rfl ?_
      refine g_iload_n C 7 dX5_settleLayer_71 rfl ?_
      refine g_aload_n C 5 dX5_settleLayer_72 rfl ?_
      refine g_getf C k_X5 6 f_X5_30 7 rfl rfl (by decide) rfl rfl dX5_settleLayer_73 ?_
      refine g_iload C 0 dX5_settleLayer_76 rfl ?_
      refine g_iald C 13 rfl (by omega) dX5_settleLayer_78 ?_
      refine g_val (w := hitA FL DP RE y (nt SG SQ SO) i) up_s ?_
      refine g_callVp C [vi y, vi (hitA FL DP RE y (nt SG SQ SO) i)] [vi (y * 8 + (SO i)), .ref xp] (c_X7_payFor x.1.2.1 g to tf td tS tr tp tt SH nY Q y (hitA FL DP RE y (nt SG SQ SO) i) hSH hy (by omega)) y_X7_payFor l_X5_96 [0, 3] rfl (by decide) 0 rfl rfl rfl (Nat.le_of_ble_eq_true rfl) rfl (by decide) dX5_settleLayer_79 ?_
      refine g_iast C 14 rfl (by omega) [(to, cO 7 [.ref tf, .ref td, .ref tS, .ref tr, .ref tp, .ref tt, vi nY, vi Q]), (tf, cA g 5 FL), (td, cA g 5 DP), (tS, cA g 5 SH), (tr, cA g 5 RE), (tp, cA g 5 PR), (tt, cA g 5 RA), (so, cO 5 [.ref sg, .ref sq, .ref sp, .ref sr, .ref sd, .ref sc, .ref xh, .ref xp, .ref xr, .ref xc, .ref xl, vi nSo, vi nSy]), (sg, cA g 8 SG), (sq, cA g 8 SQ), (sr, cA g 8 SO), (sd, cA g 8 cD), (sc, cA g 8 cE), (xh, cA g 40 (up cH (y * 8 + (SO i)) (hitA FL DP RE y (nt SG SQ SO) i))), (xp, cA g 40 (up cP (y * 8 + (SO i)) (pay SH y (hitA FL DP RE y (nt SG SQ SO) i)))), (xr, cA g 40 cR), (xc, cA g 40 cC), (xl, cA g 40 cL)] rfl dX5_settleLayer_82 ?_
      refine g_aload_n C 5 dX5_settleLayer_83 rfl ?_
      refine g_getf C k_X5 8 f_X5_36 7 rfl rfl (by decide) rfl rfl dX5_settleLayer_84 ?_
      refine g_iload C 0 dX5_settleLayer_87 rfl ?_
      refine g_aload_n C 5 dX5_settleLayer_89 rfl ?_
      refine g_getf C k_X5 6 f_X5_30 7 rfl rfl (by decide) rfl rfl dX5_settleLayer_90 ?_
      refine g_iload C 0 dX5_settleLayer_93 rfl ?_
      refine g_iald C 13 rfl (by omega) dX5_settleLayer_95 ?_
      refine g_val (w := hitA FL DP RE y (nt SG SQ SO) i) up_s ?_
      refine g_iload C 3 dX5_settleLayer_96 rfl ?_
      refine g_mmin C l_X5_91 w_minS w_mathI w_minC (by omega) (by omega) dX5_settleLayer_98 ⟨Nat.le_of_ble_eq_true rfl, Nat.le_of_ble_eq_true rfl⟩ (by decide) (by decide) ?_
      refine g_val (w := resA FL DP RE y (nt SG SQ SO) i) (by show _ = mn (hitA FL DP RE y (nt SG SQ SO) i) (rs FL DP RE y (nt SG SQ SO) i); rw [← hrs]; rfl) ?_
      refine g_iast C 15 rfl (by omega) [(to, cO 7 [.ref tf, .ref td, .ref tS, .ref tr, .ref tp, .ref tt, vi nY, vi Q]), (tf, cA g 5 FL), (td, cA g 5 DP), (tS, cA g 5 SH), (tr, cA g 5 RE), (tp, cA g 5 PR), (tt, cA g 5 RA), (so, cO 5 [.ref sg, .ref sq, .ref sp, .ref sr, .ref sd, .ref sc, .ref xh, .ref xp, .ref xr, .ref xc, .ref xl, vi nSo, vi nSy]), (sg, cA g 8 SG), (sq, cA g 8 SQ), (sr, cA g 8 SO), (sd, cA g 8 cD), (sc, cA g 8 cE), (xh, cA g 40 (up cH (y * 8 + (SO i)) (hitA FL DP RE y (nt SG SQ SO) i))), (xp, cA g 40 (up cP (y * 8 + (SO i)) (pay SH y (hitA FL DP RE y (nt SG SQ SO) i)))), (xr, cA g 40 (up cR (y * 8 + (SO i)) (resA FL DP RE y (nt SG SQ SO) i))), (xc, cA g 40 cC), (xl, cA g 40 cL)] rfl dX5_settleLayer_101 ?_
      refine g_aload_n C 5 dX5_settleLayer_102 rfl ?_
      refine g_getf C k_X5 9 f_X5_39 7 rfl rfl (by decide) rfl rfl dX5_settleLayer_103 ?_
      refine g_iload C 0 dX5_settleLayer_106 rfl ?_
      refine g_aload_n C 6 dX5_settleLayer_108 rfl ?_
      refine g_iload_n C 7 dX5_settleLayer_109 rfl ?_
      refine g_aload_n C 5 dX5_settleLayer_110 rfl ?_
      refine g_getf C k_X5 8 f_X5_36 7 rfl rfl (by decide) rfl rfl dX5_settleLayer_111 ?_
      refine g_iload C 0 dX5_settleLayer_114 rfl ?_
      refine g_iald C 15 rfl (by omega) dX5_settleLayer_116 ?_
      refine g_val (w := resA FL DP RE y (nt SG SQ SO) i) up_s ?_
      refine g_callVp C [vi y, vi (resA FL DP RE y (nt SG SQ SO) i)] [vi (y * 8 + (SO i)), .ref xc] (c_X7_chargeFor x.1.2.1 g to tf td tS tr tp tt DP PR RA nY Q y (resA FL DP RE y (nt SG SQ SO) i) hDP hPR hRA hy hd (by omega)) y_X7_chargeFor l_X5_99 [0, 2, 5, 6] rfl (by decide) 0 rfl rfl rfl (Nat.le_of_ble_eq_true rfl) rfl (by decide) dX5_settleLayer_117 ?_
      refine g_iast C 16 rfl (by omega) [(to, cO 7 [.ref tf, .ref td, .ref tS, .ref tr, .ref tp, .ref tt, vi nY, vi Q]), (tf, cA g 5 FL), (td, cA g 5 DP), (tS, cA g 5 SH), (tr, cA g 5 RE), (tp, cA g 5 PR), (tt, cA g 5 RA), (so, cO 5 [.ref sg, .ref sq, .ref sp, .ref sr, .ref sd, .ref sc, .ref xh, .ref xp, .ref xr, .ref xc, .ref xl, vi nSo, vi nSy]), (sg, cA g 8 SG), (sq, cA g 8 SQ), (sr, cA g 8 SO), (sd, cA g 8 cD), (sc, cA g 8 cE), (xh, cA g 40 (up cH (y * 8 + (SO i)) (hitA FL DP RE y (nt SG SQ SO) i))), (xp, cA g 40 (up cP (y * 8 + (SO i)) (pay SH y (hitA FL DP RE y (nt SG SQ SO) i)))), (xr, cA g 40 (up cR (y * 8 + (SO i)) (resA FL DP RE y (nt SG SQ SO) i))), (xc, cA g 40 (up cC (y * 8 + (SO i)) (chg DP PR RA y (resA FL DP RE y (nt SG SQ SO) i)))), (xl, cA g 40 cL)] rfl dX5_settleLayer_120 ?_
      refine g_iload_n C 4 dX5_settleLayer_121 rfl ?_
      refine g_aload_n C 5 dX5_settleLayer_122 rfl ?_
      refine g_getf C k_X5 6 f_X5_30 7 rfl rfl (by decide) rfl rfl dX5_settleLayer_123 ?_
      refine g_iload C 0 dX5_settleLayer_126 rfl ?_
      refine g_iald C 13 rfl (by omega) dX5_settleLayer_128 ?_
      refine g_val (w := hitA FL DP RE y (nt SG SQ SO) i) up_s ?_
      refine g_isub C dX5_settleLayer_129 ?_
      refine g_istore_n C [(3, vi (left - (hitA FL DP RE y (nt SG SQ SO) i))), (7, vi (y * 8 + (SO i))), (6, vi (SO i)), (5, vi i), (4, vi rest), (0, .ref so), (1, .ref to), (2, vi y)] dX5_settleLayer_130 (by decide) rfl ?_
      refine g_iload C 4 dX5_settleLayer_131 rfl ?_
      refine g_aload_n C 5 dX5_settleLayer_133 rfl ?_
      refine g_getf C k_X5 8 f_X5_36 7 rfl rfl (by decide) rfl rfl dX5_settleLayer_134 ?_
      refine g_iload C 1 dX5_settleLayer_137 rfl ?_
      refine g_iald C 15 rfl (by omega) dX5_settleLayer_139 ?_
      refine g_val (w := resA FL DP RE y (nt SG SQ SO) i) up_s ?_
      refine g_isub C dX5_settleLayer_140 ?_
      refine g_istore C [(4, vi (rest - (resA FL DP RE y (nt SG SQ SO) i))), (3, vi (left - (hitA FL DP RE y (nt SG SQ SO) i))), (7, vi (y * 8 + (SO i))), (6, vi (SO i)), (5, vi i), (0, .ref so), (1, .ref to), (2, vi y)] dX5_settleLayer_141 (by decide) rfl ?_
      refine g_aload_n C 5 dX5_settleLayer_143 rfl ?_
      refine g_getf C k_X5 10 f_X5_42 7 rfl rfl (by decide) rfl rfl dX5_settleLayer_144 ?_
      refine g_iload C 2 dX5_settleLayer_147 rfl ?_
      refine g_iload_n C 1 dX5_settleLayer_149 rfl ?_
      refine g_iast C 17 rfl (by omega) [(to, cO 7 [.ref tf, .ref td, .ref tS, .ref tr, .ref tp, .ref tt, vi nY, vi Q]), (tf, cA g 5 FL), (td, cA g 5 DP), (tS, cA g 5 SH), (tr, cA g 5 RE), (tp, cA g 5 PR), (tt, cA g 5 RA), (so, cO 5 [.ref sg, .ref sq, .ref sp, .ref sr, .ref sd, .ref sc, .ref xh, .ref xp, .ref xr, .ref xc, .ref xl, vi nSo, vi nSy]), (sg, cA g 8 SG), (sq, cA g 8 SQ), (sr, cA g 8 SO), (sd, cA g 8 cD), (sc, cA g 8 cE), (xh, cA g 40 (up cH (y * 8 + (SO i)) (hitA FL DP RE y (nt SG SQ SO) i))), (xp, cA g 40 (up cP (y * 8 + (SO i)) (pay SH y (hitA FL DP RE y (nt SG SQ SO) i)))), (xr, cA g 40 (up cR (y * 8 + (SO i)) (resA FL DP RE y (nt SG SQ SO) i))), (xc, cA g 40 (up cC (y * 8 + (SO i)) (chg DP PR RA y (resA FL DP RE y (nt SG SQ SO) i)))), (xl, cA g 40 (up cL (y * 8 + (SO i)) (left - (hitA FL DP RE y (nt SG SQ SO) i))))] rfl dX5_settleLayer_150 ?_
      refine g_aload_n C 5 dX5_settleLayer_151 rfl ?_
      refine g_getf C k_X5 4 f_X5_24 7 rfl rfl (by decide) rfl rfl dX5_settleLayer_152 ?_
      refine g_iload C 3 dX5_settleLayer_155 rfl ?_
      refine g_dup2 C dX5_settleLayer_157 rfl rfl ?_
      refine g_iald C 11 rfl (by omega) dX5_settleLayer_158 ?_
      refine g_aload_n C 5 dX5_settleLayer_159 rfl ?_
      refine g_getf C k_X5 7 f_X5_33 7 rfl rfl (by decide) rfl rfl dX5_settleLayer_160 ?_
      refine g_iload C 2 dX5_settleLayer_163 rfl ?_
      refine g_iald C 14 rfl (by omega) dX5_settleLayer_165 ?_
      refine g_val (w := pay SH y (hitA FL DP RE y (nt SG SQ SO) i)) up_s ?_
      refine g_iadd C dX5_settleLayer_166 ?_
      refine g_iast C 11 rfl (by omega) [(to, cO 7 [.ref tf, .ref td, .ref tS, .ref tr, .ref tp, .ref tt, vi nY, vi Q]), (tf, cA g 5 FL), (td, cA g 5 DP), (tS, cA g 5 SH), (tr, cA g 5 RE), (tp, cA g 5 PR), (tt, cA g 5 RA), (so, cO 5 [.ref sg, .ref sq, .ref sp, .ref sr, .ref sd, .ref sc, .ref xh, .ref xp, .ref xr, .ref xc, .ref xl, vi nSo, vi nSy]), (sg, cA g 8 SG), (sq, cA g 8 SQ), (sr, cA g 8 SO), (sd, cA g 8 (up cD (SO i) ((cD (SO i)) + (pay SH y (hitA FL DP RE y (nt SG SQ SO) i))))), (sc, cA g 8 cE), (xh, cA g 40 (up cH (y * 8 + (SO i)) (hitA FL DP RE y (nt SG SQ SO) i))), (xp, cA g 40 (up cP (y * 8 + (SO i)) (pay SH y (hitA FL DP RE y (nt SG SQ SO) i)))), (xr, cA g 40 (up cR (y * 8 + (SO i)) (resA FL DP RE y (nt SG SQ SO) i))), (xc, cA g 40 (up cC (y * 8 + (SO i)) (chg DP PR RA y (resA FL DP RE y (nt SG SQ SO) i)))), (xl, cA g 40 (up cL (y * 8 + (SO i)) (left - (hitA FL DP RE y (nt SG SQ SO) i))))] rfl dX5_settleLayer_167 ?_
      refine g_aload_n C 5 dX5_settleLayer_168 rfl ?_
      refine g_getf C k_X5 5 f_X5_27 7 rfl rfl (by decide) rfl rfl dX5_settleLayer_169 ?_
      refine g_iload C 3 dX5_settleLayer_172 rfl ?_
      refine g_dup2 C dX5_settleLayer_174 rfl rfl ?_
      refine g_iald C 12 rfl (by omega) dX5_settleLayer_175 ?_
      refine g_aload_n C 5 dX5_settleLayer_176 rfl ?_
      refine g_getf C k_X5 9 f_X5_39 7 rfl rfl (by decide) rfl rfl dX5_settleLayer_177 ?_
      refine g_iload C 2 dX5_settleLayer_180 rfl ?_
      refine g_iald C 16 rfl (by omega) dX5_settleLayer_182 ?_
      refine g_val (w := chg DP PR RA y (resA FL DP RE y (nt SG SQ SO) i)) up_s ?_
      refine g_iadd C dX5_settleLayer_183 ?_
      refine g_iast C 12 rfl (by omega) [(to, cO 7 [.ref tf, .ref td, .ref tS, .ref tr, .ref tp, .ref tt, vi nY, vi Q]), (tf, cA g 5 FL), (td, cA g 5 DP), (tS, cA g 5 SH), (tr, cA g 5 RE), (tp, cA g 5 PR), (tt, cA g 5 RA), (so, cO 5 [.ref sg, .ref sq, .ref sp, .ref sr, .ref sd, .ref sc, .ref xh, .ref xp, .ref xr, .ref xc, .ref xl, vi nSo, vi nSy]), (sg, cA g 8 SG), (sq, cA g 8 SQ), (sr, cA g 8 SO), (sd, cA g 8 (up cD (SO i) ((cD (SO i)) + (pay SH y (hitA FL DP RE y (nt SG SQ SO) i))))), (sc, cA g 8 (up cE (SO i) ((cE (SO i)) + (chg DP PR RA y (resA FL DP RE y (nt SG SQ SO) i))))), (xh, cA g 40 (up cH (y * 8 + (SO i)) (hitA FL DP RE y (nt SG SQ SO) i))), (xp, cA g 40 (up cP (y * 8 + (SO i)) (pay SH y (hitA FL DP RE y (nt SG SQ SO) i)))), (xr, cA g 40 (up cR (y * 8 + (SO i)) (resA FL DP RE y (nt SG SQ SO) i))), (xc, cA g 40 (up cC (y * 8 + (SO i)) (chg DP PR RA y (resA FL DP RE y (nt SG SQ SO) i)))), (xl, cA g 40 (up cL (y * 8 + (SO i)) (left - (hitA FL DP RE y (nt SG SQ SO) i))))] rfl dX5_settleLayer_184 ?_
      refine g_iinc C 4 [(5, vi (i + 1)), (4, vi (rest - (resA FL DP RE y (nt SG SQ SO) i))), (3, vi (left - (hitA FL DP RE y (nt SG SQ SO) i))), (7, vi (y * 8 + (SO i))), (6, vi (SO i)), (0, .ref so), (1, .ref to), (2, vi y)] dX5_settleLayer_185 rfl (by decide) rfl ?_
      refine g_goto C 16 dX5_settleLayer_188 (by decide) ?_
      refine g_lv [(5, vi (i + 1)), (4, vi (rest - (resA FL DP RE y (nt SG SQ SO) i))), (3, vi (left - (hitA FL DP RE y (nt SG SQ SO) i))), (0, .ref so), (1, .ref to), (2, vi y)] [0, 1, 2, 5, 6, 7] rfl ?_
      exact ih16 (left - (hitA FL DP RE y (nt SG SQ SO) i)) (rest - (resA FL DP RE y (nt SG SQ SO) i)) (i + 1) (up cH (y * 8 + (SO i)) (hitA FL DP RE y (nt SG SQ SO) i)) (up cP (y * 8 + (SO i)) (pay SH y (hitA FL DP RE y (nt SG SQ SO) i))) (up cR (y * 8 + (SO i)) (resA FL DP RE y (nt SG SQ SO) i)) (up cC (y * 8 + (SO i)) (chg DP PR RA y (resA FL DP RE y (nt SG SQ SO) i))) (up cL (y * 8 + (SO i)) (left - (hitA FL DP RE y (nt SG SQ SO) i))) (up cD (SO i) ((cD (SO i)) + (pay SH y (hitA FL DP RE y (nt SG SQ SO) i)))) (up cE (SO i) ((cE (SO i)) + (chg DP PR RA y (resA FL DP RE y (nt SG SQ SO) i)))) ⟨by omega, by omega, by rw [lf_s _ _ _ _ _ hi0, ← hlf], by rw [rs_s _ _ _ _ _ hi0, ← hrs], by rw [scat_s _ _ _ hi0, ← hH], by rw [scat_s _ _ _ hi0, ← hP], by rw [scat_s _ _ _ hi0, ← hR9], by rw [scat_s _ _ _ hi0, ← hC], by rw [scat_s _ _ _ hi0, ← hL, lf_s _ _ _ _ _ hi0, ← hlf], by rw [scad_s _ _ _ hi0, ← hD], by rw [scad_s _ _ _ hi0, ← hE]⟩ (by omega)
  exact L16 _ (cap DP RE y) (DP y * RE y) 0 XH XP XR XC XL SD SC ⟨by omega, by omega, rfl, rfl, rfl, rfl, rfl, rfl, rfl, rfl, rfl⟩ (Nat.lt_succ_self _)

