/-! stations -/
def inb (EC : Int → Int) (b s : Int) : Int := b / 2 ^ (EC s).toNat % 2
def dd9 (i c : Int) : Int := (if 0 ≤ i / 4 - c / 4 then i / 4 - c / 4 else 0 - (i / 4 - c / 4)) + (if 0 ≤ i % 4 - c % 4 then i % 4 - c % 4 else 0 - (i % 4 - c % 4))
def dsN (b c init : Int) : Nat → Int
  | 0 => init
  | n + 1 => if b / 2 ^ n % 2 = 1 then mn (dsN b c init n) (dd9 n c) else dsN b c init n
def dst (b c init n : Int) : Int := dsN b c init n.toNat
theorem dst_s (b c init : Int) {i : Int} (h : 0 ≤ i) : dst b c init (i + 1) = if b / 2 ^ i.toNat % 2 = 1 then mn (dst b c init i) (dd9 i c) else dst b c init i := by
  obtain ⟨k, rfl⟩ : ∃ k : Nat, i = k := ⟨i.toNat, by omega⟩
  have e : ((k : Int) + 1).toNat = k + 1 := by omega
  have e2 : (k : Int).toNat = k := by omega
  simp only [dst, e, e2, dsN]
theorem dd9_r {i c : Int} (hi : 0 ≤ i ∧ i ≤ 15) (hc : 0 ≤ c ∧ c ≤ 15) : 0 ≤ dd9 i c ∧ dd9 i c ≤ 6 := by unfold dd9; omega
theorem dst_r {b c init : Int} (hc : 0 ≤ c ∧ c ≤ 15) (hi : 0 ≤ init) {n : Int} (hn : 0 ≤ n ∧ n ≤ 16) : 0 ≤ dst b c init n ∧ dst b c init n ≤ init := by
  have := sm_ind (P := fun n => n ≤ 16 → 0 ≤ dst b c init n ∧ dst b c init n ≤ init) (fun _ => ⟨hi, Int.le_refl _⟩) (fun i h0 ih h => by
    have := ih (by omega)
    have := dd9_r (i := i) (by omega) hc
    rw [dst_s _ _ _ h0]; unfold mn; split <;> omega) n hn.1
  exact this hn.2
/-- the station nearest among the first n that last, by a distance -/
def stN (EF D : Int → Int) (la : Int) : Nat → Int
  | 0 => -1
  | n + 1 => if la < EF n ∧ (stN EF D la n = -1 ∨ D n < D (stN EF D la n)) then n else stN EF D la n
def stn (EF D : Int → Int) (la n : Int) : Int := stN EF D la n.toNat
theorem stn_s (EF D : Int → Int) (la : Int) {i : Int} (h : 0 ≤ i) : stn EF D la (i + 1) = if la < EF i ∧ (stn EF D la i = -1 ∨ D i < D (stn EF D la i)) then i else stn EF D la i := by
  obtain ⟨k, rfl⟩ : ∃ k : Nat, i = k := ⟨i.toNat, by omega⟩
  have e : ((k : Int) + 1).toNat = k + 1 := by omega
  have e2 : (k : Int).toNat = k := by omega
  simp only [stn, e, e2, stN]
theorem stn_r (EF D : Int → Int) (la : Int) {n : Int} (hn : 0 ≤ n) : -1 ≤ stn EF D la n ∧ (stn EF D la n < n ∨ stn EF D la n = -1) ∧ stn EF D la n ≤ n - 1 := by
  refine sm_ind (P := fun n => -1 ≤ stn EF D la n ∧ (stn EF D la n < n ∨ stn EF D la n = -1) ∧ stn EF D la n ≤ n - 1) ?_ (fun i hi ih => ?_) n hn
  · show -1 ≤ (-1 : Int) ∧ ((-1 : Int) < 0 ∨ _) ∧ (-1 : Int) ≤ 0 - 1; omega
  · rw [stn_s _ _ _ hi]; split <;> omega
/-- one of the first n stations is in the box and lasts -/
def hls (EC EF : Int → Int) (b la n : Int) : Prop := ∃ s, 0 ≤ s ∧ s < n ∧ inb EC b s = 1 ∧ la < EF s
theorem hls_no {EC EF : Int → Int} {b la n : Int} (h : ¬ hls EC EF b la n) (h2 : ¬ (inb EC b n = 1 ∧ la < EF n)) : ¬ hls EC EF b la (n + 1) := by
  rintro ⟨k, h3, h4, h5⟩
  by_cases e : k = n
  · subst e; exact h2 h5
  · exact h ⟨k, h3, by omega, h5⟩
noncomputable def sti (EC EF : Int → Int) (b la n : Int) : Int := @ite Int (hls EC EF b la n) (Classical.propDecidable _) (-1) (stn EF (fun s => dst b (EC s) 6 16) la n)
theorem sti_t {EC EF : Int → Int} {b la n : Int} (h : hls EC EF b la n) : sti EC EF b la n = -1 := if_pos h
theorem sti_f {EC EF : Int → Int} {b la n : Int} (h : ¬ hls EC EF b la n) : sti EC EF b la n = stn EF (fun s => dst b (EC s) 6 16) la n := if_neg h
theorem sti_r (EC EF : Int → Int) (b la : Int) {n : Int} (hn : 0 ≤ n) : -1 ≤ sti EC EF b la n ∧ sti EC EF b la n ≤ n - 1 := by
  have := stn_r EF (fun s => dst b (EC s) 6 16) la hn
  by_cases h : hls EC EF b la n
  · rw [sti_t h]; omega
  · rw [sti_f h]; omega
theorem inb_r (EC : Int → Int) (b s : Int) : 0 ≤ inb EC b s ∧ inb EC b s ≤ 1 := by unfold inb; omega
theorem pw_le {b c : Int} (hb : 0 ≤ b) : 0 ≤ b / 2 ^ c.toNat ∧ b / 2 ^ c.toNat ≤ b := ⟨Int.ediv_nonneg hb (Int.le_of_lt (Int.pow_pos (by decide))), Int.ediv_le_self _ hb⟩
/-- the strongest reading of those that count for a bond -/
def cnd (EC EF ES EH EP : Int → Int) (si b p a la : Int) (i : Int) : Prop := (si = -1 → inb EC b (ES i) = 1) ∧ (¬ si = -1 → ES i = si) ∧ EP i = p ∧ a ≤ EH i ∧ EH i ≤ la ∧ EH i < EF (ES i)
noncomputable def gsN (P : Int → Prop) (EX : Int → Int) : Nat → Int
  | 0 => 0
  | n + 1 => @ite Int (P n ∧ gsN P EX n < EX n) (Classical.propDecidable _) (EX n) (gsN P EX n)
noncomputable def gst (P : Int → Prop) (EX : Int → Int) (n : Int) : Int := gsN P EX n.toNat
theorem gst_s (P : Int → Prop) (EX : Int → Int) {i : Int} (h : 0 ≤ i) : gst P EX (i + 1) = @ite Int (P i ∧ gst P EX i < EX i) (Classical.propDecidable _) (EX i) (gst P EX i) := by
  obtain ⟨k, rfl⟩ : ∃ k : Nat, i = k := ⟨i.toNat, by omega⟩
  have e : ((k : Int) + 1).toNat = k + 1 := by omega
  have e2 : (k : Int).toNat = k := by omega
  have e3 : gst P EX ((k : Int) + 1) = gsN P EX (k + 1) := by unfold gst; rw [e]
  have e4 : gst P EX (k : Int) = gsN P EX k := by unfold gst; rw [e2]
  rw [e3, e4]; rfl
theorem gst_t {P : Int → Prop} {EX : Int → Int} {i : Int} (h : 0 ≤ i) (hp : P i) : gst P EX (i + 1) = if gst P EX i < EX i then EX i else gst P EX i := by
  rw [gst_s _ _ h]
  by_cases q : gst P EX i < EX i
  · rw [if_pos q, if_pos ⟨hp, q⟩]
  · rw [if_neg q, if_neg (fun z => q z.2)]
theorem gst_f {P : Int → Prop} {EX : Int → Int} {i : Int} (h : 0 ≤ i) (hp : ¬ P i) : gst P EX (i + 1) = gst P EX i := by
  rw [gst_s _ _ h, if_neg (fun z => hp z.1)]
theorem gst_r {P : Int → Prop} {EX : Int → Int} (hEX : ∀ k, 0 ≤ EX k ∧ EX k ≤ 9) {n : Int} (hn : 0 ≤ n) : 0 ≤ gst P EX n ∧ gst P EX n ≤ 9 := by
  refine sm_ind (P := fun n => 0 ≤ gst P EX n ∧ gst P EX n ≤ 9) ?_ (fun i hi ih => ?_) n hn
  · show (0 : Int) ≤ 0 ∧ (0 : Int) ≤ 9; omega
  · have := hEX i
    by_cases q : P i
    · rw [gst_t hi q]; split <;> omega
    · rw [gst_f hi q]; exact ih
theorem gst_congr {P Q : Int → Prop} {EX : Int → Int} {n : Int} (hn : 0 ≤ n) (h : ∀ k, 0 ≤ k → k < n → (P k ↔ Q k)) : gst P EX n = gst Q EX n := by
  have := sm_ind (P := fun m => m ≤ n → gst P EX m = gst Q EX m) (fun _ => rfl) (fun i hi ih hm => by
    have e := ih (by omega)
    by_cases q : P i
    · rw [gst_t hi q, gst_t hi ((h i hi (by omega)).mp q), e]
    · rw [gst_f hi q, gst_f hi (fun z => q ((h i hi (by omega)).mpr z)), e]) n hn
  exact this (Int.le_refl _)
theorem gst_or {P Q R : Int → Prop} {EX : Int → Int} {n : Int} (hn : 0 ≤ n) (h : ∀ k, R k ↔ P k ∨ Q k) : gst R EX n = if gst P EX n < gst Q EX n then gst Q EX n else gst P EX n := by
  refine sm_ind (P := fun m => gst R EX m = if gst P EX m < gst Q EX m then gst Q EX m else gst P EX m) ?_ (fun i hi ih => ?_) n hn
  · exact (if_neg (show ¬ ((0 : Int) < 0) by omega)).symm
  · by_cases p : P i
    · rw [gst_t hi ((h i).mpr (Or.inl p)), gst_t hi p, ih]
      by_cases q : Q i
      · rw [gst_t hi q]; omega
      · rw [gst_f hi q]; omega
    · rw [gst_f hi p]
      by_cases q : Q i
      · rw [gst_t hi ((h i).mpr (Or.inr q)), gst_t hi q, ih]; omega
      · rw [gst_f hi (fun z => ((h i).mp z).elim p q), gst_f hi q, ih]
/-- the readings of one station that count -/
def cst (EF ES EH EP : Int → Int) (s p a la : Int) (i : Int) : Prop := ES i = s ∧ EP i = p ∧ a ≤ EH i ∧ EH i ≤ la ∧ EH i < EF s
def cnb (EC EF ES EH EP : Int → Int) (si b p a la : Int) (m k : Int) : Prop := cnd EC EF ES EH EP si b p a la k ∧ ES k < m
theorem gs_no {EC EF ES EH EP EX : Int → Int} {si b p a la i n : Int} (hn : 0 ≤ n) (h : ¬ ((si = -1 → inb EC b i = 1) ∧ (¬ si = -1 → i = si))) : gst (cnb EC EF ES EH EP si b p a la i) EX n = gst (cnb EC EF ES EH EP si b p a la (i + 1)) EX n :=
  gst_congr hn (fun k _ _ => ⟨fun ⟨z, w⟩ => ⟨z, by omega⟩, fun ⟨z, w⟩ => ⟨z, by
    have e9 : ES k ≠ i := fun e => h (by rw [← e]; exact ⟨z.1, z.2.1⟩)
    omega⟩⟩)
theorem gs_yes {EC EF ES EH EP EX : Int → Int} {si b p a la i n : Int} (hn : 0 ≤ n) (h : (si = -1 → inb EC b i = 1) ∧ (¬ si = -1 → i = si)) : gst (cnb EC EF ES EH EP si b p a la (i + 1)) EX n = if gst (cnb EC EF ES EH EP si b p a la i) EX n < gst (cst EF ES EH EP i p a la) EX n then gst (cst EF ES EH EP i p a la) EX n else gst (cnb EC EF ES EH EP si b p a la i) EX n :=
  gst_or hn (fun k => ⟨fun ⟨z, w⟩ => by
    by_cases e : ES k = i
    · exact Or.inr ⟨e, z.2.2.1, z.2.2.2.1, z.2.2.2.2.1, by rw [← e]; exact z.2.2.2.2.2⟩
    · exact Or.inl ⟨z, by omega⟩, fun z => by
    rcases z with ⟨z, w⟩ | ⟨z1, z2, z3, z4, z5⟩
    · exact ⟨z, by omega⟩
    · exact ⟨⟨by rw [z1]; exact h.1, by rw [z1]; exact h.2, z2, z3, z4, by rw [z1]; exact z5⟩, by omega⟩⟩)
theorem gs_all {EC EF ES EH EP EX : Int → Int} {si b p a la m n : Int} (hn : 0 ≤ n) (h : ∀ k9, 0 ≤ k9 → k9 < n → ES k9 < m) : gst (cnb EC EF ES EH EP si b p a la m) EX n = gst (cnd EC EF ES EH EP si b p a la) EX n :=
  gst_congr hn (fun k k0 k1 => ⟨fun z => z.1, fun z => ⟨z, h k k0 k1⟩⟩)
theorem gs_0 {EC EF ES EH EP EX : Int → Int} {si b p a la n : Int} (hES : ∀ k, 0 ≤ ES k ∧ ES k ≤ 5) (hn : 0 ≤ n) : 0 = gst (cnb EC EF ES EH EP si b p a la 0) EX n := by
  refine sm_ind (P := fun m => 0 = gst (cnb EC EF ES EH EP si b p a la 0) EX m) rfl (fun i hi ih => ?_) n hn
  rw [gst_f hi (fun z => by have := hES i; have := z.2; omega), ← ih]
theorem en_up {ES : Int → Int} {nR nE s : Int} (h : ∀ k9, 0 ≤ k9 → k9 < nR → ES k9 < nE) (hs : s < nE) : ∀ k9, 0 ≤ k9 → k9 < nR + 1 → up ES nR s k9 < nE := fun k k0 k1 => by
  by_cases e : k = nR
  · subst e; rw [up_s]; exact hs
  · rw [up_n e]; exact h k k0 (by omega)

set_option maxHeartbeats 4000000 in
set_option maxRecDepth 100000 in
theorem c_X6_has (l : Launch) (g : gD) (eo : Nat) (ec : Nat) (ef : Nat) (es : Nat) (eh : Nat) (ep : Nat) (ex : Nat) (nE : Int) (nR : Int) (v : Int) (hnE : 0 ≤ nE ∧ nE ≤ 6) (hv : -2147483648 ≤ v ∧ v < 2147483648) : gMet l g yX6_has cX6_has 2 (some .boolean) 0 0 0 0 [.ref eo, vi v] [(eo, cO 6 [.ref ec, .ref ef, .ref es, .ref eh, .ref ep, .ref ex, vi nE, vi nR])] (gM (some (vi (if 0 ≤ v ∧ v < nE then 1 else 0))) [(eo, cO 6 [.ref ec, .ref ef, .ref es, .ref eh, .ref ep, .ref ex, vi nE, vi nR])]) := by
  refine gMet.of y_X6_has.2.2.2.2.1 (Nat.le_of_ble_eq_true rfl) ?_
  intro x hlx C hR hnm
  subst hlx
  have C : gC g x RX6 cX6_has 2 0 0 0 0 := C
  show gW g x [(eo, cO 6 [.ref ec, .ref ef, .ref es, .ref eh, .ref ep, .ref ex, vi nE, vi nR])] 0 0 [(0, .ref eo), (1, vi v)] 0 []
  refine g_iload_n C 1 dX6_has_0 rfl ?_
  refine g_if_lt C 16 dX6_has_1 (by decide) (by omega) (fun c1 => ?_) (fun c1 => ?_)
  · refine g_iconst C dX6_has_16 ?_
    exact g_zretM C hR dX6_has_17 (by omega) (by first | rfl | omega) rfl rfl
  refine g_iload_n C 1 dX6_has_4 rfl ?_
  refine g_aload_n C 0 dX6_has_5 rfl ?_
  refine g_getf C k_X6 6 f_X6_30 0 rfl rfl (by decide) rfl rfl dX6_has_6 ?_
  refine g_icmp_ge C 16 dX6_has_9 (by decide) (by omega) (by omega) (fun c9 => ?_) (fun c9 => ?_)
  · refine g_iconst C dX6_has_16 ?_
    exact g_zretM C hR dX6_has_17 (by omega) (by first | rfl | omega) rfl rfl
  refine g_iconst C dX6_has_12 ?_
  refine g_goto C 17 dX6_has_13 (by decide) ?_
  exact g_zretM C hR dX6_has_17 (by omega) (by first | rfl | omega) rfl rfl

set_option maxHeartbeats 4000000 in
set_option maxRecDepth 100000 in
theorem c_X6_isFull (l : Launch) (g : gD) (eo : Nat) (ec : Nat) (ef : Nat) (es : Nat) (eh : Nat) (ep : Nat) (ex : Nat) (nE : Int) (nR : Int) (hnE : 0 ≤ nE ∧ nE ≤ 6) : gMet l g yX6_isFull cX6_isFull 1 (some .boolean) 0 0 0 0 [.ref eo] [(eo, cO 6 [.ref ec, .ref ef, .ref es, .ref eh, .ref ep, .ref ex, vi nE, vi nR])] (gM (some (vi (if 6 ≤ nE then 1 else 0))) [(eo, cO 6 [.ref ec, .ref ef, .ref es, .ref eh, .ref ep, .ref ex, vi nE, vi nR])]) := by
  refine gMet.of y_X6_isFull.2.2.2.2.1 (Nat.le_of_ble_eq_true rfl) ?_
  intro x hlx C hR hnm
  subst hlx
  have C : gC g x RX6 cX6_isFull 1 0 0 0 0 := C
  show gW g x [(eo, cO 6 [.ref ec, .ref ef, .ref es, .ref eh, .ref ep, .ref ex, vi nE, vi nR])] 0 0 [(0, .ref eo)] 0 []
  refine g_aload_n C 0 dX6_isFull_0 rfl ?_
  refine g_getf C k_X6 6 f_X6_30 0 rfl rfl (by decide) rfl rfl dX6_isFull_1 ?_
  refine g_bipush C dX6_isFull_4 (by decide) ?_
  refine g_icmp_lt C 13 dX6_isFull_6 (by decide) (by omega) (by omega) (fun c6 => ?_) (fun c6 => ?_)
  · refine g_iconst C dX6_isFull_13 ?_
    exact g_zretM C hR dX6_isFull_14 (by omega) (by first | rfl | omega) rfl rfl
  refine g_iconst C dX6_isFull_9 ?_
  refine g_goto C 14 dX6_isFull_10 (by decide) ?_
  exact g_zretM C hR dX6_isFull_14 (by omega) (by first | rfl | omega) rfl rfl

set_option maxHeartbeats 4000000 in
set_option maxRecDepth 100000 in
theorem c_X6_isFullOfReadings (l : Launch) (g : gD) (eo : Nat) (ec : Nat) (ef : Nat) (es : Nat) (eh : Nat) (ep : Nat) (ex : Nat) (nE : Int) (nR : Int) (hnR : 0 ≤ nR ∧ nR ≤ 60) : gMet l g yX6_isFullOfReadings cX6_isFullOfReadings 1 (some .boolean) 0 0 0 0 [.ref eo] [(eo, cO 6 [.ref ec, .ref ef, .ref es, .ref eh, .ref ep, .ref ex, vi nE, vi nR])] (gM (some (vi (if 60 ≤ nR then 1 else 0))) [(eo, cO 6 [.ref ec, .ref ef, .ref es, .ref eh, .ref ep, .ref ex, vi nE, vi nR])]) := by
  refine gMet.of y_X6_isFullOfReadings.2.2.2.2.1 (Nat.le_of_ble_eq_true rfl) ?_
  intro x hlx C hR hnm
  subst hlx
  have C : gC g x RX6 cX6_isFullOfReadings 1 0 0 0 0 := C
  show gW g x [(eo, cO 6 [.ref ec, .ref ef, .ref es, .ref eh, .ref ep, .ref ex, vi nE, vi nR])] 0 0 [(0, .ref eo)] 0 []
  refine g_aload_n C 0 dX6_isFullOfReadings_0 rfl ?_
  refine g_getf C k_X6 7 f_X6_34 0 rfl rfl (by decide) rfl rfl dX6_isFullOfReadings_1 ?_
  refine g_bipush C dX6_isFullOfReadings_4 (by decide) ?_
  refine g_icmp_lt C 13 dX6_isFullOfReadings_6 (by decide) (by omega) (by omega) (fun c6 => ?_) (fun c6 => ?_)
  · refine g_iconst C dX6_isFullOfReadings_13 ?_
    exact g_zretM C hR dX6_isFullOfReadings_14 (by omega) (by first | rfl | omega) rfl rfl
  refine g_iconst C dX6_isFullOfReadings_9 ?_
  refine g_goto C 14 dX6_isFullOfReadings_10 (by decide) ?_
  exact g_zretM C hR dX6_isFullOfReadings_14 (by omega) (by first | rfl | omega) rfl rfl

set_option maxHeartbeats 4000000 in
set_option maxRecDepth 100000 in
theorem c_X6_add (l : Launch) (g : gD) (eo : Nat) (ec : Nat) (ef : Nat) (es : Nat) (eh : Nat) (ep : Nat) (ex : Nat) (EC : Int → Int) (EF : Int → Int) (nE : Int) (nR : Int) (v : Int) (hnE : 0 ≤ nE ∧ nE < 6) : gMet l g yX6_add cX6_add 2 (some .int) 0 0 0 0 [.ref eo, vi v] [(eo, cO 6 [.ref ec, .ref ef, .ref es, .ref eh, .ref ep, .ref ex, vi nE, vi nR]), (ec, cA g 6 EC), (ef, cA g 6 EF)] (gM (some (vi nE)) [(eo, cO 6 [.ref ec, .ref ef, .ref es, .ref eh, .ref ep, .ref ex, vi (nE + 1), vi nR]), (ec, cA g 6 (up EC nE v)), (ef, cA g 6 (up EF nE 2200))]) := by
  refine gMet.of y_X6_add.2.2.2.2.1 (Nat.le_of_ble_eq_true rfl) ?_
  intro x hlx C hR hnm
  subst hlx
  have C : gC g x RX6 cX6_add 2 0 0 0 0 := C
  show gW g x [(eo, cO 6 [.ref ec, .ref ef, .ref es, .ref eh, .ref ep, .ref ex, vi nE, vi nR]), (ec, cA g 6 EC), (ef, cA g 6 EF)] 0 0 [(0, .ref eo), (1, vi v)] 0 []
  refine g_aload_n C 0 dX6_add_0 rfl ?_
  refine g_getf C k_X6 0 f_X6_9 0 rfl rfl (by decide) rfl rfl dX6_add_1 ?_
  refine g_aload_n C 0 dX6_add_4 rfl ?_
  refine g_getf C k_X6 6 f_X6_30 0 rfl rfl (by decide) rfl rfl dX6_add_5 ?_
  refine g_iload_n C 1 dX6_add_8 rfl ?_
  refine g_iast C 1 rfl (by omega) [(eo, cO 6 [.ref ec, .ref ef, .ref es, .ref eh, .ref ep, .ref ex, vi nE, vi nR]), (ec, cA g 6 (up EC nE v)), (ef, cA g 6 EF)] rfl dX6_add_9 ?_
  refine g_aload_n C 0 dX6_add_10 rfl ?_
  refine g_getf C k_X6 1 f_X6_15 0 rfl rfl (by decide) rfl rfl dX6_add_11 ?_
  refine g_aload_n C 0 dX6_add_14 rfl ?_
  refine g_getf C k_X6 6 f_X6_30 0 rfl rfl (by decide) rfl rfl dX6_add_15 ?_
  refine g_sipush C dX6_add_18 (by decide) ?_
  refine g_iast C 2 rfl (by omega) [(eo, cO 6 [.ref ec, .ref ef, .ref es, .ref eh, .ref ep, .ref ex, vi nE, vi nR]), (ec, cA g 6 (up EC nE v)), (ef, cA g 6 (up EF nE 2200))] rfl dX6_add_21 ?_
  refine g_aload_n C 0 dX6_add_22 rfl ?_
  refine g_dup C dX6_add_23 rfl ?_
  refine g_getf C k_X6 6 f_X6_30 0 rfl rfl (by decide) rfl rfl dX6_add_24 ?_
  refine g_iconst C dX6_add_27 ?_
  refine g_iadd C dX6_add_28 ?_
  refine g_putf C k_X6 tyX6_ok nmX6 6 f_X6_30 0 rfl rfl (by decide) rfl rfl rfl rfl (Nat.le_of_ble_eq_true rfl) [(eo, cO 6 [.ref ec, .ref ef, .ref es, .ref eh, .ref ep, .ref ex, vi (nE + 1), vi nR]), (ec, cA g 6 (up EC nE v)), (ef, cA g 6 (up EF nE 2200))] rfl dX6_add_29 ?_
  refine g_aload_n C 0 dX6_add_32 rfl ?_
  refine g_getf C k_X6 6 f_X6_30 0 rfl rfl (by decide) rfl rfl dX6_add_33 ?_
  refine g_iconst C dX6_add_36 ?_
  refine g_isub C dX6_add_37 ?_
  exact g_iretM C hR dX6_add_38 (by first | rfl | omega) rfl rfl

set_option maxHeartbeats 4000000 in
set_option maxRecDepth 100000 in
theorem c_X6_addReading (l : Launch) (g : gD) (eo : Nat) (ec : Nat) (ef : Nat) (es : Nat) (eh : Nat) (ep : Nat) (ex : Nat) (ES : Int → Int) (EH : Int → Int) (EP : Int → Int) (EX : Int → Int) (nE : Int) (nR : Int) (a1 : Int) (a2 : Int) (a3 : Int) (a4 : Int) (hnR : 0 ≤ nR ∧ nR < 60) : gMet l g yX6_addReading cX6_addReading 5 (some .int) 0 0 0 0 [.ref eo, vi a1, vi a2, vi a3, vi a4] [(eo, cO 6 [.ref ec, .ref ef, .ref es, .ref eh, .ref ep, .ref ex, vi nE, vi nR]), (es, cA g 60 ES), (eh, cA g 60 EH), (ep, cA g 60 EP), (ex, cA g 60 EX)] (gM (some (vi (nR + 1))) [(eo, cO 6 [.ref ec, .ref ef, .ref es, .ref eh, .ref ep, .ref ex, vi nE, vi (nR + 1)]), (es, cA g 60 (up ES nR a1)), (eh, cA g 60 (up EH nR a2)), (ep, cA g 60 (up EP nR a3)), (ex, cA g 60 (up EX nR a4))]) := by
  refine gMet.of y_X6_addReading.2.2.2.2.1 (Nat.le_of_ble_eq_true rfl) ?_
  intro x hlx C hR hnm
  subst hlx
  have C : gC g x RX6 cX6_addReading 5 0 0 0 0 := C
  show gW g x [(eo, cO 6 [.ref ec, .ref ef, .ref es, .ref eh, .ref ep, .ref ex, vi nE, vi nR]), (es, cA g 60 ES), (eh, cA g 60 EH), (ep, cA g 60 EP), (ex, cA g 60 EX)] 0 0 [(0, .ref eo), (1, vi a1), (2, vi a2), (3, vi a3), (4, vi a4)] 0 []
  refine g_aload_n C 0 dX6_addReading_0 rfl ?_
  refine g_getf C k_X6 2 f_X6_18 0 rfl rfl (by decide) rfl rfl dX6_addReading_1 ?_
  refine g_aload_n C 0 dX6_addReading_4 rfl ?_
  refine g_getf C k_X6 7 f_X6_34 0 rfl rfl (by decide) rfl rfl dX6_addReading_5 ?_
  refine g_iload_n C 1 dX6_addReading_8 rfl ?_
  refine g_iast C 1 rfl (by omega) [(eo, cO 6 [.ref ec, .ref ef, .ref es, .ref eh, .ref ep, .ref ex, vi nE, vi nR]), (es, cA g 60 (up ES nR a1)), (eh, cA g 60 EH), (ep, cA g 60 EP), (ex, cA g 60 EX)] rfl dX6_addReading_9 ?_
  refine g_aload_n C 0 dX6_addReading_10 rfl ?_
  refine g_getf C k_X6 3 f_X6_21 0 rfl rfl (by decide) rfl rfl dX6_addReading_11 ?_
  refine g_aload_n C 0 dX6_addReading_14 rfl ?_
  refine g_getf C k_X6 7 f_X6_34 0 rfl rfl (by decide) rfl rfl dX6_addReading_15 ?_
  refine g_iload_n C 2 dX6_addReading_18 rfl ?_
  refine g_iast C 2 rfl (by omega) [(eo, cO 6 [.ref ec, .ref ef, .ref es, .ref eh, .ref ep, .ref ex, vi nE, vi nR]), (es, cA g 60 (up ES nR a1)), (eh, cA g 60 (up EH nR a2)), (ep, cA g 60 EP), (ex, cA g 60 EX)] rfl dX6_addReading_19 ?_
  refine g_aload_n C 0 dX6_addReading_20 rfl ?_
  refine g_getf C k_X6 4 f_X6_24 0 rfl rfl (by decide) rfl rfl dX6_addReading_21 ?_
  refine g_aload_n C 0 dX6_addReading_24 rfl ?_
  refine g_getf C k_X6 7 f_X6_34 0 rfl rfl (by decide) rfl rfl dX6_addReading_25 ?_
  refine g_iload_n C 3 dX6_addReading_28 rfl ?_
  refine g_iast C 3 rfl (by omega) [(eo, cO 6 [.ref ec, .ref ef, .ref es, .ref eh, .ref ep, .ref ex, vi nE, vi nR]), (es, cA g 60 (up ES nR a1)), (eh, cA g 60 (up EH nR a2)), (ep, cA g 60 (up EP nR a3)), (ex, cA g 60 EX)] rfl dX6_addReading_29 ?_
  refine g_aload_n C 0 dX6_addReading_30 rfl ?_
  refine g_getf C k_X6 5 f_X6_27 0 rfl rfl (by decide) rfl rfl dX6_addReading_31 ?_
  refine g_aload_n C 0 dX6_addReading_34 rfl ?_
  refine g_getf C k_X6 7 f_X6_34 0 rfl rfl (by decide) rfl rfl dX6_addReading_35 ?_
  refine g_iload C 4 dX6_addReading_38 rfl ?_
  refine g_iast C 4 rfl (by omega) [(eo, cO 6 [.ref ec, .ref ef, .ref es, .ref eh, .ref ep, .ref ex, vi nE, vi nR]), (es, cA g 60 (up ES nR a1)), (eh, cA g 60 (up EH nR a2)), (ep, cA g 60 (up EP nR a3)), (ex, cA g 60 (up EX nR a4))] rfl dX6_addReading_40 ?_
  refine g_aload_n C 0 dX6_addReading_41 rfl ?_
  refine g_dup C dX6_addReading_42 rfl ?_
  refine g_getf C k_X6 7 f_X6_34 0 rfl rfl (by decide) rfl rfl dX6_addReading_43 ?_
  refine g_iconst C dX6_addReading_46 ?_
  refine g_iadd C dX6_addReading_47 ?_
  refine g_putf C k_X6 tyX6_ok nmX6 7 f_X6_34 0 rfl rfl (by decide) rfl rfl rfl rfl (Nat.le_of_ble_eq_true rfl) [(eo, cO 6 [.ref ec, .ref ef, .ref es, .ref eh, .ref ep, .ref ex, vi nE, vi (nR + 1)]), (es, cA g 60 (up ES nR a1)), (eh, cA g 60 (up EH nR a2)), (ep, cA g 60 (up EP nR a3)), (ex, cA g 60 (up EX nR a4))] rfl dX6_addReading_48 ?_
  refine g_aload_n C 0 dX6_addReading_51 rfl ?_
  refine g_getf C k_X6 7 f_X6_34 0 rfl rfl (by decide) rfl rfl dX6_addReading_52 ?_
  exact g_iretM C hR dX6_addReading_55 rfl rfl rfl

set_option maxHeartbeats 4000000 in
set_option maxRecDepth 100000 in
theorem c_X6_hasFailedBy (l : Launch) (g : gD) (eo : Nat) (ec : Nat) (ef : Nat) (es : Nat) (eh : Nat) (ep : Nat) (ex : Nat) (EF : Int → Int) (nE : Int) (nR : Int) (s : Int) (h : Int) (hEF : ∀ k, 0 ≤ EF k ∧ EF k ≤ 2200) (hs : 0 ≤ s ∧ s < 6) (hh : -2147483648 ≤ h ∧ h < 2147483648) : gMet l g yX6_hasFailedBy cX6_hasFailedBy 3 (some .boolean) 0 0 0 0 [.ref eo, vi s, vi h] [(eo, cO 6 [.ref ec, .ref ef, .ref es, .ref eh, .ref ep, .ref ex, vi nE, vi nR]), (ef, cA g 6 EF)] (gM (some (vi (if EF s ≤ h then 1 else 0))) [(eo, cO 6 [.ref ec, .ref ef, .ref es, .ref eh, .ref ep, .ref ex, vi nE, vi nR]), (ef, cA g 6 EF)]) := by
  refine gMet.of y_X6_hasFailedBy.2.2.2.2.1 (Nat.le_of_ble_eq_true rfl) ?_
  intro x hlx C hR hnm
  subst hlx
  have C : gC g x RX6 cX6_hasFailedBy 3 0 0 0 0 := C
  show gW g x [(eo, cO 6 [.ref ec, .ref ef, .ref es, .ref eh, .ref ep, .ref ex, vi nE, vi nR]), (ef, cA g 6 EF)] 0 0 [(0, .ref eo), (1, vi s), (2, vi h)] 0 []
  refine g_aload_n C 0 dX6_hasFailedBy_0 rfl ?_
  refine g_getf C k_X6 1 f_X6_15 0 rfl rfl (by decide) rfl rfl dX6_hasFailedBy_1 ?_
  refine g_iload_n C 1 dX6_hasFailedBy_4 rfl ?_
  refine g_iald C 1 rfl (by omega) dX6_hasFailedBy_5 ?_
  have r1_5 := hEF s
  refine g_iload_n C 2 dX6_hasFailedBy_6 rfl ?_
  refine g_icmp_gt C 14 dX6_hasFailedBy_7 (by decide) (by omega) (by omega) (fun c7 => ?_) (fun c7 => ?_)
  · refine g_iconst C dX6_hasFailedBy_14 ?_
    exact g_zretM C hR dX6_hasFailedBy_15 (by omega) (by first | rfl | omega) rfl rfl
  refine g_iconst C dX6_hasFailedBy_10 ?_
  refine g_goto C 15 dX6_hasFailedBy_11 (by decide) ?_
  exact g_zretM C hR dX6_hasFailedBy_15 (by omega) (by first | rfl | omega) rfl rfl

set_option maxHeartbeats 4000000 in
set_option maxRecDepth 100000 in
theorem c_X6_isCounting (l : Launch) (g : gD) (eo : Nat) (ec : Nat) (ef : Nat) (es : Nat) (eh : Nat) (ep : Nat) (ex : Nat) (EF : Int → Int) (ES : Int → Int) (EH : Int → Int) (nE : Int) (nR : Int) (v : Int) (s : Int) (hEF : ∀ k, 0 ≤ EF k ∧ EF k ≤ 2200) (hES : ∀ k, 0 ≤ ES k ∧ ES k ≤ 5) (hEH : ∀ k, 0 ≤ EH k ∧ EH k ≤ 2199) (hv : 0 ≤ v ∧ v < 60) (hs : 0 ≤ s ∧ s < 6) : gMet l g yX6_isCounting cX6_isCounting 3 (some .boolean) 1 0 0 22 [.ref eo, vi v, vi s] [(eo, cO 6 [.ref ec, .ref ef, .ref es, .ref eh, .ref ep, .ref ex, vi nE, vi nR]), (ef, cA g 6 EF), (es, cA g 60 ES), (eh, cA g 60 EH)] (gM (some (vi (if ES v = s ∧ EH v < EF s then 1 else 0))) [(eo, cO 6 [.ref ec, .ref ef, .ref es, .ref eh, .ref ep, .ref ex, vi nE, vi nR]), (ef, cA g 6 EF), (es, cA g 60 ES), (eh, cA g 60 EH)]) := by
  refine gMet.of y_X6_isCounting.2.2.2.2.1 (Nat.le_of_ble_eq_true rfl) ?_
  intro x hlx C hR hnm
  subst hlx
  have C : gC g x RX6 cX6_isCounting 3 1 0 0 22 := C
  show gW g x [(eo, cO 6 [.ref ec, .ref ef, .ref es, .ref eh, .ref ep, .ref ex, vi nE, vi nR]), (ef, cA g 6 EF), (es, cA g 60 ES), (eh, cA g 60 EH)] 0 0 [(0, .ref eo), (1, vi v), (2, vi s)] 0 []
  refine g_aload_n C 0 dX6_isCounting_0 rfl ?_
  refine g_getf C k_X6 2 f_X6_18 0 rfl rfl (by decide) rfl rfl dX6_isCounting_1 ?_
  refine g_iload_n C 1 dX6_isCounting_4 rfl ?_
  refine g_iald C 2 rfl (by omega) dX6_isCounting_5 ?_
  have r1_5 := hES v
  refine g_iload_n C 2 dX6_isCounting_6 rfl ?_
  refine g_icmp_ne C 28 dX6_isCounting_7 (by decide) (by omega) (by omega) (fun c7 => ?_) (fun c7 => ?_)
  · refine g_iconst C dX6_isCounting_28 ?_
    exact g_zretM C hR dX6_isCounting_29 (by omega) (by first | rfl | omega) rfl rfl
  refine g_aload_n C 0 dX6_isCounting_10 rfl ?_
  refine g_iload_n C 2 dX6_isCounting_11 rfl ?_
  refine g_aload_n C 0 dX6_isCounting_12 rfl ?_
  refine g_getf C k_X6 3 f_X6_21 0 rfl rfl (by decide) rfl rfl dX6_isCounting_13 ?_
  refine g_iload_n C 1 dX6_isCounting_16 rfl ?_
  refine g_iald C 3 rfl (by omega) dX6_isCounting_17 ?_
  have r2_17 := hEH v
  refine g_callVp C [vi s, vi (EH v)] [] (c_X6_hasFailedBy x.1.2.1 g eo ec ef es eh ep ex EF nE nR s (EH v) hEF hs (by omega)) y_X6_hasFailedBy l_X6_41 [0, 1] rfl (by decide) 0 rfl rfl rfl (Nat.le_of_ble_eq_true rfl) rfl (by decide) dX6_isCounting_18 ?_
  refine g_if_ne C 28 dX6_isCounting_21 (by decide) (by omega) (fun c21 => ?_) (fun c21 => ?_)
  · refine g_iconst C dX6_isCounting_28 ?_
    exact g_zretM C hR dX6_isCounting_29 (by omega) (by first | rfl | omega) rfl rfl
  refine g_iconst C dX6_isCounting_24 ?_
  refine g_goto C 29 dX6_isCounting_25 (by decide) ?_
  exact g_zretM C hR dX6_isCounting_29 (by omega) (by first | rfl | omega) rfl rfl

set_option maxHeartbeats 4000000 in
set_option maxRecDepth 100000 in
theorem c_X6_isInBox (l : Launch) (g : gD) (eo : Nat) (ec : Nat) (ef : Nat) (es : Nat) (eh : Nat) (ep : Nat) (ex : Nat) (EC : Int → Int) (nE : Int) (nR : Int) (s : Int) (b : Int) (hEC : ∀ k, 0 ≤ EC k ∧ EC k ≤ 15) (hs : 0 ≤ s ∧ s < 6) (hb : 0 ≤ b ∧ b ≤ 65535) : gMet l g yX6_isInBox cX6_isInBox 3 (some .boolean) 0 0 0 0 [.ref eo, vi s, vi b] [(eo, cO 6 [.ref ec, .ref ef, .ref es, .ref eh, .ref ep, .ref ex, vi nE, vi nR]), (ec, cA g 6 EC)] (gM (some (vi (if inb EC b s = 1 then 1 else 0))) [(eo, cO 6 [.ref ec, .ref ef, .ref es, .ref eh, .ref ep, .ref ex, vi nE, vi nR]), (ec, cA g 6 EC)]) := by
  refine gMet.of y_X6_isInBox.2.2.2.2.1 (Nat.le_of_ble_eq_true rfl) ?_
  intro x hlx C hR hnm
  subst hlx
  have C : gC g x RX6 cX6_isInBox 3 0 0 0 0 := C
  show gW g x [(eo, cO 6 [.ref ec, .ref ef, .ref es, .ref eh, .ref ep, .ref ex, vi nE, vi nR]), (ec, cA g 6 EC)] 0 0 [(0, .ref eo), (1, vi s), (2, vi b)] 0 []
  refine g_iload_n C 2 dX6_isInBox_0 rfl ?_
  refine g_aload_n C 0 dX6_isInBox_1 rfl ?_
  refine g_getf C k_X6 0 f_X6_9 0 rfl rfl (by decide) rfl rfl dX6_isInBox_2 ?_
  refine g_iload_n C 1 dX6_isInBox_5 rfl ?_
  refine g_iald C 1 rfl (by omega) dX6_isInBox_6 ?_
  have r1_6 := hEC s
  refine g_ishr C dX6_isInBox_7 (by omega) (by omega) ?_
  refine g_iconst C dX6_isInBox_8 ?_
  have hp9 := pw_le (b := b) (c := EC s) hb.1
  have h29 : inb EC b s = b / 2 ^ (EC s).toNat % 2 := rfl
  refine g_iand1 C dX6_isInBox_9 (by omega) ?_
  refine g_iconst C dX6_isInBox_10 ?_
  refine g_icmp_ne C 18 dX6_isInBox_11 (by decide) (by omega) (by omega) (fun c11 => ?_) (fun c11 => ?_)
  · refine g_iconst C dX6_isInBox_18 ?_
    exact g_zretM C hR dX6_isInBox_19 (by omega) (by first | rfl | omega) rfl rfl
  refine g_iconst C dX6_isInBox_14 ?_
  refine g_goto C 19 dX6_isInBox_15 (by decide) ?_
  exact g_zretM C hR dX6_isInBox_19 (by omega) (by first | rfl | omega) rfl rfl

/-- what a failing from an hour on leaves of a station's readings -/
def fcn (ES EH : Int → Int) (s h : Int) : Int → Int := fun k => if ES k = s ∧ EH k < h then 1 else 0

set_option maxHeartbeats 4000000 in
set_option maxRecDepth 100000 in
theorem c_X6_failFrom (l : Launch) (g : gD) (eo : Nat) (ec : Nat) (ef : Nat) (es : Nat) (eh : Nat) (ep : Nat) (ex : Nat) (EF : Int → Int) (ES : Int → Int) (EH : Int → Int) (nE : Int) (nR : Int) (s : Int) (h : Int) (hEF : ∀ k, 0 ≤ EF k ∧ EF k ≤ 2200) (hES : ∀ k, 0 ≤ ES k ∧ ES k ≤ 5) (hEH : ∀ k, 0 ≤ EH k ∧ EH k ≤ 2199) (hnR : 0 ≤ nR ∧ nR ≤ 60) (hs : 0 ≤ s ∧ s < 6) (hh : 0 ≤ h ∧ h ≤ 2199) : gMet l g yX6_failFrom cX6_failFrom 5 (some .int) 2 0 0 44 [.ref eo, vi s, vi h] [(eo, cO 6 [.ref ec, .ref ef, .ref es, .ref eh, .ref ep, .ref ex, vi nE, vi nR]), (ef, cA g 6 EF), (es, cA g 60 ES), (eh, cA g 60 EH)] (gM (some (vi (sm (fcn ES EH s h) nR))) [(eo, cO 6 [.ref ec, .ref ef, .ref es, .ref eh, .ref ep, .ref ex, vi nE, vi nR]), (ef, cA g 6 (up EF s h)), (es, cA g 60 ES), (eh, cA g 60 EH)]) := by
  refine gMet.of y_X6_failFrom.2.2.2.2.1 (Nat.le_of_ble_eq_true rfl) ?_
  intro x hlx C hR hnm
  subst hlx
  have C : gC g x RX6 cX6_failFrom 5 2 0 0 44 := C
  show gW g x [(eo, cO 6 [.ref ec, .ref ef, .ref es, .ref eh, .ref ep, .ref ex, vi nE, vi nR]), (ef, cA g 6 EF), (es, cA g 60 ES), (eh, cA g 60 EH)] 0 0 [(0, .ref eo), (1, vi s), (2, vi h)] 0 []
  refine g_aload_n C 0 dX6_failFrom_0 rfl ?_
  refine g_getf C k_X6 1 f_X6_15 0 rfl rfl (by decide) rfl rfl dX6_failFrom_1 ?_
  refine g_iload_n C 1 dX6_failFrom_4 rfl ?_
  refine g_iload_n C 2 dX6_failFrom_5 rfl ?_
  refine g_iast C 1 rfl (by omega) [(eo, cO 6 [.ref ec, .ref ef, .ref es, .ref eh, .ref ep, .ref ex, vi nE, vi nR]), (ef, cA g 6 (up EF s h)), (es, cA g 60 ES), (eh, cA g 60 EH)] rfl dX6_failFrom_6 ?_
  have hEF9 : ∀ k, 0 ≤ (up EF s h) k ∧ (up EF s h) k ≤ 2200 := fun k => by have := hEF k; unfold up; split <;> omega
  refine g_iconst C dX6_failFrom_7 ?_
  refine g_istore_n C [(3, vi 0), (0, .ref eo), (1, vi s), (2, vi h)] dX6_failFrom_8 (by decide) rfl ?_
  refine g_iconst C dX6_failFrom_9 ?_
  refine g_istore C [(4, vi 0), (3, vi 0), (0, .ref eo), (1, vi s), (2, vi h)] dX6_failFrom_10 (by decide) rfl ?_
  have L12 : ∀ (f : Nat) (acc : Int) (i : Int), (0 ≤ i ∧ i ≤ nR ∧ acc = sm (fcn ES EH s h) i) → (nR - i).toNat < f → gW g x [(eo, cO 6 [.ref ec, .ref ef, .ref es, .ref eh, .ref ep, .ref ex, vi nE, vi nR]), (ef, cA g 6 (up EF s h)), (es, cA g 60 ES), (eh, cA g 60 EH)] 0 0 [(4, vi i), (3, vi acc), (0, .ref eo), (1, vi s), (2, vi h)] 12 [] := by
    intro f
    induction f with
    | zero => intro acc i hI12 hf; exact absurd hf (Nat.not_lt_zero _)
    | succ f ih12 =>
      intro acc i hI12 hf12
      refine g_iload C 0 dX6_failFrom_12 rfl ?_
      refine g_aload_n C 2 dX6_failFrom_14 rfl ?_
      refine g_getf C k_X6 7 f_X6_34 0 rfl rfl (by decide) rfl rfl dX6_failFrom_15 ?_
      refine g_icmp_ge C 40 dX6_failFrom_18 (by decide) (by omega) (by omega) (fun c18 => ?_) (fun c18 => ?_)
      · refine g_iload_n C 1 dX6_failFrom_40 rfl ?_
        exact g_iretM C hR dX6_failFrom_41 (by rw [hI12.2.2, show i = nR by omega] <;> rfl) rfl rfl
      refine g_aload_n C 2 dX6_failFrom_21 rfl ?_
      refine g_iload C 0 dX6_failFrom_22 rfl ?_
      refine g_iload_n C 3 dX6_failFrom_24 rfl ?_
      refine g_callVp C [vi i, vi s] [] (c_X6_isCounting x.1.2.1 g eo ec ef es eh ep ex (up EF s h) ES EH nE nR i s hEF9 hES hEH (by omega) hs) y_X6_isCounting l_X6_37 [0, 1, 2, 3] rfl (by decide) 0 rfl rfl rfl (Nat.le_of_ble_eq_true rfl) rfl (by decide) dX6_failFrom_25 ?_
      have hu9 : up EF s h s = h := up_s
      refine g_if_eq C 34 dX6_failFrom_28 (by decide) (by omega) (fun c28 => ?_) (fun c28 => ?_)
      · refine g_iinc C 0 [(4, vi (i + 1)), (3, vi acc), (0, .ref eo), (1, vi s), (2, vi h)] dX6_failFrom_34 rfl (by decide) rfl ?_
        refine g_goto C 12 dX6_failFrom_37 (by decide) ?_
        exact ih12 acc (i + 1) ⟨by omega, by omega, by rw [sm_s _ (by omega), ← hI12.2.2]; simp only [fcn]; omega⟩ (by omega)
      refine g_iinc C 1 [(3, vi (acc + 1)), (4, vi i), (0, .ref eo), (1, vi s), (2, vi h)] dX6_failFrom_31 rfl (by decide) rfl ?_
      refine g_iinc C 1 [(4, vi (i + 1)), (3, vi (acc + 1)), (0, .ref eo), (1, vi s), (2, vi h)] dX6_failFrom_34 rfl (by decide) rfl ?_
      refine g_goto C 12 dX6_failFrom_37 (by decide) ?_
      exact ih12 (acc + 1) (i + 1) ⟨by omega, by omega, by rw [sm_s _ (by omega), ← hI12.2.2]; simp only [fcn]; omega⟩ (by omega)
  exact L12 _ 0 0 ⟨by omega, by omega, rfl⟩ (Nat.lt_succ_self _)

set_option maxHeartbeats 4000000 in
set_option maxRecDepth 100000 in
theorem c_X6_distanceTo (l : Launch) (g : gD) (b : Int) (c : Int) (hb : 0 ≤ b ∧ b ≤ 65535) (hc : 0 ≤ c ∧ c ≤ 15) : gMet l g yX6_distanceTo cX6_distanceTo 6 (some .int) 1 0 0 40 [vi b, vi c] [] (gM (some (vi (dst b c 6 16))) []) := by
  refine gMet.of y_X6_distanceTo.2.2.2.1 (Nat.le_of_ble_eq_true rfl) ?_
  intro x hlx C hR hnm
  subst hlx
  have C : gC g x RX6 cX6_distanceTo 6 1 0 0 40 := C
  show gW g x [] 0 0 [(0, vi b), (1, vi c)] 0 []
  refine g_bipush C dX6_distanceTo_0 (by decide) ?_
  refine g_istore_n C [(2, vi 6), (0, vi b), (1, vi c)] dX6_distanceTo_2 (by decide) rfl ?_
  refine g_iconst C dX6_distanceTo_3 ?_
  refine g_istore_n C [(3, vi 0), (2, vi 6), (0, vi b), (1, vi c)] dX6_distanceTo_4 (by decide) rfl ?_
  have L5 : ∀ (f : Nat) (i : Int) (le : Int), (0 ≤ i ∧ i ≤ 16 ∧ le = dst b c 6 i) → (16 - i).toNat < f → gW g x [] 0 0 [(3, vi i), (2, vi le), (0, vi b), (1, vi c)] 5 [] := by
    intro f
    induction f with
    | zero => intro i le hI5 hf; exact absurd hf (Nat.not_lt_zero _)
    | succ f ih5 =>
      intro i le hI5 hf5
      obtain ⟨hi0, hi1, hl⟩ := hI5
      have hr9 := dst_r (b := b) (init := 6) hc (by omega) ⟨hi0, hi1⟩
      refine g_iload_n C 0 dX6_distanceTo_5 rfl ?_
      refine g_bipush C dX6_distanceTo_6 (by decide) ?_
      refine g_icmp_gt C 60 dX6_distanceTo_8 (by decide) (by omega) (by omega) (fun c8 => ?_) (fun c8 => ?_)
      · refine g_iload_n C 1 dX6_distanceTo_60 rfl ?_
        exact g_iretM C hR dX6_distanceTo_61 (by rw [hl, show i = 16 by omega]) rfl rfl
      refine g_iload_n C 2 dX6_distanceTo_11 rfl ?_
      refine g_iload_n C 0 dX6_distanceTo_12 rfl ?_
      refine g_ishr C dX6_distanceTo_13 (by omega) (by omega) ?_
      have hp9 := pw_le (b := b) (c := i) hb.1
      refine g_iconst C dX6_distanceTo_14 ?_
      refine g_iand1 C dX6_distanceTo_15 (by omega) ?_
      refine g_iconst C dX6_distanceTo_16 ?_
      refine g_icmp_ne C 54 dX6_distanceTo_17 (by decide) (by omega) (by omega) (fun c17 => ?_) (fun c17 => ?_)
      · refine g_iinc C 0 [(3, vi (i + 1)), (2, vi le), (0, vi b), (1, vi c)] dX6_distanceTo_54 rfl (by decide) rfl ?_
        refine g_goto C 5 dX6_distanceTo_57 (by decide) ?_
        exact ih5 (i + 1) le ⟨by omega, by omega, by rw [dst_s _ _ _ hi0]; first | (rw [if_pos (Classical.not_not.mp c17), ← hl]; rfl) | (rw [if_neg c17]; exact hl)⟩ (by omega)
      refine g_iload_n C 0 dX6_distanceTo_20 rfl ?_
      refine g_iconst C dX6_distanceTo_21 ?_
      refine g_idiv C dX6_distanceTo_22 (by omega) (by omega) ?_
      refine g_iload_n C 3 dX6_distanceTo_23 rfl ?_
      refine g_iconst C dX6_distanceTo_24 ?_
      refine g_idiv C dX6_distanceTo_25 (by omega) (by omega) ?_
      refine g_isub C dX6_distanceTo_26 ?_
      refine g_mabs C l_X6_51 w_absS w_mathI w_absC (by omega) dX6_distanceTo_27 ⟨Nat.le_of_ble_eq_true rfl, Nat.le_of_ble_eq_true rfl⟩ (by decide) (by decide) ?_
      refine g_istore C [(4, vi (if 0 ≤ (i / 4) - (c / 4) then (i / 4) - (c / 4) else 0 - ((i / 4) - (c / 4)))), (3, vi i), (2, vi le), (0, vi b), (1, vi c)] dX6_distanceTo_30 (by decide) rfl ?_
      refine g_iload_n C 1 dX6_distanceTo_32 rfl ?_
      refine g_iconst C dX6_distanceTo_33 ?_
      refine g_irem C dX6_distanceTo_34 (by omega) (by omega) ?_
      refine g_iload_n C 4 dX6_distanceTo_35 rfl ?_
      refine g_iconst C dX6_distanceTo_36 ?_
      refine g_irem C dX6_distanceTo_37 (by omega) (by omega) ?_
      refine g_isub C dX6_distanceTo_38 ?_
      refine g_mabs C l_X6_51 w_absS w_mathI w_absC (by omega) dX6_distanceTo_39 ⟨Nat.le_of_ble_eq_true rfl, Nat.le_of_ble_eq_true rfl⟩ (by decide) (by decide) ?_
      refine g_istore C [(5, vi (if 0 ≤ (i % 4) - (c % 4) then (i % 4) - (c % 4) else 0 - ((i % 4) - (c % 4)))), (4, vi (if 0 ≤ (i / 4) - (c / 4) then (i / 4) - (c / 4) else 0 - ((i / 4) - (c / 4)))), (3, vi i), (2, vi le), (0, vi b), (1, vi c)] dX6_distanceTo_42 (by decide) rfl ?_
      refine g_iload_n C 3 dX6_distanceTo_44 rfl ?_
      refine g_iload C 1 dX6_distanceTo_45 rfl ?_
      refine g_iload C 0 dX6_distanceTo_47 rfl ?_
      refine g_iadd C dX6_distanceTo_49 ?_
      have hd9 := dd9_r (i := i) (c := c) (by omega) hc
      unfold dd9 at hd9
      refine g_mmin C l_X6_57 w_minS w_mathI w_minC (by omega) (by omega) dX6_distanceTo_50 ⟨Nat.le_of_ble_eq_true rfl, Nat.le_of_ble_eq_true rfl⟩ (by decide) (by decide) ?_
      refine g_istore_n C [(2, vi (if (if 0 ≤ (i / 4) - (c / 4) then (i / 4) - (c / 4) else 0 - ((i / 4) - (c / 4))) + (if 0 ≤ (i % 4) - (c % 4) then (i % 4) - (c % 4) else 0 - ((i % 4) - (c % 4))) < le then (if 0 ≤ (i / 4) - (c / 4) then (i / 4) - (c / 4) else 0 - ((i / 4) - (c / 4))) + (if 0 ≤ (i % 4) - (c % 4) then (i % 4) - (c % 4) else 0 - ((i % 4) - (c % 4))) else le)), (5, vi (if 0 ≤ (i % 4) - (c % 4) then (i % 4) - (c % 4) else 0 - ((i % 4) - (c % 4)))), (4, vi (if 0 ≤ (i / 4) - (c / 4) then (i / 4) - (c / 4) else 0 - ((i / 4) - (c / 4)))), (3, vi i), (0, vi b), (1, vi c)] dX6_distanceTo_53 (by decide) rfl ?_
      refine g_iinc C 3 [(3, vi (i + 1)), (2, vi (if (if 0 ≤ (i / 4) - (c / 4) then (i / 4) - (c / 4) else 0 - ((i / 4) - (c / 4))) + (if 0 ≤ (i % 4) - (c % 4) then (i % 4) - (c % 4) else 0 - ((i % 4) - (c % 4))) < le then (if 0 ≤ (i / 4) - (c / 4) then (i / 4) - (c / 4) else 0 - ((i / 4) - (c / 4))) + (if 0 ≤ (i % 4) - (c % 4) then (i % 4) - (c % 4) else 0 - ((i % 4) - (c % 4))) else le)), (5, vi (if 0 ≤ (i % 4) - (c % 4) then (i % 4) - (c % 4) else 0 - ((i % 4) - (c % 4)))), (4, vi (if 0 ≤ (i / 4) - (c / 4) then (i / 4) - (c / 4) else 0 - ((i / 4) - (c / 4)))), (0, vi b), (1, vi c)] dX6_distanceTo_54 rfl (by decide) rfl ?_
      refine g_goto C 5 dX6_distanceTo_57 (by decide) ?_
      refine g_lv [(3, vi (i + 1)), (2, vi (if (if 0 ≤ (i / 4) - (c / 4) then (i / 4) - (c / 4) else 0 - ((i / 4) - (c / 4))) + (if 0 ≤ (i % 4) - (c % 4) then (i % 4) - (c % 4) else 0 - ((i % 4) - (c % 4))) < le then (if 0 ≤ (i / 4) - (c / 4) then (i / 4) - (c / 4) else 0 - ((i / 4) - (c / 4))) + (if 0 ≤ (i % 4) - (c % 4) then (i % 4) - (c % 4) else 0 - ((i % 4) - (c % 4))) else le)), (0, vi b), (1, vi c)] [0, 1, 4, 5] rfl ?_
      exact ih5 (i + 1) (if (if 0 ≤ (i / 4) - (c / 4) then (i / 4) - (c / 4) else 0 - ((i / 4) - (c / 4))) + (if 0 ≤ (i % 4) - (c % 4) then (i % 4) - (c % 4) else 0 - ((i % 4) - (c % 4))) < le then (if 0 ≤ (i / 4) - (c / 4) then (i / 4) - (c / 4) else 0 - ((i / 4) - (c / 4))) + (if 0 ≤ (i % 4) - (c % 4) then (i % 4) - (c % 4) else 0 - ((i % 4) - (c % 4))) else le) ⟨by omega, by omega, by rw [dst_s _ _ _ hi0]; first | (rw [if_pos (Classical.not_not.mp c17), ← hl]; rfl) | (rw [if_neg c17]; exact hl)⟩ (by omega)
  exact L5 _ 0 6 ⟨by omega, by omega, rfl⟩ (Nat.lt_succ_self _)

set_option maxHeartbeats 4000000 in
set_option maxRecDepth 100000 in
theorem c_X6_standInFor (l : Launch) (g : gD) (eo : Nat) (ec : Nat) (ef : Nat) (es : Nat) (eh : Nat) (ep : Nat) (ex : Nat) (EC : Int → Int) (EF : Int → Int) (nE : Int) (nR : Int) (b : Int) (la : Int) (hEC : ∀ k, 0 ≤ EC k ∧ EC k ≤ 15) (hEF : ∀ k, 0 ≤ EF k ∧ EF k ≤ 2200) (hnE : 0 ≤ nE ∧ nE ≤ 6) (hb : 0 ≤ b ∧ b ≤ 65535) (hla : 0 ≤ la ∧ la ≤ 2199) : gMet l g yX6_standInFor cX6_standInFor 7 (some .int) 2 0 0 65 [.ref eo, vi b, vi la] [(eo, cO 6 [.ref ec, .ref ef, .ref es, .ref eh, .ref ep, .ref ex, vi nE, vi nR]), (ec, cA g 6 EC), (ef, cA g 6 EF)] (gM (some (vi (sti EC EF b la nE))) [(eo, cO 6 [.ref ec, .ref ef, .ref es, .ref eh, .ref ep, .ref ex, vi nE, vi nR]), (ec, cA g 6 EC), (ef, cA g 6 EF)]) := by
  refine gMet.of y_X6_standInFor.2.2.2.2.1 (Nat.le_of_ble_eq_true rfl) ?_
  intro x hlx C hR hnm
  subst hlx
  have C : gC g x RX6 cX6_standInFor 7 2 0 0 65 := C
  show gW g x [(eo, cO 6 [.ref ec, .ref ef, .ref es, .ref eh, .ref ep, .ref ex, vi nE, vi nR]), (ec, cA g 6 EC), (ef, cA g 6 EF)] 0 0 [(0, .ref eo), (1, vi b), (2, vi la)] 0 []
  refine g_iconst C dX6_standInFor_0 ?_
  refine g_istore_n C [(3, vi (-1)), (0, .ref eo), (1, vi b), (2, vi la)] dX6_standInFor_1 (by decide) rfl ?_
  refine g_bipush C dX6_standInFor_2 (by decide) ?_
  refine g_istore C [(4, vi 7), (3, vi (-1)), (0, .ref eo), (1, vi b), (2, vi la)] dX6_standInFor_4 (by decide) rfl ?_
  refine g_iconst C dX6_standInFor_6 ?_
  refine g_istore C [(5, vi 0), (4, vi 7), (3, vi (-1)), (0, .ref eo), (1, vi b), (2, vi la)] dX6_standInFor_7 (by decide) rfl ?_
  have L9 : ∀ (f : Nat) (i : Int) (ne : Int) (le : Int), (0 ≤ i ∧ i ≤ nE ∧ ne = stn EF (fun s => dst b (EC s) 6 16) la i ∧ le = (if ne = -1 then 7 else dst b (EC ne) 6 16) ∧ ¬ hls EC EF b la i) → (nE - i).toNat < f → gW g x [(eo, cO 6 [.ref ec, .ref ef, .ref es, .ref eh, .ref ep, .ref ex, vi nE, vi nR]), (ec, cA g 6 EC), (ef, cA g 6 EF)] 0 0 [(5, vi i), (4, vi le), (3, vi ne), (0, .ref eo), (1, vi b), (2, vi la)] 9 [] := by
    intro f
    induction f with
    | zero => intro i ne le hI9 hf; exact absurd hf (Nat.not_lt_zero _)
    | succ f ih9 =>
      intro i ne le hI9 hf9
      obtain ⟨hi0, hi1, hne, hle, hno⟩ := hI9
      have hs9 := stn_r EF (fun s => dst b (EC s) 6 16) la hi0
      have hd9 := dst_r (b := b) (c := EC i) (init := 6) (hEC i) (by omega) (n := 16) (by omega)
      have hd8 := dst_r (b := b) (c := EC ne) (init := 6) (hEC ne) (by omega) (n := 16) (by omega)
      refine g_iload C 0 dX6_standInFor_9 rfl ?_
      refine g_aload_n C 3 dX6_standInFor_11 rfl ?_
      refine g_getf C k_X6 6 f_X6_30 0 rfl rfl (by decide) rfl rfl dX6_standInFor_12 ?_
      refine g_icmp_ge C 76 dX6_standInFor_15 (by decide) (by omega) (by omega) (fun c15 => ?_) (fun c15 => ?_)
      · refine g_iload_n C 2 dX6_standInFor_76 rfl ?_
        exact g_iretM C hR dX6_standInFor_77 (by rw [hne, ← show i = nE by omega]; exact (sti_f hno).symm) rfl rfl
      refine g_aload_n C 3 dX6_standInFor_18 rfl ?_
      refine g_iload C 0 dX6_standInFor_19 rfl ?_
      refine g_iload_n C 5 dX6_standInFor_21 rfl ?_
      refine g_callVp C [vi i, vi la] [] (c_X6_hasFailedBy x.1.2.1 g eo ec ef es eh ep ex EF nE nR i la hEF (by omega) (by omega)) y_X6_hasFailedBy l_X6_41 [0, 2] rfl (by decide) 0 rfl rfl rfl (Nat.le_of_ble_eq_true rfl) rfl (by decide) dX6_standInFor_22 ?_
      refine g_if_eq C 31 dX6_standInFor_25 (by decide) (by omega) (fun c25 => ?_) (fun c25 => ?_)
      · refine g_aload_n C 3 dX6_standInFor_31 rfl ?_
        refine g_iload C 0 dX6_standInFor_32 rfl ?_
        refine g_iload_n C 4 dX6_standInFor_34 rfl ?_
        refine g_callVp C [vi i, vi b] [] (c_X6_isInBox x.1.2.1 g eo ec ef es eh ep ex EC nE nR i b hEC (by omega) hb) y_X6_isInBox l_X6_44 [0, 1] rfl (by decide) 0 rfl rfl rfl (Nat.le_of_ble_eq_true rfl) rfl (by decide) dX6_standInFor_35 ?_
        refine g_if_eq C 43 dX6_standInFor_38 (by decide) (by omega) (fun c38 => ?_) (fun c38 => ?_)
        · refine g_iload_n C 4 dX6_standInFor_43 rfl ?_
          refine g_aload_n C 3 dX6_standInFor_44 rfl ?_
          refine g_getf C k_X6 0 f_X6_9 0 rfl rfl (by decide) rfl rfl dX6_standInFor_45 ?_
          refine g_iload C 0 dX6_standInFor_48 rfl ?_
          refine g_iald C 1 rfl (by omega) dX6_standInFor_50 ?_
          have r1_50 := hEC i
          refine g_callSp C [vi b, vi (EC i)] [] (c_X6_distanceTo x.1.2.1 g b (EC i) hb (by omega)) y_X6_distanceTo l_X6_47 [] rfl (by decide) rfl (Nat.le_of_ble_eq_true rfl) rfl (by decide) dX6_standInFor_51 ?_
          refine g_istore C [(6, vi (dst b (EC i) 6 16)), (5, vi i), (4, vi le), (3, vi ne), (0, .ref eo), (1, vi b), (2, vi la)] dX6_standInFor_54 (by decide) rfl ?_
          refine g_iload C 0 dX6_standInFor_56 rfl ?_
          refine g_iload C 2 dX6_standInFor_58 rfl ?_
          refine g_icmp_ge C 70 dX6_standInFor_60 (by decide) (by omega) (by omega) (fun c60 => ?_) (fun c60 => ?_)
          · refine g_iinc C 1 [(5, vi (i + 1)), (6, vi (dst b (EC i) 6 16)), (4, vi le), (3, vi ne), (0, .ref eo), (1, vi b), (2, vi la)] dX6_standInFor_70 rfl (by decide) rfl ?_
            refine g_goto C 9 dX6_standInFor_73 (by decide) ?_
            refine g_lv [(5, vi (i + 1)), (4, vi le), (3, vi ne), (0, .ref eo), (1, vi b), (2, vi la)] [0, 2, 3, 4, 5, 6] rfl ?_
            exact ih9 (i + 1) ne le ⟨by omega, by omega, by rw [stn_s _ _ _ hi0, ← hne]; (try simp only []); first | (rw [if_pos (by omega)]; done) | (rw [if_neg (by omega)]; done), by first | exact hle | (rw [if_neg (by omega)]), hls_no hno (by omega)⟩ (by omega)
          refine g_iload C 0 dX6_standInFor_63 rfl ?_
          refine g_istore C [(4, vi (dst b (EC i) 6 16)), (6, vi (dst b (EC i) 6 16)), (5, vi i), (3, vi ne), (0, .ref eo), (1, vi b), (2, vi la)] dX6_standInFor_65 (by decide) rfl ?_
          refine g_iload C 2 dX6_standInFor_67 rfl ?_
          refine g_istore_n C [(3, vi i), (4, vi (dst b (EC i) 6 16)), (6, vi (dst b (EC i) 6 16)), (5, vi i), (0, .ref eo), (1, vi b), (2, vi la)] dX6_standInFor_69 (by decide) rfl ?_
          refine g_iinc C 3 [(5, vi (i + 1)), (3, vi i), (4, vi (dst b (EC i) 6 16)), (6, vi (dst b (EC i) 6 16)), (0, .ref eo), (1, vi b), (2, vi la)] dX6_standInFor_70 rfl (by decide) rfl ?_
          refine g_goto C 9 dX6_standInFor_73 (by decide) ?_
          refine g_lv [(5, vi (i + 1)), (4, vi (dst b (EC i) 6 16)), (3, vi i), (0, .ref eo), (1, vi b), (2, vi la)] [0, 2, 1, 4, 5, 6] rfl ?_
          exact ih9 (i + 1) i (dst b (EC i) 6 16) ⟨by omega, by omega, by rw [stn_s _ _ _ hi0, ← hne]; (try simp only []); first | (rw [if_pos (by omega)]; done) | (rw [if_neg (by omega)]; done), by first | exact hle | (rw [if_neg (by omega)]), hls_no hno (by omega)⟩ (by omega)
        refine g_iconst C dX6_standInFor_41 ?_
        exact g_iretM C hR dX6_standInFor_42 (sti_t ⟨i, by omega, by omega, by omega, by omega⟩).symm rfl rfl
      refine g_goto C 70 dX6_standInFor_28 (by decide) ?_
      refine g_iinc C 0 [(5, vi (i + 1)), (4, vi le), (3, vi ne), (0, .ref eo), (1, vi b), (2, vi la)] dX6_standInFor_70 rfl (by decide) rfl ?_
      refine g_goto C 9 dX6_standInFor_73 (by decide) ?_
      exact ih9 (i + 1) ne le ⟨by omega, by omega, by rw [stn_s _ _ _ hi0, ← hne]; (try simp only []); first | (rw [if_pos (by omega)]; done) | (rw [if_neg (by omega)]; done), by first | exact hle | (rw [if_neg (by omega)]), hls_no hno (by omega)⟩ (by omega)
  exact L9 _ 0 (-1) 7 ⟨by omega, by omega, rfl, rfl, fun ⟨_, h0, h1, _⟩ => by omega⟩ (Nat.lt_succ_self _)

set_option maxHeartbeats 4000000 in
set_option maxRecDepth 100000 in
theorem c_X6_strengthAt (l : Launch) (g : gD) (eo : Nat) (ec : Nat) (ef : Nat) (es : Nat) (eh : Nat) (ep : Nat) (ex : Nat) (EF : Int → Int) (ES : Int → Int) (EH : Int → Int) (EP : Int → Int) (EX : Int → Int) (nE : Int) (nR : Int) (s : Int) (p : Int) (a : Int) (la : Int) (hEF : ∀ k, 0 ≤ EF k ∧ EF k ≤ 2200) (hES : ∀ k, 0 ≤ ES k ∧ ES k ≤ 5) (hEH : ∀ k, 0 ≤ EH k ∧ EH k ≤ 2199) (hEP : ∀ k, 0 ≤ EP k ∧ EP k ≤ 2) (hEX : ∀ k, 0 ≤ EX k ∧ EX k ≤ 9) (hnR : 0 ≤ nR ∧ nR ≤ 60) (hs : 0 ≤ s ∧ s < 6) (hp : -2147483648 ≤ p ∧ p < 2147483648) (ha : -2147483648 ≤ a ∧ a < 2147483648) (hla : 0 ≤ la ∧ la ≤ 2199) : gMet l g yX6_strengthAt cX6_strengthAt 8 (some .int) 2 0 0 44 [.ref eo, vi s, vi p, vi a, vi la] [(eo, cO 6 [.ref ec, .ref ef, .ref es, .ref eh, .ref ep, .ref ex, vi nE, vi nR]), (ef, cA g 6 EF), (es, cA g 60 ES), (eh, cA g 60 EH), (ep, cA g 60 EP), (ex, cA g 60 EX)] (gM (some (vi (gst (cst EF ES EH EP s p a la) EX nR))) [(eo, cO 6 [.ref ec, .ref ef, .ref es, .ref eh, .ref ep, .ref ex, vi nE, vi nR]), (ef, cA g 6 EF), (es, cA g 60 ES), (eh, cA g 60 EH), (ep, cA g 60 EP), (ex, cA g 60 EX)]) := by
  refine gMet.of y_X6_strengthAt.2.2.2.2.1 (Nat.le_of_ble_eq_true rfl) ?_
  intro x hlx C hR hnm
  subst hlx
  have C : gC g x RX6 cX6_strengthAt 8 2 0 0 44 := C
  show gW g x [(eo, cO 6 [.ref ec, .ref ef, .ref es, .ref eh, .ref ep, .ref ex, vi nE, vi nR]), (ef, cA g 6 EF), (es, cA g 60 ES), (eh, cA g 60 EH), (ep, cA g 60 EP), (ex, cA g 60 EX)] 0 0 [(0, .ref eo), (1, vi s), (2, vi p), (3, vi a), (4, vi la)] 0 []
  refine g_iconst C dX6_strengthAt_0 ?_
  refine g_istore C [(5, vi 0), (0, .ref eo), (1, vi s), (2, vi p), (3, vi a), (4, vi la)] dX6_strengthAt_1 (by decide) rfl ?_
  refine g_iconst C dX6_strengthAt_3 ?_
  refine g_istore C [(6, vi 0), (5, vi 0), (0, .ref eo), (1, vi s), (2, vi p), (3, vi a), (4, vi la)] dX6_strengthAt_4 (by decide) rfl ?_
  have L6 : ∀ (f : Nat) (i : Int) (gr : Int), (0 ≤ i ∧ i ≤ nR ∧ gr = gst (cst EF ES EH EP s p a la) EX i) → (nR - i).toNat < f → gW g x [(eo, cO 6 [.ref ec, .ref ef, .ref es, .ref eh, .ref ep, .ref ex, vi nE, vi nR]), (ef, cA g 6 EF), (es, cA g 60 ES), (eh, cA g 60 EH), (ep, cA g 60 EP), (ex, cA g 60 EX)] 0 0 [(6, vi i), (5, vi gr), (0, .ref eo), (1, vi s), (2, vi p), (3, vi a), (4, vi la)] 6 [] := by
    intro f
    induction f with
    | zero => intro i gr hI6 hf; exact absurd hf (Nat.not_lt_zero _)
    | succ f ih6 =>
      intro i gr hI6 hf6
      obtain ⟨hi0, hi1, hg⟩ := hI6
      have hg9 := gst_r (P := cst EF ES EH EP s p a la) hEX hi0
      refine g_iload C 0 dX6_strengthAt_6 rfl ?_
      refine g_aload_n C 2 dX6_strengthAt_8 rfl ?_
      refine g_getf C k_X6 7 f_X6_34 0 rfl rfl (by decide) rfl rfl dX6_strengthAt_9 ?_
      refine g_icmp_ge C 91 dX6_strengthAt_12 (by decide) (by omega) (by omega) (fun c12 => ?_) (fun c12 => ?_)
      · refine g_iload C 1 dX6_strengthAt_91 rfl ?_
        exact g_iretM C hR dX6_strengthAt_93 (by rw [hg, show i = nR by omega]) rfl rfl
      have J43 : ∀ (u : Int), (u = if a ≤ EH i ∧ EH i ≤ la then 1 else 0) → gW g x [(eo, cO 6 [.ref ec, .ref ef, .ref es, .ref eh, .ref ep, .ref ex, vi nE, vi nR]), (ef, cA g 6 EF), (es, cA g 60 ES), (eh, cA g 60 EH), (ep, cA g 60 EP), (ex, cA g 60 EX)] 0 0 [(6, vi i), (5, vi gr), (0, .ref eo), (1, vi s), (2, vi p), (3, vi a), (4, vi la)] 43 [vi u] := by
        intro u hJ43
        refine g_istore C [(7, vi u), (6, vi i), (5, vi gr), (0, .ref eo), (1, vi s), (2, vi p), (3, vi a), (4, vi la)] dX6_strengthAt_43 (by decide) rfl ?_
        refine g_iload C 0 dX6_strengthAt_45 rfl ?_
        refine g_if_eq C 85 dX6_strengthAt_47 (by decide) (by omega) (fun c47 => ?_) (fun c47 => ?_)
        · refine g_iinc C 1 [(6, vi (i + 1)), (7, vi u), (5, vi gr), (0, .ref eo), (1, vi s), (2, vi p), (3, vi a), (4, vi la)] dX6_strengthAt_85 rfl (by decide) rfl ?_
          refine g_goto C 6 dX6_strengthAt_88 (by decide) ?_
          refine g_lv [(6, vi (i + 1)), (5, vi gr), (0, .ref eo), (1, vi s), (2, vi p), (3, vi a), (4, vi la)] [0, 2, 3, 4, 5, 6, 7] rfl ?_
          exact ih6 (i + 1) gr ⟨by omega, by omega, by first | (rw [gst_t hi0 ⟨by omega, by omega, by omega, by omega, by omega⟩, ← hg]) | (rw [gst_f hi0 (fun z => by obtain ⟨z1, z2, z3, z4, z5⟩ := z; omega), ← hg])⟩ (by omega)
        refine g_aload_n C 3 dX6_strengthAt_50 rfl ?_
        refine g_getf C k_X6 4 f_X6_24 0 rfl rfl (by decide) rfl rfl dX6_strengthAt_51 ?_
        refine g_iload C 1 dX6_strengthAt_54 rfl ?_
        refine g_iald C 4 rfl (by omega) dX6_strengthAt_56 ?_
        have r1_56 := hEP i
        refine g_iload_n C 5 dX6_strengthAt_57 rfl ?_
        refine g_icmp_ne C 85 dX6_strengthAt_58 (by decide) (by omega) (by omega) (fun c58 => ?_) (fun c58 => ?_)
        · refine g_iinc C 1 [(6, vi (i + 1)), (7, vi u), (5, vi gr), (0, .ref eo), (1, vi s), (2, vi p), (3, vi a), (4, vi la)] dX6_strengthAt_85 rfl (by decide) rfl ?_
          refine g_goto C 6 dX6_strengthAt_88 (by decide) ?_
          refine g_lv [(6, vi (i + 1)), (5, vi gr), (0, .ref eo), (1, vi s), (2, vi p), (3, vi a), (4, vi la)] [0, 2, 3, 4, 5, 6, 7] rfl ?_
          exact ih6 (i + 1) gr ⟨by omega, by omega, by first | (rw [gst_t hi0 ⟨by omega, by omega, by omega, by omega, by omega⟩, ← hg]) | (rw [gst_f hi0 (fun z => by obtain ⟨z1, z2, z3, z4, z5⟩ := z; omega), ← hg])⟩ (by omega)
        refine g_aload_n C 3 dX6_strengthAt_61 rfl ?_
        refine g_iload C 1 dX6_strengthAt_62 rfl ?_
        refine g_iload_n C 4 dX6_strengthAt_64 rfl ?_
        refine g_callVp C [vi i, vi s] [] (c_X6_isCounting x.1.2.1 g eo ec ef es eh ep ex EF ES EH nE nR i s hEF hES hEH (by omega) hs) y_X6_isCounting l_X6_37 [0, 1, 2, 3] rfl (by decide) 0 rfl rfl rfl (Nat.le_of_ble_eq_true rfl) rfl (by decide) dX6_strengthAt_65 ?_
        refine g_if_eq C 85 dX6_strengthAt_68 (by decide) (by omega) (fun c68 => ?_) (fun c68 => ?_)
        · refine g_iinc C 1 [(6, vi (i + 1)), (7, vi u), (5, vi gr), (0, .ref eo), (1, vi s), (2, vi p), (3, vi a), (4, vi la)] dX6_strengthAt_85 rfl (by decide) rfl ?_
          refine g_goto C 6 dX6_strengthAt_88 (by decide) ?_
          refine g_lv [(6, vi (i + 1)), (5, vi gr), (0, .ref eo), (1, vi s), (2, vi p), (3, vi a), (4, vi la)] [0, 2, 3, 4, 5, 6, 7] rfl ?_
          exact ih6 (i + 1) gr ⟨by omega, by omega, by first | (rw [gst_t hi0 ⟨by omega, by omega, by omega, by omega, by omega⟩, ← hg]) | (rw [gst_f hi0 (fun z => by obtain ⟨z1, z2, z3, z4, z5⟩ := z; omega), ← hg])⟩ (by omega)
        refine g_iload C 2 dX6_strengthAt_71 rfl ?_
        refine g_aload_n C 3 dX6_strengthAt_73 rfl ?_
        refine g_getf C k_X6 5 f_X6_27 0 rfl rfl (by decide) rfl rfl dX6_strengthAt_74 ?_
        refine g_iload C 1 dX6_strengthAt_77 rfl ?_
        refine g_iald C 5 rfl (by omega) dX6_strengthAt_79 ?_
        have r2_79 := hEX i
        refine g_mmax C l_X6_67 w_maxS w_mathI w_maxC (by omega) (by omega) dX6_strengthAt_80 ⟨Nat.le_of_ble_eq_true rfl, Nat.le_of_ble_eq_true rfl⟩ (by decide) (by decide) ?_
        refine g_istore C [(5, vi (if gr < EX i then EX i else gr)), (7, vi u), (6, vi i), (0, .ref eo), (1, vi s), (2, vi p), (3, vi a), (4, vi la)] dX6_strengthAt_83 (by decide) rfl ?_
        refine g_iinc C 2 [(6, vi (i + 1)), (5, vi (if gr < EX i then EX i else gr)), (7, vi u), (0, .ref eo), (1, vi s), (2, vi p), (3, vi a), (4, vi la)] dX6_strengthAt_85 rfl (by decide) rfl ?_
        refine g_goto C 6 dX6_strengthAt_88 (by decide) ?_
        refine g_lv [(6, vi (i + 1)), (5, vi (if gr < EX i then EX i else gr)), (0, .ref eo), (1, vi s), (2, vi p), (3, vi a), (4, vi la)] [0, 1, 3, 4, 5, 6, 7] rfl ?_
        exact ih6 (i + 1) (if gr < EX i then EX i else gr) ⟨by omega, by omega, by first | (rw [gst_t hi0 ⟨by omega, by omega, by omega, by omega, by omega⟩, ← hg]) | (rw [gst_f hi0 (fun z => by obtain ⟨z1, z2, z3, z4, z5⟩ := z; omega), ← hg])⟩ (by omega)
      refine g_aload_n C 2 dX6_strengthAt_15 rfl ?_
      refine g_getf C k_X6 3 f_X6_21 0 rfl rfl (by decide) rfl rfl dX6_strengthAt_16 ?_
      refine g_iload C 0 dX6_strengthAt_19 rfl ?_
      refine g_iald C 3 rfl (by omega) dX6_strengthAt_21 ?_
      have r3_21 := hEH i
      refine g_iload_n C 5 dX6_strengthAt_22 rfl ?_
      refine g_icmp_lt C 42 dX6_strengthAt_23 (by decide) (by omega) (by omega) (fun c23 => ?_) (fun c23 => ?_)
      · refine g_iconst C dX6_strengthAt_42 ?_
        exact J43 0 (by omega)
      refine g_aload_n C 2 dX6_strengthAt_26 rfl ?_
      refine g_getf C k_X6 3 f_X6_21 0 rfl rfl (by decide) rfl rfl dX6_strengthAt_27 ?_
      refine g_iload C 0 dX6_strengthAt_30 rfl ?_
      refine g_iald C 3 rfl (by omega) dX6_strengthAt_32 ?_
      have r4_32 := hEH i
      refine g_iload C 6 dX6_strengthAt_33 rfl ?_
      refine g_icmp_gt C 42 dX6_strengthAt_35 (by decide) (by omega) (by omega) (fun c35 => ?_) (fun c35 => ?_)
      · refine g_iconst C dX6_strengthAt_42 ?_
        exact J43 0 (by omega)
      refine g_iconst C dX6_strengthAt_38 ?_
      refine g_goto C 43 dX6_strengthAt_39 (by decide) ?_
      exact J43 1 (by omega)
  exact L6 _ 0 0 ⟨by omega, by omega, rfl⟩ (Nat.lt_succ_self _)

set_option maxHeartbeats 4000000 in
set_option maxRecDepth 100000 in
theorem c_X6_greatestStrength (l : Launch) (g : gD) (eo : Nat) (ec : Nat) (ef : Nat) (es : Nat) (eh : Nat) (ep : Nat) (ex : Nat) (EC : Int → Int) (EF : Int → Int) (ES : Int → Int) (EH : Int → Int) (EP : Int → Int) (EX : Int → Int) (nE : Int) (nR : Int) (p : Int) (b : Int) (a : Int) (la : Int) (hEC : ∀ k, 0 ≤ EC k ∧ EC k ≤ 15) (hEF : ∀ k, 0 ≤ EF k ∧ EF k ≤ 2200) (hES : ∀ k, 0 ≤ ES k ∧ ES k ≤ 5) (hEH : ∀ k, 0 ≤ EH k ∧ EH k ≤ 2199) (hEP : ∀ k, 0 ≤ EP k ∧ EP k ≤ 2) (hEX : ∀ k, 0 ≤ EX k ∧ EX k ≤ 9) (hnE : 0 ≤ nE ∧ nE ≤ 6) (hnR : 0 ≤ nR ∧ nR ≤ 60) (hEn : ∀ k9, 0 ≤ k9 → k9 < nR → ES k9 < nE) (hp : -2147483648 ≤ p ∧ p < 2147483648) (hb : 0 ≤ b ∧ b ≤ 65535) (ha : -2147483648 ≤ a ∧ a < 2147483648) (hla : 0 ≤ la ∧ la ≤ 2199) : gMet l g yX6_greatestStrength cX6_greatestStrength 9 (some .int) 3 0 0 91 [.ref eo, vi p, vi b, vi a, vi la] [(eo, cO 6 [.ref ec, .ref ef, .ref es, .ref eh, .ref ep, .ref ex, vi nE, vi nR]), (ec, cA g 6 EC), (ef, cA g 6 EF), (es, cA g 60 ES), (eh, cA g 60 EH), (ep, cA g 60 EP), (ex, cA g 60 EX)] (gM (some (vi (gst (cnd EC EF ES EH EP (sti EC EF b la nE) b p a la) EX nR))) [(eo, cO 6 [.ref ec, .ref ef, .ref es, .ref eh, .ref ep, .ref ex, vi nE, vi nR]), (ec, cA g 6 EC), (ef, cA g 6 EF), (es, cA g 60 ES), (eh, cA g 60 EH), (ep, cA g 60 EP), (ex, cA g 60 EX)]) := by
  refine gMet.of y_X6_greatestStrength.2.2.2.2.1 (Nat.le_of_ble_eq_true rfl) ?_
  intro x hlx C hR hnm
  subst hlx
  have C : gC g x RX6 cX6_greatestStrength 9 3 0 0 91 := C
  show gW g x [(eo, cO 6 [.ref ec, .ref ef, .ref es, .ref eh, .ref ep, .ref ex, vi nE, vi nR]), (ec, cA g 6 EC), (ef, cA g 6 EF), (es, cA g 60 ES), (eh, cA g 60 EH), (ep, cA g 60 EP), (ex, cA g 60 EX)] 0 0 [(0, .ref eo), (1, vi p), (2, vi b), (3, vi a), (4, vi la)] 0 []
  refine g_aload_n C 0 dX6_greatestStrength_0 rfl ?_
  refine g_iload_n C 2 dX6_greatestStrength_1 rfl ?_
  refine g_iload C 4 dX6_greatestStrength_2 rfl ?_
  refine g_callVp C [vi b, vi la] [] (c_X6_standInFor x.1.2.1 g eo ec ef es eh ep ex EC EF nE nR b la hEC hEF hnE hb hla) y_X6_standInFor l_X6_60 [0, 1, 2] rfl (by decide) 0 rfl rfl rfl (Nat.le_of_ble_eq_true rfl) rfl (by decide) dX6_greatestStrength_4 ?_
  refine g_istore C [(5, vi (sti EC EF b la nE)), (0, .ref eo), (1, vi p), (2, vi b), (3, vi a), (4, vi la)] dX6_greatestStrength_7 (by decide) rfl ?_
  refine g_iconst C dX6_greatestStrength_9 ?_
  refine g_istore C [(6, vi 0), (5, vi (sti EC EF b la nE)), (0, .ref eo), (1, vi p), (2, vi b), (3, vi a), (4, vi la)] dX6_greatestStrength_10 (by decide) rfl ?_
  refine g_iconst C dX6_greatestStrength_12 ?_
  refine g_istore C [(7, vi 0), (6, vi 0), (5, vi (sti EC EF b la nE)), (0, .ref eo), (1, vi p), (2, vi b), (3, vi a), (4, vi la)] dX6_greatestStrength_13 (by decide) rfl ?_
  have L15 : ∀ (f : Nat) (i : Int) (gr : Int), (0 ≤ i ∧ i ≤ nE ∧ gr = gst (cnb EC EF ES EH EP (sti EC EF b la nE) b p a la i) EX nR) → (nE - i).toNat < f → gW g x [(eo, cO 6 [.ref ec, .ref ef, .ref es, .ref eh, .ref ep, .ref ex, vi nE, vi nR]), (ec, cA g 6 EC), (ef, cA g 6 EF), (es, cA g 60 ES), (eh, cA g 60 EH), (ep, cA g 60 EP), (ex, cA g 60 EX)] 0 0 [(7, vi i), (6, vi gr), (5, vi (sti EC EF b la nE)), (0, .ref eo), (1, vi p), (2, vi b), (3, vi a), (4, vi la)] 15 [] := by
    intro f
    induction f with
    | zero => intro i gr hI15 hf; exact absurd hf (Nat.not_lt_zero _)
    | succ f ih15 =>
      intro i gr hI15 hf15
      obtain ⟨hi0, hi1, hg⟩ := hI15
      have hg9 := gst_r (P := (cnb EC EF ES EH EP (sti EC EF b la nE) b p a la i)) hEX hnR.1
      have hg8 := gst_r (P := cst EF ES EH EP i p a la) hEX hnR.1
      have hs9 := sti_r EC EF b la hnE.1
      refine g_iload C 0 dX6_greatestStrength_15 rfl ?_
      refine g_aload_n C 3 dX6_greatestStrength_17 rfl ?_
      refine g_getf C k_X6 6 f_X6_30 0 rfl rfl (by decide) rfl rfl dX6_greatestStrength_18 ?_
      refine g_icmp_ge C 82 dX6_greatestStrength_21 (by decide) (by omega) (by omega) (fun c21 => ?_) (fun c21 => ?_)
      · refine g_iload C 1 dX6_greatestStrength_82 rfl ?_
        exact g_iretM C hR dX6_greatestStrength_84 (by rw [hg, show i = nE by omega]; exact gs_all hnR.1 hEn) rfl rfl
      have J52 : ∀ (w : Int), ((w = 1 ↔ ((sti EC EF b la nE = -1 → inb EC b i = 1) ∧ (¬ sti EC EF b la nE = -1 → i = sti EC EF b la nE))) ∧ 0 ≤ w ∧ w ≤ 1) → gW g x [(eo, cO 6 [.ref ec, .ref ef, .ref es, .ref eh, .ref ep, .ref ex, vi nE, vi nR]), (ec, cA g 6 EC), (ef, cA g 6 EF), (es, cA g 60 ES), (eh, cA g 60 EH), (ep, cA g 60 EP), (ex, cA g 60 EX)] 0 0 [(7, vi i), (6, vi gr), (5, vi (sti EC EF b la nE)), (0, .ref eo), (1, vi p), (2, vi b), (3, vi a), (4, vi la)] 52 [vi w] := by
        intro w hJ52
        have hw52 := hJ52
        refine g_istore C [(8, vi w), (7, vi i), (6, vi gr), (5, vi (sti EC EF b la nE)), (0, .ref eo), (1, vi p), (2, vi b), (3, vi a), (4, vi la)] dX6_greatestStrength_52 (by decide) rfl ?_
        refine g_iload C 0 dX6_greatestStrength_54 rfl ?_
        refine g_if_eq C 76 dX6_greatestStrength_56 (by decide) (by omega) (fun c56 => ?_) (fun c56 => ?_)
        · refine g_iinc C 1 [(7, vi (i + 1)), (8, vi w), (6, vi gr), (5, vi (sti EC EF b la nE)), (0, .ref eo), (1, vi p), (2, vi b), (3, vi a), (4, vi la)] dX6_greatestStrength_76 rfl (by decide) rfl ?_
          refine g_goto C 15 dX6_greatestStrength_79 (by decide) ?_
          refine g_lv [(7, vi (i + 1)), (6, vi gr), (5, vi (sti EC EF b la nE)), (0, .ref eo), (1, vi p), (2, vi b), (3, vi a), (4, vi la)] [0, 2, 3, 4, 5, 6, 7, 8] rfl ?_
          exact ih15 (i + 1) gr ⟨by omega, by omega, by first | (rw [gs_yes hnR.1 (hw52.1.mp (by omega)), ← hg]) | (rw [← gs_no hnR.1 (fun z => absurd (hw52.1.mpr z) (by omega)), ← hg])⟩ (by omega)
        refine g_iload C 2 dX6_greatestStrength_59 rfl ?_
        refine g_aload_n C 4 dX6_greatestStrength_61 rfl ?_
        refine g_iload C 1 dX6_greatestStrength_62 rfl ?_
        refine g_iload_n C 5 dX6_greatestStrength_64 rfl ?_
        refine g_iload_n C 7 dX6_greatestStrength_65 rfl ?_
        refine g_iload C 8 dX6_greatestStrength_66 rfl ?_
        refine g_callVp C [vi i, vi p, vi a, vi la] [vi gr] (c_X6_strengthAt x.1.2.1 g eo ec ef es eh ep ex EF ES EH EP EX nE nR i p a la hEF hES hEH hEP hEX hnR (by omega) hp ha hla) y_X6_strengthAt l_X6_63 [0, 2, 3, 4, 5, 6] rfl (by decide) 0 rfl rfl rfl (Nat.le_of_ble_eq_true rfl) rfl (by decide) dX6_greatestStrength_68 ?_
        refine g_mmax C l_X6_67 w_maxS w_mathI w_maxC (by omega) (by omega) dX6_greatestStrength_71 ⟨Nat.le_of_ble_eq_true rfl, Nat.le_of_ble_eq_true rfl⟩ (by decide) (by decide) ?_
        refine g_istore C [(6, vi (if gr < gst (cst EF ES EH EP i p a la) EX nR then gst (cst EF ES EH EP i p a la) EX nR else gr)), (8, vi w), (7, vi i), (5, vi (sti EC EF b la nE)), (0, .ref eo), (1, vi p), (2, vi b), (3, vi a), (4, vi la)] dX6_greatestStrength_74 (by decide) rfl ?_
        refine g_iinc C 2 [(7, vi (i + 1)), (6, vi (if gr < gst (cst EF ES EH EP i p a la) EX nR then gst (cst EF ES EH EP i p a la) EX nR else gr)), (8, vi w), (5, vi (sti EC EF b la nE)), (0, .ref eo), (1, vi p), (2, vi b), (3, vi a), (4, vi la)] dX6_greatestStrength_76 rfl (by decide) rfl ?_
        refine g_goto C 15 dX6_greatestStrength_79 (by decide) ?_
        refine g_lv [(7, vi (i + 1)), (6, vi (if gr < gst (cst EF ES EH EP i p a la) EX nR then gst (cst EF ES EH EP i p a la) EX nR else gr)), (5, vi (sti EC EF b la nE)), (0, .ref eo), (1, vi p), (2, vi b), (3, vi a), (4, vi la)] [0, 1, 3, 4, 5, 6, 7, 8] rfl ?_
        exact ih15 (i + 1) (if gr < gst (cst EF ES EH EP i p a la) EX nR then gst (cst EF ES EH EP i p a la) EX nR else gr) ⟨by omega, by omega, by first | (rw [gs_yes hnR.1 (hw52.1.mp (by omega)), ← hg]) | (rw [← gs_no hnR.1 (fun z => absurd (hw52.1.mpr z) (by omega)), ← hg])⟩ (by omega)
      refine g_iload C 2 dX6_greatestStrength_24 rfl ?_
      refine g_iconst C dX6_greatestStrength_26 ?_
      refine g_icmp_ne C 40 dX6_greatestStrength_27 (by decide) (by omega) (by omega) (fun c27 => ?_) (fun c27 => ?_)
      · refine g_iload C 0 dX6_greatestStrength_40 rfl ?_
        refine g_iload C 2 dX6_greatestStrength_42 rfl ?_
        refine g_icmp_ne C 51 dX6_greatestStrength_44 (by decide) (by omega) (by omega) (fun c44 => ?_) (fun c44 => ?_)
        · refine g_iconst C dX6_greatestStrength_51 ?_
          exact J52 0 (by omega)
        refine g_iconst C dX6_greatestStrength_47 ?_
        refine g_goto C 52 dX6_greatestStrength_48 (by decide) ?_
        exact J52 1 (by omega)
      refine g_aload_n C 3 dX6_greatestStrength_30 rfl ?_
      refine g_iload C 0 dX6_greatestStrength_31 rfl ?_
      refine g_iload_n C 5 dX6_greatestStrength_33 rfl ?_
      refine g_callVp C [vi i, vi b] [] (c_X6_isInBox x.1.2.1 g eo ec ef es eh ep ex EC nE nR i b hEC (by omega) hb) y_X6_isInBox l_X6_44 [0, 1] rfl (by decide) 0 rfl rfl rfl (Nat.le_of_ble_eq_true rfl) rfl (by decide) dX6_greatestStrength_34 ?_
      refine g_goto C 52 dX6_greatestStrength_37 (by decide) ?_
      exact J52 (if inb EC b i = 1 then 1 else 0) (by omega)
  exact L15 _ 0 0 ⟨by omega, by omega, gs_0 hES hnR.1⟩ (Nat.lt_succ_self _)

