def StI (B : gB) (J : (Nat → Nat) → (Nat → va_E) → (Nat → Nat) → (Nat → va_E) → Nat → Prop) (y1 : MethodName) (c1 : ByteArray) (n1 : Nat) (y2 : MethodName) (c2 : ByteArray) (n2 : Nat) (As : List Value) : Prop :=
  ∀ (ad : Nat → Nat) (ct : Nat → va_E) (ad2 : Nat → Nat) (ct2 : Nat → va_E) (S : Nat), J ad ct ad2 ct2 S → ∃ (fr1 lo1 mc1 ms1 : Nat) (P1 : gP) (fs1 : List Value), fr1 ≤ 100 ∧ lo1 ≤ 2000 ∧ mc1 ≤ 62 ∧ S + ms1 ≤ 502144 ∧ ct 0 = .inr (11, fs1) ∧ Ctr B y1 c1 n1 (some .int) fr1 lo1 mc1 ms1 ad ct 178 (.ref (ad 0) :: As) P1 ∧
    ∀ v ad' ct' n', P1 v ad' ct' n' → n' = 178 ∧ ad' 0 = ad 0 ∧ ∃ r, v = some (.int r) ∧ ∃ (fr2 lo2 : Nat) (P2 : gP) (fs2 : List Value), fr2 ≤ 100 ∧ lo2 ≤ 2000 ∧ ct2 0 = .inr (12, fs2) ∧ Ctr B y2 c2 n2 (some .int) fr2 lo2 0 0 ad2 ct2 33 (.ref (ad2 0) :: As) P2 ∧
      ∀ v2 ad2' ct2' n2', P2 v2 ad2' ct2' n2' → n2' = 33 ∧ ad2' = ad2 ∧ v2 = some (.int r) ∧ J ad' ct' ad2' ct2' (S + ms1)
def StL (B : gB) (J : (Nat → Nat) → (Nat → va_E) → (Nat → Nat) → (Nat → va_E) → Nat → Prop) (y1 : MethodName) (c1 : ByteArray) (n1 : Nat) (y2 : MethodName) (c2 : ByteArray) (n2 : Nat) (As : List Value) : Prop :=
  ∀ (ad : Nat → Nat) (ct : Nat → va_E) (ad2 : Nat → Nat) (ct2 : Nat → va_E) (S : Nat), J ad ct ad2 ct2 S → ∃ (fr1 lo1 mc1 ms1 : Nat) (P1 : gP) (fs1 : List Value), fr1 ≤ 100 ∧ lo1 ≤ 2000 ∧ mc1 ≤ 62 ∧ S + ms1 ≤ 502144 ∧ ct 0 = .inr (11, fs1) ∧ Ctr B y1 c1 n1 (some .long) fr1 lo1 mc1 ms1 ad ct 178 (.ref (ad 0) :: As) P1 ∧
    ∀ v ad' ct' n', P1 v ad' ct' n' → n' = 178 ∧ ad' 0 = ad 0 ∧ ∃ r, v = some (.long r) ∧ ∃ (fr2 lo2 : Nat) (P2 : gP) (fs2 : List Value), fr2 ≤ 100 ∧ lo2 ≤ 2000 ∧ ct2 0 = .inr (12, fs2) ∧ Ctr B y2 c2 n2 (some .long) fr2 lo2 0 0 ad2 ct2 33 (.ref (ad2 0) :: As) P2 ∧
      ∀ v2 ad2' ct2' n2', P2 v2 ad2' ct2' n2' → n2' = 33 ∧ ad2' = ad2 ∧ v2 = some (.long r) ∧ J ad' ct' ad2' ct2' (S + ms1)
theorem lcmp_rfl {r : Int64} : lg_cmp r r = 0 := by unfold lg_cmp; rw [if_neg (fun h => Int64.lt_irrefl h), if_pos rfl]
set_option maxHeartbeats 4000000 in
set_option maxRecDepth 100000 in
theorem law_loop {B : gB} {J : (Nat → Nat) → (Nat → va_E) → (Nat → Nat) → (Nat → va_E) → Nat → Prop} {E : gE} {b N : Nat} {xs : Nat → Int32} (fx : gFx B cL_law RL 4 room_1 E) (hX : va_X b N xs E.s E.s.heap) (hbl : b < E.s.heap.size) (hbA : ¬ E.A b) (hN : N ≤ 2048) (hend : ∀ ad ct n, G B 4 E ad ct n 600000 7302250 [] 900 []) (T0 : ∀ x y : Int32, StI B J yX11_table cX11_table 3 yX12_table cX12_table 4 [.int x, .int y]) (T1 : ∀ x y z : Int32, StI B J yX11_cell cX11_cell 5 yX12_cell cX12_cell 6 [.int x, .int y, .int z]) (T2 : ∀ x y z : Int32, StI B J yX11_about cX11_about 6 yX12_about cX12_about 4 [.int x, .int y, .int z]) (T3 : ∀ x y : Int32, StI B J yX11_sample cX11_sample 4 yX12_sample cX12_sample 3 [.int x, .int y]) (T4 : ∀ x y : Int32, StI B J yX11_pair cX11_pair 3 yX12_pair cX12_pair 3 [.int x, .int y]) (T5 : ∀ x : Int32, StI B J yX11_clear cX11_clear 2 yX12_clear cX12_clear 3 [.int x]) (T6 : StI B J yX11_tables cX11_tables 2 yX12_tables cX12_tables 4 []) (T7 : ∀ x : Int32, StI B J yX11_labels cX11_labels 6 yX12_labels cX12_labels 9 [.int x]) (T8 : ∀ x : Int32, StI B J yX11_signs cX11_signs 8 yX12_signs cX12_signs 8 [.int x]) (T9 : ∀ x y : Int32, StI B J yX11_rank cX11_rank 4 yX12_rank cX12_rank 3 [.int x, .int y]) (T10 : ∀ x y z : Int32, StI B J yX11_caseAt cX11_caseAt 4 yX12_caseAt cX12_caseAt 4 [.int x, .int y, .int z]) (T11 : ∀ x : Int32, StI B J yX11_weighs cX11_weighs 2 yX12_weighs cX12_weighs 2 [.int x]) (T12 : ∀ x y : Int32, StI B J yX11_bits cX11_bits 4 yX12_bits cX12_bits 3 [.int x, .int y]) (T13 : ∀ x y z : Int32, StI B J yX11_word cX11_word 5 yX12_word cX12_word 4 [.int x, .int y, .int z]) (T14 : ∀ x y : Int32, StI B J yX11_figure cX11_figure 4 yX12_figure cX12_figure 4 [.int x, .int y]) (T15 : ∀ x y z : Int32, StI B J yX11_against cX11_against 5 yX12_against cX12_against 4 [.int x, .int y, .int z]) (T16 : ∀ x : Int32, StI B J yX11_result cX11_result 2 yX12_result cX12_result 2 [.int x]) (T17 : ∀ x : Int32, StL B J yX11_ways cX11_ways 2 yX12_ways cX12_ways 2 [.int x]) (T18 : ∀ x : Int32, StI B J yX11_note cX11_note 3 yX12_note cX12_note 2 [.int x]) (T19 : ∀ x y : Int32, StI B J yX11_rejected cX11_rejected 3 yX12_rejected cX12_rejected 3 [.int x, .int y]) (T20 : ∀ x y z : Int32, StI B J yX11_isRejected cX11_isRejected 4 yX12_isRejected cX12_isRejected 7 [.int x, .int y, .int z]) (T21 : ∀ x : Int32, StI B J yX11_claim cX11_claim 2 yX12_claim cX12_claim 2 [.int x]) (T22 : ∀ x : Int32, StI B J yX11_check cX11_check 7 yX12_check cX12_check 6 [.int x]) (T23 : StI B J yX11_shift cX11_shift 2 yX12_shift cX12_shift 6 []) (T24 : ∀ x : Int32, StI B J yX11_told cX11_told 2 yX12_told cX12_told 2 [.int x]) :
    ∀ (M i a0 b0 S K : Nat) (ad : Nat → Nat) (ct : Nat → va_E) (ad2 : Nat → Nat) (ct2 : Nat → va_E), J ad ct ad2 ct2 S → ad 0 = a0 → ad2 0 = b0 → S ≤ 502144 → i ≤ 2052 → i % 4 = 0 → K ≤ 211 + 62 * (i / 4) → 2100 - i < M → G B 4 E (aj 178 ad ad2) (aj 178 ct ct2) (178 + 33) K (1065717 + S) [(0, .ref b), (1, .ref a0), (2, .ref b0), (3, .int (nI i))] 18 [] := by
  intro M
  induction M with
  | zero => intro i a0 b0 S K ad ct ad2 ct2 _ _ _ _ _ _ _ hM; exact absurd hM (Nat.not_lt_zero _)
  | succ M ih =>
    intro i a0 b0 S K ad ct ad2 ct2 hJ ha hb hS hi hi4 hK hM
    refine g_iload_n fx 3 dL_law_18 rfl ?_
    refine g_aload_n fx 0 dL_law_19 rfl ?_
    refine g_scrLen fx hX hbl hbA dL_law_20 ?_
    refine g_iconst (v := nI 4) fx dL_law_21 (by decide +kernel) ?_
    refine g_isub fx dL_law_22 ?_
    have hlen : (nI N - nI 4).toInt = (N : Int) - 4 := sub_toInt (nI_toInt (by omega)) (show (nI 4).toInt = 4 by decide) (by omega)
    refine g_icmp_gt fx 900 dL_law_23 (by decide) (fun c23 => ?_) (fun c23 => ?_)
    · refine g_more (k1 := 600000) (s1 := 7302250) (by omega) (by omega) ?_
      exact g_locals [] rfl (hend _ _ _)
    have hin : i + 4 ≤ N := by
      have q := mt Int32.lt_iff_toInt_lt.mpr c23
      rw [hlen, nI_toInt (by omega)] at q
      omega
    have BK : ∀ (S2 K2 : Nat) (ad : Nat → Nat) (ct : Nat → va_E) (ad2 : Nat → Nat) (ct2 : Nat → va_E), J ad ct ad2 ct2 S2 → ad 0 = a0 → ad2 0 = b0 → S2 ≤ 502144 → K2 ≤ K + 62 → G B 4 E (aj 178 ad ad2) (aj 178 ct ct2) (178 + 33) K2 (1065717 + S2) [(0, .ref b), (1, .ref a0), (2, .ref b0), (3, .int (nI i))] 894 [] := by
      intro S2 K2 ad ct ad2 ct2 hJ ha hb hS2 hK2
      refine g_iinc (L' := [(3, .int (nI (i + 4))), (0, .ref b), (1, .ref a0), (2, .ref b0)]) fx (nI (i + 4)) 3 dL_law_894 rfl (by rw [show Int32.ofInt 4 = nI 4 by decide, nI_add]) (by decide) rfl ?_
      refine g_goto fx 18 dL_law_897 (by decide) ?_
      refine g_locals (L' := [(0, .ref b), (1, .ref a0), (2, .ref b0), (3, .int (nI (i + 4)))]) [1, 2, 3, 0] rfl ?_
      exact ih (i + 4) a0 b0 S2 K2 ad ct ad2 ct2 hJ ha hb hS2 (by omega) (by omega) (by omega) (by omega)
    refine g_aload_n fx 0 dL_law_26 rfl ?_
    refine g_iload_n fx 3 dL_law_27 rfl ?_
    refine g_scr (j := i) fx hX hbl hbA (nI_toInt (by omega)) (by omega) dL_law_28 ?_
    refine g_bipush (v := nI 31) fx dL_law_29 (by decide +kernel) ?_
    refine g_iand fx dL_law_31 ?_
    refine g_topi (fun sv _ => ?_)
    by_cases hsw : sv.toInt < 0 ∨ 24 < sv.toInt
    · refine g_tableOut fx 894 dL_law_32 hsw (by decide) ?_
      exact BK S K ad ct ad2 ct2 hJ ha hb hS (by omega)
    have hsv : sv.toInt = 0 ∨ sv.toInt = 1 ∨ sv.toInt = 2 ∨ sv.toInt = 3 ∨ sv.toInt = 4 ∨ sv.toInt = 5 ∨ sv.toInt = 6 ∨ sv.toInt = 7 ∨ sv.toInt = 8 ∨ sv.toInt = 9 ∨ sv.toInt = 10 ∨ sv.toInt = 11 ∨ sv.toInt = 12 ∨ sv.toInt = 13 ∨ sv.toInt = 14 ∨ sv.toInt = 15 ∨ sv.toInt = 16 ∨ sv.toInt = 17 ∨ sv.toInt = 18 ∨ sv.toInt = 19 ∨ sv.toInt = 20 ∨ sv.toInt = 21 ∨ sv.toInt = 22 ∨ sv.toInt = 23 ∨ sv.toInt = 24 := by omega
    rcases hsv with hsv | hsv | hsv | hsv | hsv | hsv | hsv | hsv | hsv | hsv | hsv | hsv | hsv | hsv | hsv | hsv | hsv | hsv | hsv | hsv | hsv | hsv | hsv | hsv | hsv
    · refine g_tableIn fx 148 dL_law_32 (by rw [hsv]; decide) (by rw [hsv]; decide) (off := 116) (by rw [hsv]; rfl) (by decide) ?_
      refine g_aload_n fx 1 dL_law_148 rfl ?_
      refine g_aload_n fx 0 dL_law_149 rfl ?_
      refine g_iload_n fx 3 dL_law_150 rfl ?_
      refine g_iconst (v := nI 1) fx dL_law_151 (by decide +kernel) ?_
      refine g_iaddN fx dL_law_152 ?_
      refine g_scr (j := i + 1) fx hX hbl hbA (nI_toInt (by omega)) (by omega) dL_law_153 ?_
      refine g_aload_n fx 0 dL_law_154 rfl ?_
      refine g_iload_n fx 3 dL_law_155 rfl ?_
      refine g_iconst (v := nI 2) fx dL_law_156 (by decide +kernel) ?_
      refine g_iaddN fx dL_law_157 ?_
      refine g_scr (j := i + 2) fx hX hbl hbA (nI_toInt (by omega)) (by omega) dL_law_158 ?_
      obtain ⟨fr1, lo1, mc1, ms1, P1, fs1, h1, h2, h3, h4, h5, h6, h7⟩ := T0 (xs (i + 1)) (xs (i + 2)) ad ct ad2 ct2 S hJ
      refine g_call1 (r := 0) (As := [.int (xs (i + 1)), .int (xs (i + 2))]) (rest := []) fx slL_13 h6 (by decide) h5 rfl (by rw [ha]; rfl) rfl (by decide) ⟨show _ ≤ 2048 by omega, show _ ≤ 84000 by omega⟩ ⟨show _ ≤ 600000 by omega, show _ ≤ 7302250 by omega⟩ dL_law_159 (fun v ad1 ct1 n1 hp => ?_)
      obtain ⟨rfl, ha1, r, rfl, fr2, lo2, P2, fs2, g1, g2, g5, g6, g7⟩ := h7 v ad1 ct1 n1 hp
      refine g_same (L' := [(0, .ref b), (1, .ref a0), (2, .ref b0), (3, .int (nI i))]) (st' := [.int r]) rfl rfl ?_
      refine g_aload_n fx 2 dL_law_162 rfl ?_
      refine g_aload_n fx 0 dL_law_163 rfl ?_
      refine g_iload_n fx 3 dL_law_164 rfl ?_
      refine g_iconst (v := nI 1) fx dL_law_165 (by decide +kernel) ?_
      refine g_iaddN fx dL_law_166 ?_
      refine g_scr (j := i + 1) fx hX hbl hbA (nI_toInt (by omega)) (by omega) dL_law_167 ?_
      refine g_aload_n fx 0 dL_law_168 rfl ?_
      refine g_iload_n fx 3 dL_law_169 rfl ?_
      refine g_iconst (v := nI 2) fx dL_law_170 (by decide +kernel) ?_
      refine g_iaddN fx dL_law_171 ?_
      refine g_scr (j := i + 2) fx hX hbl hbA (nI_toInt (by omega)) (by omega) dL_law_172 ?_
      refine g_call2 (r := 0) (As := [.int (xs (i + 1)), .int (xs (i + 2))]) (rest := [.int r]) fx slL_17 g6 (by decide) g5 rfl (by rw [hb]; rfl) rfl (Nat.le_of_ble_eq_true rfl) ⟨show _ ≤ 2048 by omega, show _ ≤ 84000 by omega⟩ ⟨show _ ≤ 600000 by omega, show _ ≤ 7302250 by omega⟩ dL_law_173 (fun v2 ad3 ct3 n3 hp2 => ?_)
      obtain ⟨rfl, rfl, rfl, hJ2⟩ := g7 v2 ad3 ct3 n3 hp2
      refine g_same (L' := [(0, .ref b), (1, .ref a0), (2, .ref b0), (3, .int (nI i))]) (st' := [.int r, .int r]) rfl rfl ?_
      refine g_icmp_eq fx 894 dL_law_176 (by decide) (fun _ => ?_) (fun q => absurd rfl q)
      exact g_more (by omega) (Nat.le_of_eq (by rw [Nat.add_zero, Nat.add_assoc])) (BK (S + ms1) (K + mc1 + 0) ad1 ct1 ad3 ct3 hJ2 (ha1.trans ha) hb h4 (by omega))
    · refine g_tableIn fx 181 dL_law_32 (by rw [hsv]; decide) (by rw [hsv]; decide) (off := 149) (by rw [hsv]; rfl) (by decide) ?_
      refine g_aload_n fx 1 dL_law_181 rfl ?_
      refine g_aload_n fx 0 dL_law_182 rfl ?_
      refine g_iload_n fx 3 dL_law_183 rfl ?_
      refine g_iconst (v := nI 1) fx dL_law_184 (by decide +kernel) ?_
      refine g_iaddN fx dL_law_185 ?_
      refine g_scr (j := i + 1) fx hX hbl hbA (nI_toInt (by omega)) (by omega) dL_law_186 ?_
      refine g_aload_n fx 0 dL_law_187 rfl ?_
      refine g_iload_n fx 3 dL_law_188 rfl ?_
      refine g_iconst (v := nI 2) fx dL_law_189 (by decide +kernel) ?_
      refine g_iaddN fx dL_law_190 ?_
      refine g_scr (j := i + 2) fx hX hbl hbA (nI_toInt (by omega)) (by omega) dL_law_191 ?_
      refine g_aload_n fx 0 dL_law_192 rfl ?_
      refine g_iload_n fx 3 dL_law_193 rfl ?_
      refine g_iconst (v := nI 3) fx dL_law_194 (by decide +kernel) ?_
      refine g_iaddN fx dL_law_195 ?_
      refine g_scr (j := i + 3) fx hX hbl hbA (nI_toInt (by omega)) (by omega) dL_law_196 ?_
      obtain ⟨fr1, lo1, mc1, ms1, P1, fs1, h1, h2, h3, h4, h5, h6, h7⟩ := T1 (xs (i + 1)) (xs (i + 2)) (xs (i + 3)) ad ct ad2 ct2 S hJ
      refine g_call1 (r := 0) (As := [.int (xs (i + 1)), .int (xs (i + 2)), .int (xs (i + 3))]) (rest := []) fx slL_18 h6 (by decide) h5 rfl (by rw [ha]; rfl) rfl (by decide) ⟨show _ ≤ 2048 by omega, show _ ≤ 84000 by omega⟩ ⟨show _ ≤ 600000 by omega, show _ ≤ 7302250 by omega⟩ dL_law_197 (fun v ad1 ct1 n1 hp => ?_)
      obtain ⟨rfl, ha1, r, rfl, fr2, lo2, P2, fs2, g1, g2, g5, g6, g7⟩ := h7 v ad1 ct1 n1 hp
      refine g_same (L' := [(0, .ref b), (1, .ref a0), (2, .ref b0), (3, .int (nI i))]) (st' := [.int r]) rfl rfl ?_
      refine g_aload_n fx 2 dL_law_200 rfl ?_
      refine g_aload_n fx 0 dL_law_201 rfl ?_
      refine g_iload_n fx 3 dL_law_202 rfl ?_
      refine g_iconst (v := nI 1) fx dL_law_203 (by decide +kernel) ?_
      refine g_iaddN fx dL_law_204 ?_
      refine g_scr (j := i + 1) fx hX hbl hbA (nI_toInt (by omega)) (by omega) dL_law_205 ?_
      refine g_aload_n fx 0 dL_law_206 rfl ?_
      refine g_iload_n fx 3 dL_law_207 rfl ?_
      refine g_iconst (v := nI 2) fx dL_law_208 (by decide +kernel) ?_
      refine g_iaddN fx dL_law_209 ?_
      refine g_scr (j := i + 2) fx hX hbl hbA (nI_toInt (by omega)) (by omega) dL_law_210 ?_
      refine g_aload_n fx 0 dL_law_211 rfl ?_
      refine g_iload_n fx 3 dL_law_212 rfl ?_
      refine g_iconst (v := nI 3) fx dL_law_213 (by decide +kernel) ?_
      refine g_iaddN fx dL_law_214 ?_
      refine g_scr (j := i + 3) fx hX hbl hbA (nI_toInt (by omega)) (by omega) dL_law_215 ?_
      refine g_call2 (r := 0) (As := [.int (xs (i + 1)), .int (xs (i + 2)), .int (xs (i + 3))]) (rest := [.int r]) fx slL_22 g6 (by decide) g5 rfl (by rw [hb]; rfl) rfl (Nat.le_of_ble_eq_true rfl) ⟨show _ ≤ 2048 by omega, show _ ≤ 84000 by omega⟩ ⟨show _ ≤ 600000 by omega, show _ ≤ 7302250 by omega⟩ dL_law_216 (fun v2 ad3 ct3 n3 hp2 => ?_)
      obtain ⟨rfl, rfl, rfl, hJ2⟩ := g7 v2 ad3 ct3 n3 hp2
      refine g_same (L' := [(0, .ref b), (1, .ref a0), (2, .ref b0), (3, .int (nI i))]) (st' := [.int r, .int r]) rfl rfl ?_
      refine g_icmp_eq fx 894 dL_law_219 (by decide) (fun _ => ?_) (fun q => absurd rfl q)
      exact g_more (by omega) (Nat.le_of_eq (by rw [Nat.add_zero, Nat.add_assoc])) (BK (S + ms1) (K + mc1 + 0) ad1 ct1 ad3 ct3 hJ2 (ha1.trans ha) hb h4 (by omega))
    · refine g_tableIn fx 224 dL_law_32 (by rw [hsv]; decide) (by rw [hsv]; decide) (off := 192) (by rw [hsv]; rfl) (by decide) ?_
      refine g_aload_n fx 1 dL_law_224 rfl ?_
      refine g_aload_n fx 0 dL_law_225 rfl ?_
      refine g_iload_n fx 3 dL_law_226 rfl ?_
      refine g_iconst (v := nI 1) fx dL_law_227 (by decide +kernel) ?_
      refine g_iaddN fx dL_law_228 ?_
      refine g_scr (j := i + 1) fx hX hbl hbA (nI_toInt (by omega)) (by omega) dL_law_229 ?_
      refine g_aload_n fx 0 dL_law_230 rfl ?_
      refine g_iload_n fx 3 dL_law_231 rfl ?_
      refine g_iconst (v := nI 2) fx dL_law_232 (by decide +kernel) ?_
      refine g_iaddN fx dL_law_233 ?_
      refine g_scr (j := i + 2) fx hX hbl hbA (nI_toInt (by omega)) (by omega) dL_law_234 ?_
      refine g_aload_n fx 0 dL_law_235 rfl ?_
      refine g_iload_n fx 3 dL_law_236 rfl ?_
      refine g_iconst (v := nI 3) fx dL_law_237 (by decide +kernel) ?_
      refine g_iaddN fx dL_law_238 ?_
      refine g_scr (j := i + 3) fx hX hbl hbA (nI_toInt (by omega)) (by omega) dL_law_239 ?_
      obtain ⟨fr1, lo1, mc1, ms1, P1, fs1, h1, h2, h3, h4, h5, h6, h7⟩ := T2 (xs (i + 1)) (xs (i + 2)) (xs (i + 3)) ad ct ad2 ct2 S hJ
      refine g_call1 (r := 0) (As := [.int (xs (i + 1)), .int (xs (i + 2)), .int (xs (i + 3))]) (rest := []) fx slL_23 h6 (by decide) h5 rfl (by rw [ha]; rfl) rfl (by decide) ⟨show _ ≤ 2048 by omega, show _ ≤ 84000 by omega⟩ ⟨show _ ≤ 600000 by omega, show _ ≤ 7302250 by omega⟩ dL_law_240 (fun v ad1 ct1 n1 hp => ?_)
      obtain ⟨rfl, ha1, r, rfl, fr2, lo2, P2, fs2, g1, g2, g5, g6, g7⟩ := h7 v ad1 ct1 n1 hp
      refine g_same (L' := [(0, .ref b), (1, .ref a0), (2, .ref b0), (3, .int (nI i))]) (st' := [.int r]) rfl rfl ?_
      refine g_aload_n fx 2 dL_law_243 rfl ?_
      refine g_aload_n fx 0 dL_law_244 rfl ?_
      refine g_iload_n fx 3 dL_law_245 rfl ?_
      refine g_iconst (v := nI 1) fx dL_law_246 (by decide +kernel) ?_
      refine g_iaddN fx dL_law_247 ?_
      refine g_scr (j := i + 1) fx hX hbl hbA (nI_toInt (by omega)) (by omega) dL_law_248 ?_
      refine g_aload_n fx 0 dL_law_249 rfl ?_
      refine g_iload_n fx 3 dL_law_250 rfl ?_
      refine g_iconst (v := nI 2) fx dL_law_251 (by decide +kernel) ?_
      refine g_iaddN fx dL_law_252 ?_
      refine g_scr (j := i + 2) fx hX hbl hbA (nI_toInt (by omega)) (by omega) dL_law_253 ?_
      refine g_aload_n fx 0 dL_law_254 rfl ?_
      refine g_iload_n fx 3 dL_law_255 rfl ?_
      refine g_iconst (v := nI 3) fx dL_law_256 (by decide +kernel) ?_
      refine g_iaddN fx dL_law_257 ?_
      refine g_scr (j := i + 3) fx hX hbl hbA (nI_toInt (by omega)) (by omega) dL_law_258 ?_
      refine g_call2 (r := 0) (As := [.int (xs (i + 1)), .int (xs (i + 2)), .int (xs (i + 3))]) (rest := [.int r]) fx slL_26 g6 (by decide) g5 rfl (by rw [hb]; rfl) rfl (Nat.le_of_ble_eq_true rfl) ⟨show _ ≤ 2048 by omega, show _ ≤ 84000 by omega⟩ ⟨show _ ≤ 600000 by omega, show _ ≤ 7302250 by omega⟩ dL_law_259 (fun v2 ad3 ct3 n3 hp2 => ?_)
      obtain ⟨rfl, rfl, rfl, hJ2⟩ := g7 v2 ad3 ct3 n3 hp2
      refine g_same (L' := [(0, .ref b), (1, .ref a0), (2, .ref b0), (3, .int (nI i))]) (st' := [.int r, .int r]) rfl rfl ?_
      refine g_icmp_eq fx 894 dL_law_262 (by decide) (fun _ => ?_) (fun q => absurd rfl q)
      exact g_more (by omega) (Nat.le_of_eq (by rw [Nat.add_zero, Nat.add_assoc])) (BK (S + ms1) (K + mc1 + 0) ad1 ct1 ad3 ct3 hJ2 (ha1.trans ha) hb h4 (by omega))
    · refine g_tableIn fx 267 dL_law_32 (by rw [hsv]; decide) (by rw [hsv]; decide) (off := 235) (by rw [hsv]; rfl) (by decide) ?_
      refine g_aload_n fx 1 dL_law_267 rfl ?_
      refine g_aload_n fx 0 dL_law_268 rfl ?_
      refine g_iload_n fx 3 dL_law_269 rfl ?_
      refine g_iconst (v := nI 1) fx dL_law_270 (by decide +kernel) ?_
      refine g_iaddN fx dL_law_271 ?_
      refine g_scr (j := i + 1) fx hX hbl hbA (nI_toInt (by omega)) (by omega) dL_law_272 ?_
      refine g_aload_n fx 0 dL_law_273 rfl ?_
      refine g_iload_n fx 3 dL_law_274 rfl ?_
      refine g_iconst (v := nI 2) fx dL_law_275 (by decide +kernel) ?_
      refine g_iaddN fx dL_law_276 ?_
      refine g_scr (j := i + 2) fx hX hbl hbA (nI_toInt (by omega)) (by omega) dL_law_277 ?_
      obtain ⟨fr1, lo1, mc1, ms1, P1, fs1, h1, h2, h3, h4, h5, h6, h7⟩ := T3 (xs (i + 1)) (xs (i + 2)) ad ct ad2 ct2 S hJ
      refine g_call1 (r := 0) (As := [.int (xs (i + 1)), .int (xs (i + 2))]) (rest := []) fx slL_27 h6 (by decide) h5 rfl (by rw [ha]; rfl) rfl (by decide) ⟨show _ ≤ 2048 by omega, show _ ≤ 84000 by omega⟩ ⟨show _ ≤ 600000 by omega, show _ ≤ 7302250 by omega⟩ dL_law_278 (fun v ad1 ct1 n1 hp => ?_)
      obtain ⟨rfl, ha1, r, rfl, fr2, lo2, P2, fs2, g1, g2, g5, g6, g7⟩ := h7 v ad1 ct1 n1 hp
      refine g_same (L' := [(0, .ref b), (1, .ref a0), (2, .ref b0), (3, .int (nI i))]) (st' := [.int r]) rfl rfl ?_
      refine g_aload_n fx 2 dL_law_281 rfl ?_
      refine g_aload_n fx 0 dL_law_282 rfl ?_
      refine g_iload_n fx 3 dL_law_283 rfl ?_
      refine g_iconst (v := nI 1) fx dL_law_284 (by decide +kernel) ?_
      refine g_iaddN fx dL_law_285 ?_
      refine g_scr (j := i + 1) fx hX hbl hbA (nI_toInt (by omega)) (by omega) dL_law_286 ?_
      refine g_aload_n fx 0 dL_law_287 rfl ?_
      refine g_iload_n fx 3 dL_law_288 rfl ?_
      refine g_iconst (v := nI 2) fx dL_law_289 (by decide +kernel) ?_
      refine g_iaddN fx dL_law_290 ?_
      refine g_scr (j := i + 2) fx hX hbl hbA (nI_toInt (by omega)) (by omega) dL_law_291 ?_
      refine g_call2 (r := 0) (As := [.int (xs (i + 1)), .int (xs (i + 2))]) (rest := [.int r]) fx slL_30 g6 (by decide) g5 rfl (by rw [hb]; rfl) rfl (Nat.le_of_ble_eq_true rfl) ⟨show _ ≤ 2048 by omega, show _ ≤ 84000 by omega⟩ ⟨show _ ≤ 600000 by omega, show _ ≤ 7302250 by omega⟩ dL_law_292 (fun v2 ad3 ct3 n3 hp2 => ?_)
      obtain ⟨rfl, rfl, rfl, hJ2⟩ := g7 v2 ad3 ct3 n3 hp2
      refine g_same (L' := [(0, .ref b), (1, .ref a0), (2, .ref b0), (3, .int (nI i))]) (st' := [.int r, .int r]) rfl rfl ?_
      refine g_icmp_eq fx 894 dL_law_295 (by decide) (fun _ => ?_) (fun q => absurd rfl q)
      exact g_more (by omega) (Nat.le_of_eq (by rw [Nat.add_zero, Nat.add_assoc])) (BK (S + ms1) (K + mc1 + 0) ad1 ct1 ad3 ct3 hJ2 (ha1.trans ha) hb h4 (by omega))
    · refine g_tableIn fx 300 dL_law_32 (by rw [hsv]; decide) (by rw [hsv]; decide) (off := 268) (by rw [hsv]; rfl) (by decide) ?_
      refine g_aload_n fx 1 dL_law_300 rfl ?_
      refine g_aload_n fx 0 dL_law_301 rfl ?_
      refine g_iload_n fx 3 dL_law_302 rfl ?_
      refine g_iconst (v := nI 1) fx dL_law_303 (by decide +kernel) ?_
      refine g_iaddN fx dL_law_304 ?_
      refine g_scr (j := i + 1) fx hX hbl hbA (nI_toInt (by omega)) (by omega) dL_law_305 ?_
      refine g_aload_n fx 0 dL_law_306 rfl ?_
      refine g_iload_n fx 3 dL_law_307 rfl ?_
      refine g_iconst (v := nI 2) fx dL_law_308 (by decide +kernel) ?_
      refine g_iaddN fx dL_law_309 ?_
      refine g_scr (j := i + 2) fx hX hbl hbA (nI_toInt (by omega)) (by omega) dL_law_310 ?_
      obtain ⟨fr1, lo1, mc1, ms1, P1, fs1, h1, h2, h3, h4, h5, h6, h7⟩ := T4 (xs (i + 1)) (xs (i + 2)) ad ct ad2 ct2 S hJ
      refine g_call1 (r := 0) (As := [.int (xs (i + 1)), .int (xs (i + 2))]) (rest := []) fx slL_31 h6 (by decide) h5 rfl (by rw [ha]; rfl) rfl (by decide) ⟨show _ ≤ 2048 by omega, show _ ≤ 84000 by omega⟩ ⟨show _ ≤ 600000 by omega, show _ ≤ 7302250 by omega⟩ dL_law_311 (fun v ad1 ct1 n1 hp => ?_)
      obtain ⟨rfl, ha1, r, rfl, fr2, lo2, P2, fs2, g1, g2, g5, g6, g7⟩ := h7 v ad1 ct1 n1 hp
      refine g_same (L' := [(0, .ref b), (1, .ref a0), (2, .ref b0), (3, .int (nI i))]) (st' := [.int r]) rfl rfl ?_
      refine g_aload_n fx 2 dL_law_314 rfl ?_
      refine g_aload_n fx 0 dL_law_315 rfl ?_
      refine g_iload_n fx 3 dL_law_316 rfl ?_
      refine g_iconst (v := nI 1) fx dL_law_317 (by decide +kernel) ?_
      refine g_iaddN fx dL_law_318 ?_
      refine g_scr (j := i + 1) fx hX hbl hbA (nI_toInt (by omega)) (by omega) dL_law_319 ?_
      refine g_aload_n fx 0 dL_law_320 rfl ?_
      refine g_iload_n fx 3 dL_law_321 rfl ?_
      refine g_iconst (v := nI 2) fx dL_law_322 (by decide +kernel) ?_
      refine g_iaddN fx dL_law_323 ?_
      refine g_scr (j := i + 2) fx hX hbl hbA (nI_toInt (by omega)) (by omega) dL_law_324 ?_
      refine g_call2 (r := 0) (As := [.int (xs (i + 1)), .int (xs (i + 2))]) (rest := [.int r]) fx slL_34 g6 (by decide) g5 rfl (by rw [hb]; rfl) rfl (Nat.le_of_ble_eq_true rfl) ⟨show _ ≤ 2048 by omega, show _ ≤ 84000 by omega⟩ ⟨show _ ≤ 600000 by omega, show _ ≤ 7302250 by omega⟩ dL_law_325 (fun v2 ad3 ct3 n3 hp2 => ?_)
      obtain ⟨rfl, rfl, rfl, hJ2⟩ := g7 v2 ad3 ct3 n3 hp2
      refine g_same (L' := [(0, .ref b), (1, .ref a0), (2, .ref b0), (3, .int (nI i))]) (st' := [.int r, .int r]) rfl rfl ?_
      refine g_icmp_eq fx 894 dL_law_328 (by decide) (fun _ => ?_) (fun q => absurd rfl q)
      exact g_more (by omega) (Nat.le_of_eq (by rw [Nat.add_zero, Nat.add_assoc])) (BK (S + ms1) (K + mc1 + 0) ad1 ct1 ad3 ct3 hJ2 (ha1.trans ha) hb h4 (by omega))
    · refine g_tableIn fx 333 dL_law_32 (by rw [hsv]; decide) (by rw [hsv]; decide) (off := 301) (by rw [hsv]; rfl) (by decide) ?_
      refine g_aload_n fx 1 dL_law_333 rfl ?_
      refine g_aload_n fx 0 dL_law_334 rfl ?_
      refine g_iload_n fx 3 dL_law_335 rfl ?_
      refine g_iconst (v := nI 1) fx dL_law_336 (by decide +kernel) ?_
      refine g_iaddN fx dL_law_337 ?_
      refine g_scr (j := i + 1) fx hX hbl hbA (nI_toInt (by omega)) (by omega) dL_law_338 ?_
      obtain ⟨fr1, lo1, mc1, ms1, P1, fs1, h1, h2, h3, h4, h5, h6, h7⟩ := T5 (xs (i + 1)) ad ct ad2 ct2 S hJ
      refine g_call1 (r := 0) (As := [.int (xs (i + 1))]) (rest := []) fx slL_35 h6 (by decide) h5 rfl (by rw [ha]; rfl) rfl (by decide) ⟨show _ ≤ 2048 by omega, show _ ≤ 84000 by omega⟩ ⟨show _ ≤ 600000 by omega, show _ ≤ 7302250 by omega⟩ dL_law_339 (fun v ad1 ct1 n1 hp => ?_)
      obtain ⟨rfl, ha1, r, rfl, fr2, lo2, P2, fs2, g1, g2, g5, g6, g7⟩ := h7 v ad1 ct1 n1 hp
      refine g_same (L' := [(0, .ref b), (1, .ref a0), (2, .ref b0), (3, .int (nI i))]) (st' := [.int r]) rfl rfl ?_
      refine g_aload_n fx 2 dL_law_342 rfl ?_
      refine g_aload_n fx 0 dL_law_343 rfl ?_
      refine g_iload_n fx 3 dL_law_344 rfl ?_
      refine g_iconst (v := nI 1) fx dL_law_345 (by decide +kernel) ?_
      refine g_iaddN fx dL_law_346 ?_
      refine g_scr (j := i + 1) fx hX hbl hbA (nI_toInt (by omega)) (by omega) dL_law_347 ?_
      refine g_call2 (r := 0) (As := [.int (xs (i + 1))]) (rest := [.int r]) fx slL_39 g6 (by decide) g5 rfl (by rw [hb]; rfl) rfl (Nat.le_of_ble_eq_true rfl) ⟨show _ ≤ 2048 by omega, show _ ≤ 84000 by omega⟩ ⟨show _ ≤ 600000 by omega, show _ ≤ 7302250 by omega⟩ dL_law_348 (fun v2 ad3 ct3 n3 hp2 => ?_)
      obtain ⟨rfl, rfl, rfl, hJ2⟩ := g7 v2 ad3 ct3 n3 hp2
      refine g_same (L' := [(0, .ref b), (1, .ref a0), (2, .ref b0), (3, .int (nI i))]) (st' := [.int r, .int r]) rfl rfl ?_
      refine g_icmp_eq fx 894 dL_law_351 (by decide) (fun _ => ?_) (fun q => absurd rfl q)
      exact g_more (by omega) (Nat.le_of_eq (by rw [Nat.add_zero, Nat.add_assoc])) (BK (S + ms1) (K + mc1 + 0) ad1 ct1 ad3 ct3 hJ2 (ha1.trans ha) hb h4 (by omega))
    · refine g_tableIn fx 356 dL_law_32 (by rw [hsv]; decide) (by rw [hsv]; decide) (off := 324) (by rw [hsv]; rfl) (by decide) ?_
      refine g_aload_n fx 1 dL_law_356 rfl ?_
      obtain ⟨fr1, lo1, mc1, ms1, P1, fs1, h1, h2, h3, h4, h5, h6, h7⟩ := T6 ad ct ad2 ct2 S hJ
      refine g_call1 (r := 0) (As := []) (rest := []) fx slL_40 h6 (by decide) h5 rfl (by rw [ha]; rfl) rfl (by decide) ⟨show _ ≤ 2048 by omega, show _ ≤ 84000 by omega⟩ ⟨show _ ≤ 600000 by omega, show _ ≤ 7302250 by omega⟩ dL_law_357 (fun v ad1 ct1 n1 hp => ?_)
      obtain ⟨rfl, ha1, r, rfl, fr2, lo2, P2, fs2, g1, g2, g5, g6, g7⟩ := h7 v ad1 ct1 n1 hp
      refine g_same (L' := [(0, .ref b), (1, .ref a0), (2, .ref b0), (3, .int (nI i))]) (st' := [.int r]) rfl rfl ?_
      refine g_aload_n fx 2 dL_law_360 rfl ?_
      refine g_call2 (r := 0) (As := []) (rest := [.int r]) fx slL_44 g6 (by decide) g5 rfl (by rw [hb]; rfl) rfl (Nat.le_of_ble_eq_true rfl) ⟨show _ ≤ 2048 by omega, show _ ≤ 84000 by omega⟩ ⟨show _ ≤ 600000 by omega, show _ ≤ 7302250 by omega⟩ dL_law_361 (fun v2 ad3 ct3 n3 hp2 => ?_)
      obtain ⟨rfl, rfl, rfl, hJ2⟩ := g7 v2 ad3 ct3 n3 hp2
      refine g_same (L' := [(0, .ref b), (1, .ref a0), (2, .ref b0), (3, .int (nI i))]) (st' := [.int r, .int r]) rfl rfl ?_
      refine g_icmp_eq fx 894 dL_law_364 (by decide) (fun _ => ?_) (fun q => absurd rfl q)
      exact g_more (by omega) (Nat.le_of_eq (by rw [Nat.add_zero, Nat.add_assoc])) (BK (S + ms1) (K + mc1 + 0) ad1 ct1 ad3 ct3 hJ2 (ha1.trans ha) hb h4 (by omega))
    · refine g_tableIn fx 369 dL_law_32 (by rw [hsv]; decide) (by rw [hsv]; decide) (off := 337) (by rw [hsv]; rfl) (by decide) ?_
      refine g_aload_n fx 1 dL_law_369 rfl ?_
      refine g_aload_n fx 0 dL_law_370 rfl ?_
      refine g_iload_n fx 3 dL_law_371 rfl ?_
      refine g_iconst (v := nI 1) fx dL_law_372 (by decide +kernel) ?_
      refine g_iaddN fx dL_law_373 ?_
      refine g_scr (j := i + 1) fx hX hbl hbA (nI_toInt (by omega)) (by omega) dL_law_374 ?_
      obtain ⟨fr1, lo1, mc1, ms1, P1, fs1, h1, h2, h3, h4, h5, h6, h7⟩ := T7 (xs (i + 1)) ad ct ad2 ct2 S hJ
      refine g_call1 (r := 0) (As := [.int (xs (i + 1))]) (rest := []) fx slL_45 h6 (by decide) h5 rfl (by rw [ha]; rfl) rfl (by decide) ⟨show _ ≤ 2048 by omega, show _ ≤ 84000 by omega⟩ ⟨show _ ≤ 600000 by omega, show _ ≤ 7302250 by omega⟩ dL_law_375 (fun v ad1 ct1 n1 hp => ?_)
      obtain ⟨rfl, ha1, r, rfl, fr2, lo2, P2, fs2, g1, g2, g5, g6, g7⟩ := h7 v ad1 ct1 n1 hp
      refine g_same (L' := [(0, .ref b), (1, .ref a0), (2, .ref b0), (3, .int (nI i))]) (st' := [.int r]) rfl rfl ?_
      refine g_aload_n fx 2 dL_law_378 rfl ?_
      refine g_aload_n fx 0 dL_law_379 rfl ?_
      refine g_iload_n fx 3 dL_law_380 rfl ?_
      refine g_iconst (v := nI 1) fx dL_law_381 (by decide +kernel) ?_
      refine g_iaddN fx dL_law_382 ?_
      refine g_scr (j := i + 1) fx hX hbl hbA (nI_toInt (by omega)) (by omega) dL_law_383 ?_
      refine g_call2 (r := 0) (As := [.int (xs (i + 1))]) (rest := [.int r]) fx slL_48 g6 (by decide) g5 rfl (by rw [hb]; rfl) rfl (Nat.le_of_ble_eq_true rfl) ⟨show _ ≤ 2048 by omega, show _ ≤ 84000 by omega⟩ ⟨show _ ≤ 600000 by omega, show _ ≤ 7302250 by omega⟩ dL_law_384 (fun v2 ad3 ct3 n3 hp2 => ?_)
      obtain ⟨rfl, rfl, rfl, hJ2⟩ := g7 v2 ad3 ct3 n3 hp2
      refine g_same (L' := [(0, .ref b), (1, .ref a0), (2, .ref b0), (3, .int (nI i))]) (st' := [.int r, .int r]) rfl rfl ?_
      refine g_icmp_eq fx 894 dL_law_387 (by decide) (fun _ => ?_) (fun q => absurd rfl q)
      exact g_more (by omega) (Nat.le_of_eq (by rw [Nat.add_zero, Nat.add_assoc])) (BK (S + ms1) (K + mc1 + 0) ad1 ct1 ad3 ct3 hJ2 (ha1.trans ha) hb h4 (by omega))
    · refine g_tableIn fx 392 dL_law_32 (by rw [hsv]; decide) (by rw [hsv]; decide) (off := 360) (by rw [hsv]; rfl) (by decide) ?_
      refine g_aload_n fx 1 dL_law_392 rfl ?_
      refine g_aload_n fx 0 dL_law_393 rfl ?_
      refine g_iload_n fx 3 dL_law_394 rfl ?_
      refine g_iconst (v := nI 1) fx dL_law_395 (by decide +kernel) ?_
      refine g_iaddN fx dL_law_396 ?_
      refine g_scr (j := i + 1) fx hX hbl hbA (nI_toInt (by omega)) (by omega) dL_law_397 ?_
      obtain ⟨fr1, lo1, mc1, ms1, P1, fs1, h1, h2, h3, h4, h5, h6, h7⟩ := T8 (xs (i + 1)) ad ct ad2 ct2 S hJ
      refine g_call1 (r := 0) (As := [.int (xs (i + 1))]) (rest := []) fx slL_49 h6 (by decide) h5 rfl (by rw [ha]; rfl) rfl (by decide) ⟨show _ ≤ 2048 by omega, show _ ≤ 84000 by omega⟩ ⟨show _ ≤ 600000 by omega, show _ ≤ 7302250 by omega⟩ dL_law_398 (fun v ad1 ct1 n1 hp => ?_)
      obtain ⟨rfl, ha1, r, rfl, fr2, lo2, P2, fs2, g1, g2, g5, g6, g7⟩ := h7 v ad1 ct1 n1 hp
      refine g_same (L' := [(0, .ref b), (1, .ref a0), (2, .ref b0), (3, .int (nI i))]) (st' := [.int r]) rfl rfl ?_
      refine g_aload_n fx 2 dL_law_401 rfl ?_
      refine g_aload_n fx 0 dL_law_402 rfl ?_
      refine g_iload_n fx 3 dL_law_403 rfl ?_
      refine g_iconst (v := nI 1) fx dL_law_404 (by decide +kernel) ?_
      refine g_iaddN fx dL_law_405 ?_
      refine g_scr (j := i + 1) fx hX hbl hbA (nI_toInt (by omega)) (by omega) dL_law_406 ?_
      refine g_call2 (r := 0) (As := [.int (xs (i + 1))]) (rest := [.int r]) fx slL_52 g6 (by decide) g5 rfl (by rw [hb]; rfl) rfl (Nat.le_of_ble_eq_true rfl) ⟨show _ ≤ 2048 by omega, show _ ≤ 84000 by omega⟩ ⟨show _ ≤ 600000 by omega, show _ ≤ 7302250 by omega⟩ dL_law_407 (fun v2 ad3 ct3 n3 hp2 => ?_)
      obtain ⟨rfl, rfl, rfl, hJ2⟩ := g7 v2 ad3 ct3 n3 hp2
      refine g_same (L' := [(0, .ref b), (1, .ref a0), (2, .ref b0), (3, .int (nI i))]) (st' := [.int r, .int r]) rfl rfl ?_
      refine g_icmp_eq fx 894 dL_law_410 (by decide) (fun _ => ?_) (fun q => absurd rfl q)
      exact g_more (by omega) (Nat.le_of_eq (by rw [Nat.add_zero, Nat.add_assoc])) (BK (S + ms1) (K + mc1 + 0) ad1 ct1 ad3 ct3 hJ2 (ha1.trans ha) hb h4 (by omega))
    · refine g_tableIn fx 415 dL_law_32 (by rw [hsv]; decide) (by rw [hsv]; decide) (off := 383) (by rw [hsv]; rfl) (by decide) ?_
      refine g_aload_n fx 1 dL_law_415 rfl ?_
      refine g_aload_n fx 0 dL_law_416 rfl ?_
      refine g_iload_n fx 3 dL_law_417 rfl ?_
      refine g_iconst (v := nI 1) fx dL_law_418 (by decide +kernel) ?_
      refine g_iaddN fx dL_law_419 ?_
      refine g_scr (j := i + 1) fx hX hbl hbA (nI_toInt (by omega)) (by omega) dL_law_420 ?_
      refine g_aload_n fx 0 dL_law_421 rfl ?_
      refine g_iload_n fx 3 dL_law_422 rfl ?_
      refine g_iconst (v := nI 2) fx dL_law_423 (by decide +kernel) ?_
      refine g_iaddN fx dL_law_424 ?_
      refine g_scr (j := i + 2) fx hX hbl hbA (nI_toInt (by omega)) (by omega) dL_law_425 ?_
      obtain ⟨fr1, lo1, mc1, ms1, P1, fs1, h1, h2, h3, h4, h5, h6, h7⟩ := T9 (xs (i + 1)) (xs (i + 2)) ad ct ad2 ct2 S hJ
      refine g_call1 (r := 0) (As := [.int (xs (i + 1)), .int (xs (i + 2))]) (rest := []) fx slL_53 h6 (by decide) h5 rfl (by rw [ha]; rfl) rfl (by decide) ⟨show _ ≤ 2048 by omega, show _ ≤ 84000 by omega⟩ ⟨show _ ≤ 600000 by omega, show _ ≤ 7302250 by omega⟩ dL_law_426 (fun v ad1 ct1 n1 hp => ?_)
      obtain ⟨rfl, ha1, r, rfl, fr2, lo2, P2, fs2, g1, g2, g5, g6, g7⟩ := h7 v ad1 ct1 n1 hp
      refine g_same (L' := [(0, .ref b), (1, .ref a0), (2, .ref b0), (3, .int (nI i))]) (st' := [.int r]) rfl rfl ?_
      refine g_aload_n fx 2 dL_law_429 rfl ?_
      refine g_aload_n fx 0 dL_law_430 rfl ?_
      refine g_iload_n fx 3 dL_law_431 rfl ?_
      refine g_iconst (v := nI 1) fx dL_law_432 (by decide +kernel) ?_
      refine g_iaddN fx dL_law_433 ?_
      refine g_scr (j := i + 1) fx hX hbl hbA (nI_toInt (by omega)) (by omega) dL_law_434 ?_
      refine g_aload_n fx 0 dL_law_435 rfl ?_
      refine g_iload_n fx 3 dL_law_436 rfl ?_
      refine g_iconst (v := nI 2) fx dL_law_437 (by decide +kernel) ?_
      refine g_iaddN fx dL_law_438 ?_
      refine g_scr (j := i + 2) fx hX hbl hbA (nI_toInt (by omega)) (by omega) dL_law_439 ?_
      refine g_call2 (r := 0) (As := [.int (xs (i + 1)), .int (xs (i + 2))]) (rest := [.int r]) fx slL_56 g6 (by decide) g5 rfl (by rw [hb]; rfl) rfl (Nat.le_of_ble_eq_true rfl) ⟨show _ ≤ 2048 by omega, show _ ≤ 84000 by omega⟩ ⟨show _ ≤ 600000 by omega, show _ ≤ 7302250 by omega⟩ dL_law_440 (fun v2 ad3 ct3 n3 hp2 => ?_)
      obtain ⟨rfl, rfl, rfl, hJ2⟩ := g7 v2 ad3 ct3 n3 hp2
      refine g_same (L' := [(0, .ref b), (1, .ref a0), (2, .ref b0), (3, .int (nI i))]) (st' := [.int r, .int r]) rfl rfl ?_
      refine g_icmp_eq fx 894 dL_law_443 (by decide) (fun _ => ?_) (fun q => absurd rfl q)
      exact g_more (by omega) (Nat.le_of_eq (by rw [Nat.add_zero, Nat.add_assoc])) (BK (S + ms1) (K + mc1 + 0) ad1 ct1 ad3 ct3 hJ2 (ha1.trans ha) hb h4 (by omega))
    · refine g_tableIn fx 448 dL_law_32 (by rw [hsv]; decide) (by rw [hsv]; decide) (off := 416) (by rw [hsv]; rfl) (by decide) ?_
      refine g_aload_n fx 1 dL_law_448 rfl ?_
      refine g_aload_n fx 0 dL_law_449 rfl ?_
      refine g_iload_n fx 3 dL_law_450 rfl ?_
      refine g_iconst (v := nI 1) fx dL_law_451 (by decide +kernel) ?_
      refine g_iaddN fx dL_law_452 ?_
      refine g_scr (j := i + 1) fx hX hbl hbA (nI_toInt (by omega)) (by omega) dL_law_453 ?_
      refine g_aload_n fx 0 dL_law_454 rfl ?_
      refine g_iload_n fx 3 dL_law_455 rfl ?_
      refine g_iconst (v := nI 2) fx dL_law_456 (by decide +kernel) ?_
      refine g_iaddN fx dL_law_457 ?_
      refine g_scr (j := i + 2) fx hX hbl hbA (nI_toInt (by omega)) (by omega) dL_law_458 ?_
      refine g_aload_n fx 0 dL_law_459 rfl ?_
      refine g_iload_n fx 3 dL_law_460 rfl ?_
      refine g_iconst (v := nI 3) fx dL_law_461 (by decide +kernel) ?_
      refine g_iaddN fx dL_law_462 ?_
      refine g_scr (j := i + 3) fx hX hbl hbA (nI_toInt (by omega)) (by omega) dL_law_463 ?_
      obtain ⟨fr1, lo1, mc1, ms1, P1, fs1, h1, h2, h3, h4, h5, h6, h7⟩ := T10 (xs (i + 1)) (xs (i + 2)) (xs (i + 3)) ad ct ad2 ct2 S hJ
      refine g_call1 (r := 0) (As := [.int (xs (i + 1)), .int (xs (i + 2)), .int (xs (i + 3))]) (rest := []) fx slL_57 h6 (by decide) h5 rfl (by rw [ha]; rfl) rfl (by decide) ⟨show _ ≤ 2048 by omega, show _ ≤ 84000 by omega⟩ ⟨show _ ≤ 600000 by omega, show _ ≤ 7302250 by omega⟩ dL_law_464 (fun v ad1 ct1 n1 hp => ?_)
      obtain ⟨rfl, ha1, r, rfl, fr2, lo2, P2, fs2, g1, g2, g5, g6, g7⟩ := h7 v ad1 ct1 n1 hp
      refine g_same (L' := [(0, .ref b), (1, .ref a0), (2, .ref b0), (3, .int (nI i))]) (st' := [.int r]) rfl rfl ?_
      refine g_aload_n fx 2 dL_law_467 rfl ?_
      refine g_aload_n fx 0 dL_law_468 rfl ?_
      refine g_iload_n fx 3 dL_law_469 rfl ?_
      refine g_iconst (v := nI 1) fx dL_law_470 (by decide +kernel) ?_
      refine g_iaddN fx dL_law_471 ?_
      refine g_scr (j := i + 1) fx hX hbl hbA (nI_toInt (by omega)) (by omega) dL_law_472 ?_
      refine g_aload_n fx 0 dL_law_473 rfl ?_
      refine g_iload_n fx 3 dL_law_474 rfl ?_
      refine g_iconst (v := nI 2) fx dL_law_475 (by decide +kernel) ?_
      refine g_iaddN fx dL_law_476 ?_
      refine g_scr (j := i + 2) fx hX hbl hbA (nI_toInt (by omega)) (by omega) dL_law_477 ?_
      refine g_aload_n fx 0 dL_law_478 rfl ?_
      refine g_iload_n fx 3 dL_law_479 rfl ?_
      refine g_iconst (v := nI 3) fx dL_law_480 (by decide +kernel) ?_
      refine g_iaddN fx dL_law_481 ?_
      refine g_scr (j := i + 3) fx hX hbl hbA (nI_toInt (by omega)) (by omega) dL_law_482 ?_
      refine g_call2 (r := 0) (As := [.int (xs (i + 1)), .int (xs (i + 2)), .int (xs (i + 3))]) (rest := [.int r]) fx slL_60 g6 (by decide) g5 rfl (by rw [hb]; rfl) rfl (Nat.le_of_ble_eq_true rfl) ⟨show _ ≤ 2048 by omega, show _ ≤ 84000 by omega⟩ ⟨show _ ≤ 600000 by omega, show _ ≤ 7302250 by omega⟩ dL_law_483 (fun v2 ad3 ct3 n3 hp2 => ?_)
      obtain ⟨rfl, rfl, rfl, hJ2⟩ := g7 v2 ad3 ct3 n3 hp2
      refine g_same (L' := [(0, .ref b), (1, .ref a0), (2, .ref b0), (3, .int (nI i))]) (st' := [.int r, .int r]) rfl rfl ?_
      refine g_icmp_eq fx 894 dL_law_486 (by decide) (fun _ => ?_) (fun q => absurd rfl q)
      exact g_more (by omega) (Nat.le_of_eq (by rw [Nat.add_zero, Nat.add_assoc])) (BK (S + ms1) (K + mc1 + 0) ad1 ct1 ad3 ct3 hJ2 (ha1.trans ha) hb h4 (by omega))
    · refine g_tableIn fx 491 dL_law_32 (by rw [hsv]; decide) (by rw [hsv]; decide) (off := 459) (by rw [hsv]; rfl) (by decide) ?_
      refine g_aload_n fx 1 dL_law_491 rfl ?_
      refine g_aload_n fx 0 dL_law_492 rfl ?_
      refine g_iload_n fx 3 dL_law_493 rfl ?_
      refine g_iconst (v := nI 1) fx dL_law_494 (by decide +kernel) ?_
      refine g_iaddN fx dL_law_495 ?_
      refine g_scr (j := i + 1) fx hX hbl hbA (nI_toInt (by omega)) (by omega) dL_law_496 ?_
      obtain ⟨fr1, lo1, mc1, ms1, P1, fs1, h1, h2, h3, h4, h5, h6, h7⟩ := T11 (xs (i + 1)) ad ct ad2 ct2 S hJ
      refine g_call1 (r := 0) (As := [.int (xs (i + 1))]) (rest := []) fx slL_61 h6 (by decide) h5 rfl (by rw [ha]; rfl) rfl (by decide) ⟨show _ ≤ 2048 by omega, show _ ≤ 84000 by omega⟩ ⟨show _ ≤ 600000 by omega, show _ ≤ 7302250 by omega⟩ dL_law_497 (fun v ad1 ct1 n1 hp => ?_)
      obtain ⟨rfl, ha1, r, rfl, fr2, lo2, P2, fs2, g1, g2, g5, g6, g7⟩ := h7 v ad1 ct1 n1 hp
      refine g_same (L' := [(0, .ref b), (1, .ref a0), (2, .ref b0), (3, .int (nI i))]) (st' := [.int r]) rfl rfl ?_
      refine g_aload_n fx 2 dL_law_500 rfl ?_
      refine g_aload_n fx 0 dL_law_501 rfl ?_
      refine g_iload_n fx 3 dL_law_502 rfl ?_
      refine g_iconst (v := nI 1) fx dL_law_503 (by decide +kernel) ?_
      refine g_iaddN fx dL_law_504 ?_
      refine g_scr (j := i + 1) fx hX hbl hbA (nI_toInt (by omega)) (by omega) dL_law_505 ?_
      refine g_call2 (r := 0) (As := [.int (xs (i + 1))]) (rest := [.int r]) fx slL_64 g6 (by decide) g5 rfl (by rw [hb]; rfl) rfl (Nat.le_of_ble_eq_true rfl) ⟨show _ ≤ 2048 by omega, show _ ≤ 84000 by omega⟩ ⟨show _ ≤ 600000 by omega, show _ ≤ 7302250 by omega⟩ dL_law_506 (fun v2 ad3 ct3 n3 hp2 => ?_)
      obtain ⟨rfl, rfl, rfl, hJ2⟩ := g7 v2 ad3 ct3 n3 hp2
      refine g_same (L' := [(0, .ref b), (1, .ref a0), (2, .ref b0), (3, .int (nI i))]) (st' := [.int r, .int r]) rfl rfl ?_
      refine g_icmp_eq fx 894 dL_law_509 (by decide) (fun _ => ?_) (fun q => absurd rfl q)
      exact g_more (by omega) (Nat.le_of_eq (by rw [Nat.add_zero, Nat.add_assoc])) (BK (S + ms1) (K + mc1 + 0) ad1 ct1 ad3 ct3 hJ2 (ha1.trans ha) hb h4 (by omega))
    · refine g_tableIn fx 514 dL_law_32 (by rw [hsv]; decide) (by rw [hsv]; decide) (off := 482) (by rw [hsv]; rfl) (by decide) ?_
      refine g_aload_n fx 1 dL_law_514 rfl ?_
      refine g_aload_n fx 0 dL_law_515 rfl ?_
      refine g_iload_n fx 3 dL_law_516 rfl ?_
      refine g_iconst (v := nI 1) fx dL_law_517 (by decide +kernel) ?_
      refine g_iaddN fx dL_law_518 ?_
      refine g_scr (j := i + 1) fx hX hbl hbA (nI_toInt (by omega)) (by omega) dL_law_519 ?_
      refine g_aload_n fx 0 dL_law_520 rfl ?_
      refine g_iload_n fx 3 dL_law_521 rfl ?_
      refine g_iconst (v := nI 2) fx dL_law_522 (by decide +kernel) ?_
      refine g_iaddN fx dL_law_523 ?_
      refine g_scr (j := i + 2) fx hX hbl hbA (nI_toInt (by omega)) (by omega) dL_law_524 ?_
      obtain ⟨fr1, lo1, mc1, ms1, P1, fs1, h1, h2, h3, h4, h5, h6, h7⟩ := T12 (xs (i + 1)) (xs (i + 2)) ad ct ad2 ct2 S hJ
      refine g_call1 (r := 0) (As := [.int (xs (i + 1)), .int (xs (i + 2))]) (rest := []) fx slL_65 h6 (by decide) h5 rfl (by rw [ha]; rfl) rfl (by decide) ⟨show _ ≤ 2048 by omega, show _ ≤ 84000 by omega⟩ ⟨show _ ≤ 600000 by omega, show _ ≤ 7302250 by omega⟩ dL_law_525 (fun v ad1 ct1 n1 hp => ?_)
      obtain ⟨rfl, ha1, r, rfl, fr2, lo2, P2, fs2, g1, g2, g5, g6, g7⟩ := h7 v ad1 ct1 n1 hp
      refine g_same (L' := [(0, .ref b), (1, .ref a0), (2, .ref b0), (3, .int (nI i))]) (st' := [.int r]) rfl rfl ?_
      refine g_aload_n fx 2 dL_law_528 rfl ?_
      refine g_aload_n fx 0 dL_law_529 rfl ?_
      refine g_iload_n fx 3 dL_law_530 rfl ?_
      refine g_iconst (v := nI 1) fx dL_law_531 (by decide +kernel) ?_
      refine g_iaddN fx dL_law_532 ?_
      refine g_scr (j := i + 1) fx hX hbl hbA (nI_toInt (by omega)) (by omega) dL_law_533 ?_
      refine g_aload_n fx 0 dL_law_534 rfl ?_
      refine g_iload_n fx 3 dL_law_535 rfl ?_
      refine g_iconst (v := nI 2) fx dL_law_536 (by decide +kernel) ?_
      refine g_iaddN fx dL_law_537 ?_
      refine g_scr (j := i + 2) fx hX hbl hbA (nI_toInt (by omega)) (by omega) dL_law_538 ?_
      refine g_call2 (r := 0) (As := [.int (xs (i + 1)), .int (xs (i + 2))]) (rest := [.int r]) fx slL_68 g6 (by decide) g5 rfl (by rw [hb]; rfl) rfl (Nat.le_of_ble_eq_true rfl) ⟨show _ ≤ 2048 by omega, show _ ≤ 84000 by omega⟩ ⟨show _ ≤ 600000 by omega, show _ ≤ 7302250 by omega⟩ dL_law_539 (fun v2 ad3 ct3 n3 hp2 => ?_)
      obtain ⟨rfl, rfl, rfl, hJ2⟩ := g7 v2 ad3 ct3 n3 hp2
      refine g_same (L' := [(0, .ref b), (1, .ref a0), (2, .ref b0), (3, .int (nI i))]) (st' := [.int r, .int r]) rfl rfl ?_
      refine g_icmp_eq fx 894 dL_law_542 (by decide) (fun _ => ?_) (fun q => absurd rfl q)
      exact g_more (by omega) (Nat.le_of_eq (by rw [Nat.add_zero, Nat.add_assoc])) (BK (S + ms1) (K + mc1 + 0) ad1 ct1 ad3 ct3 hJ2 (ha1.trans ha) hb h4 (by omega))
    · refine g_tableIn fx 547 dL_law_32 (by rw [hsv]; decide) (by rw [hsv]; decide) (off := 515) (by rw [hsv]; rfl) (by decide) ?_
      refine g_aload_n fx 1 dL_law_547 rfl ?_
      refine g_aload_n fx 0 dL_law_548 rfl ?_
      refine g_iload_n fx 3 dL_law_549 rfl ?_
      refine g_iconst (v := nI 1) fx dL_law_550 (by decide +kernel) ?_
      refine g_iaddN fx dL_law_551 ?_
      refine g_scr (j := i + 1) fx hX hbl hbA (nI_toInt (by omega)) (by omega) dL_law_552 ?_
      refine g_aload_n fx 0 dL_law_553 rfl ?_
      refine g_iload_n fx 3 dL_law_554 rfl ?_
      refine g_iconst (v := nI 2) fx dL_law_555 (by decide +kernel) ?_
      refine g_iaddN fx dL_law_556 ?_
      refine g_scr (j := i + 2) fx hX hbl hbA (nI_toInt (by omega)) (by omega) dL_law_557 ?_
      refine g_aload_n fx 0 dL_law_558 rfl ?_
      refine g_iload_n fx 3 dL_law_559 rfl ?_
      refine g_iconst (v := nI 3) fx dL_law_560 (by decide +kernel) ?_
      refine g_iaddN fx dL_law_561 ?_
      refine g_scr (j := i + 3) fx hX hbl hbA (nI_toInt (by omega)) (by omega) dL_law_562 ?_
      obtain ⟨fr1, lo1, mc1, ms1, P1, fs1, h1, h2, h3, h4, h5, h6, h7⟩ := T13 (xs (i + 1)) (xs (i + 2)) (xs (i + 3)) ad ct ad2 ct2 S hJ
      refine g_call1 (r := 0) (As := [.int (xs (i + 1)), .int (xs (i + 2)), .int (xs (i + 3))]) (rest := []) fx slL_69 h6 (by decide) h5 rfl (by rw [ha]; rfl) rfl (by decide) ⟨show _ ≤ 2048 by omega, show _ ≤ 84000 by omega⟩ ⟨show _ ≤ 600000 by omega, show _ ≤ 7302250 by omega⟩ dL_law_563 (fun v ad1 ct1 n1 hp => ?_)
      obtain ⟨rfl, ha1, r, rfl, fr2, lo2, P2, fs2, g1, g2, g5, g6, g7⟩ := h7 v ad1 ct1 n1 hp
      refine g_same (L' := [(0, .ref b), (1, .ref a0), (2, .ref b0), (3, .int (nI i))]) (st' := [.int r]) rfl rfl ?_
      refine g_aload_n fx 2 dL_law_566 rfl ?_
      refine g_aload_n fx 0 dL_law_567 rfl ?_
      refine g_iload_n fx 3 dL_law_568 rfl ?_
      refine g_iconst (v := nI 1) fx dL_law_569 (by decide +kernel) ?_
      refine g_iaddN fx dL_law_570 ?_
      refine g_scr (j := i + 1) fx hX hbl hbA (nI_toInt (by omega)) (by omega) dL_law_571 ?_
      refine g_aload_n fx 0 dL_law_572 rfl ?_
      refine g_iload_n fx 3 dL_law_573 rfl ?_
      refine g_iconst (v := nI 2) fx dL_law_574 (by decide +kernel) ?_
      refine g_iaddN fx dL_law_575 ?_
      refine g_scr (j := i + 2) fx hX hbl hbA (nI_toInt (by omega)) (by omega) dL_law_576 ?_
      refine g_aload_n fx 0 dL_law_577 rfl ?_
      refine g_iload_n fx 3 dL_law_578 rfl ?_
      refine g_iconst (v := nI 3) fx dL_law_579 (by decide +kernel) ?_
      refine g_iaddN fx dL_law_580 ?_
      refine g_scr (j := i + 3) fx hX hbl hbA (nI_toInt (by omega)) (by omega) dL_law_581 ?_
      refine g_call2 (r := 0) (As := [.int (xs (i + 1)), .int (xs (i + 2)), .int (xs (i + 3))]) (rest := [.int r]) fx slL_72 g6 (by decide) g5 rfl (by rw [hb]; rfl) rfl (Nat.le_of_ble_eq_true rfl) ⟨show _ ≤ 2048 by omega, show _ ≤ 84000 by omega⟩ ⟨show _ ≤ 600000 by omega, show _ ≤ 7302250 by omega⟩ dL_law_582 (fun v2 ad3 ct3 n3 hp2 => ?_)
      obtain ⟨rfl, rfl, rfl, hJ2⟩ := g7 v2 ad3 ct3 n3 hp2
      refine g_same (L' := [(0, .ref b), (1, .ref a0), (2, .ref b0), (3, .int (nI i))]) (st' := [.int r, .int r]) rfl rfl ?_
      refine g_icmp_eq fx 894 dL_law_585 (by decide) (fun _ => ?_) (fun q => absurd rfl q)
      exact g_more (by omega) (Nat.le_of_eq (by rw [Nat.add_zero, Nat.add_assoc])) (BK (S + ms1) (K + mc1 + 0) ad1 ct1 ad3 ct3 hJ2 (ha1.trans ha) hb h4 (by omega))
    · refine g_tableIn fx 590 dL_law_32 (by rw [hsv]; decide) (by rw [hsv]; decide) (off := 558) (by rw [hsv]; rfl) (by decide) ?_
      refine g_aload_n fx 1 dL_law_590 rfl ?_
      refine g_aload_n fx 0 dL_law_591 rfl ?_
      refine g_iload_n fx 3 dL_law_592 rfl ?_
      refine g_iconst (v := nI 1) fx dL_law_593 (by decide +kernel) ?_
      refine g_iaddN fx dL_law_594 ?_
      refine g_scr (j := i + 1) fx hX hbl hbA (nI_toInt (by omega)) (by omega) dL_law_595 ?_
      refine g_aload_n fx 0 dL_law_596 rfl ?_
      refine g_iload_n fx 3 dL_law_597 rfl ?_
      refine g_iconst (v := nI 2) fx dL_law_598 (by decide +kernel) ?_
      refine g_iaddN fx dL_law_599 ?_
      refine g_scr (j := i + 2) fx hX hbl hbA (nI_toInt (by omega)) (by omega) dL_law_600 ?_
      obtain ⟨fr1, lo1, mc1, ms1, P1, fs1, h1, h2, h3, h4, h5, h6, h7⟩ := T14 (xs (i + 1)) (xs (i + 2)) ad ct ad2 ct2 S hJ
      refine g_call1 (r := 0) (As := [.int (xs (i + 1)), .int (xs (i + 2))]) (rest := []) fx slL_73 h6 (by decide) h5 rfl (by rw [ha]; rfl) rfl (by decide) ⟨show _ ≤ 2048 by omega, show _ ≤ 84000 by omega⟩ ⟨show _ ≤ 600000 by omega, show _ ≤ 7302250 by omega⟩ dL_law_601 (fun v ad1 ct1 n1 hp => ?_)
      obtain ⟨rfl, ha1, r, rfl, fr2, lo2, P2, fs2, g1, g2, g5, g6, g7⟩ := h7 v ad1 ct1 n1 hp
      refine g_same (L' := [(0, .ref b), (1, .ref a0), (2, .ref b0), (3, .int (nI i))]) (st' := [.int r]) rfl rfl ?_
      refine g_aload_n fx 2 dL_law_604 rfl ?_
      refine g_aload_n fx 0 dL_law_605 rfl ?_
      refine g_iload_n fx 3 dL_law_606 rfl ?_
      refine g_iconst (v := nI 1) fx dL_law_607 (by decide +kernel) ?_
      refine g_iaddN fx dL_law_608 ?_
      refine g_scr (j := i + 1) fx hX hbl hbA (nI_toInt (by omega)) (by omega) dL_law_609 ?_
      refine g_aload_n fx 0 dL_law_610 rfl ?_
      refine g_iload_n fx 3 dL_law_611 rfl ?_
      refine g_iconst (v := nI 2) fx dL_law_612 (by decide +kernel) ?_
      refine g_iaddN fx dL_law_613 ?_
      refine g_scr (j := i + 2) fx hX hbl hbA (nI_toInt (by omega)) (by omega) dL_law_614 ?_
      refine g_call2 (r := 0) (As := [.int (xs (i + 1)), .int (xs (i + 2))]) (rest := [.int r]) fx slL_76 g6 (by decide) g5 rfl (by rw [hb]; rfl) rfl (Nat.le_of_ble_eq_true rfl) ⟨show _ ≤ 2048 by omega, show _ ≤ 84000 by omega⟩ ⟨show _ ≤ 600000 by omega, show _ ≤ 7302250 by omega⟩ dL_law_615 (fun v2 ad3 ct3 n3 hp2 => ?_)
      obtain ⟨rfl, rfl, rfl, hJ2⟩ := g7 v2 ad3 ct3 n3 hp2
      refine g_same (L' := [(0, .ref b), (1, .ref a0), (2, .ref b0), (3, .int (nI i))]) (st' := [.int r, .int r]) rfl rfl ?_
      refine g_icmp_eq fx 894 dL_law_618 (by decide) (fun _ => ?_) (fun q => absurd rfl q)
      exact g_more (by omega) (Nat.le_of_eq (by rw [Nat.add_zero, Nat.add_assoc])) (BK (S + ms1) (K + mc1 + 0) ad1 ct1 ad3 ct3 hJ2 (ha1.trans ha) hb h4 (by omega))
    · refine g_tableIn fx 623 dL_law_32 (by rw [hsv]; decide) (by rw [hsv]; decide) (off := 591) (by rw [hsv]; rfl) (by decide) ?_
      refine g_aload_n fx 1 dL_law_623 rfl ?_
      refine g_aload_n fx 0 dL_law_624 rfl ?_
      refine g_iload_n fx 3 dL_law_625 rfl ?_
      refine g_iconst (v := nI 1) fx dL_law_626 (by decide +kernel) ?_
      refine g_iaddN fx dL_law_627 ?_
      refine g_scr (j := i + 1) fx hX hbl hbA (nI_toInt (by omega)) (by omega) dL_law_628 ?_
      refine g_aload_n fx 0 dL_law_629 rfl ?_
      refine g_iload_n fx 3 dL_law_630 rfl ?_
      refine g_iconst (v := nI 2) fx dL_law_631 (by decide +kernel) ?_
      refine g_iaddN fx dL_law_632 ?_
      refine g_scr (j := i + 2) fx hX hbl hbA (nI_toInt (by omega)) (by omega) dL_law_633 ?_
      refine g_aload_n fx 0 dL_law_634 rfl ?_
      refine g_iload_n fx 3 dL_law_635 rfl ?_
      refine g_iconst (v := nI 3) fx dL_law_636 (by decide +kernel) ?_
      refine g_iaddN fx dL_law_637 ?_
      refine g_scr (j := i + 3) fx hX hbl hbA (nI_toInt (by omega)) (by omega) dL_law_638 ?_
      obtain ⟨fr1, lo1, mc1, ms1, P1, fs1, h1, h2, h3, h4, h5, h6, h7⟩ := T15 (xs (i + 1)) (xs (i + 2)) (xs (i + 3)) ad ct ad2 ct2 S hJ
      refine g_call1 (r := 0) (As := [.int (xs (i + 1)), .int (xs (i + 2)), .int (xs (i + 3))]) (rest := []) fx slL_77 h6 (by decide) h5 rfl (by rw [ha]; rfl) rfl (by decide) ⟨show _ ≤ 2048 by omega, show _ ≤ 84000 by omega⟩ ⟨show _ ≤ 600000 by omega, show _ ≤ 7302250 by omega⟩ dL_law_639 (fun v ad1 ct1 n1 hp => ?_)
      obtain ⟨rfl, ha1, r, rfl, fr2, lo2, P2, fs2, g1, g2, g5, g6, g7⟩ := h7 v ad1 ct1 n1 hp
      refine g_same (L' := [(0, .ref b), (1, .ref a0), (2, .ref b0), (3, .int (nI i))]) (st' := [.int r]) rfl rfl ?_
      refine g_aload_n fx 2 dL_law_642 rfl ?_
      refine g_aload_n fx 0 dL_law_643 rfl ?_
      refine g_iload_n fx 3 dL_law_644 rfl ?_
      refine g_iconst (v := nI 1) fx dL_law_645 (by decide +kernel) ?_
      refine g_iaddN fx dL_law_646 ?_
      refine g_scr (j := i + 1) fx hX hbl hbA (nI_toInt (by omega)) (by omega) dL_law_647 ?_
      refine g_aload_n fx 0 dL_law_648 rfl ?_
      refine g_iload_n fx 3 dL_law_649 rfl ?_
      refine g_iconst (v := nI 2) fx dL_law_650 (by decide +kernel) ?_
      refine g_iaddN fx dL_law_651 ?_
      refine g_scr (j := i + 2) fx hX hbl hbA (nI_toInt (by omega)) (by omega) dL_law_652 ?_
      refine g_aload_n fx 0 dL_law_653 rfl ?_
      refine g_iload_n fx 3 dL_law_654 rfl ?_
      refine g_iconst (v := nI 3) fx dL_law_655 (by decide +kernel) ?_
      refine g_iaddN fx dL_law_656 ?_
      refine g_scr (j := i + 3) fx hX hbl hbA (nI_toInt (by omega)) (by omega) dL_law_657 ?_
      refine g_call2 (r := 0) (As := [.int (xs (i + 1)), .int (xs (i + 2)), .int (xs (i + 3))]) (rest := [.int r]) fx slL_80 g6 (by decide) g5 rfl (by rw [hb]; rfl) rfl (Nat.le_of_ble_eq_true rfl) ⟨show _ ≤ 2048 by omega, show _ ≤ 84000 by omega⟩ ⟨show _ ≤ 600000 by omega, show _ ≤ 7302250 by omega⟩ dL_law_658 (fun v2 ad3 ct3 n3 hp2 => ?_)
      obtain ⟨rfl, rfl, rfl, hJ2⟩ := g7 v2 ad3 ct3 n3 hp2
      refine g_same (L' := [(0, .ref b), (1, .ref a0), (2, .ref b0), (3, .int (nI i))]) (st' := [.int r, .int r]) rfl rfl ?_
      refine g_icmp_eq fx 894 dL_law_661 (by decide) (fun _ => ?_) (fun q => absurd rfl q)
      exact g_more (by omega) (Nat.le_of_eq (by rw [Nat.add_zero, Nat.add_assoc])) (BK (S + ms1) (K + mc1 + 0) ad1 ct1 ad3 ct3 hJ2 (ha1.trans ha) hb h4 (by omega))
    · refine g_tableIn fx 666 dL_law_32 (by rw [hsv]; decide) (by rw [hsv]; decide) (off := 634) (by rw [hsv]; rfl) (by decide) ?_
      refine g_aload_n fx 1 dL_law_666 rfl ?_
      refine g_aload_n fx 0 dL_law_667 rfl ?_
      refine g_iload_n fx 3 dL_law_668 rfl ?_
      refine g_iconst (v := nI 1) fx dL_law_669 (by decide +kernel) ?_
      refine g_iaddN fx dL_law_670 ?_
      refine g_scr (j := i + 1) fx hX hbl hbA (nI_toInt (by omega)) (by omega) dL_law_671 ?_
      obtain ⟨fr1, lo1, mc1, ms1, P1, fs1, h1, h2, h3, h4, h5, h6, h7⟩ := T16 (xs (i + 1)) ad ct ad2 ct2 S hJ
      refine g_call1 (r := 0) (As := [.int (xs (i + 1))]) (rest := []) fx slL_81 h6 (by decide) h5 rfl (by rw [ha]; rfl) rfl (by decide) ⟨show _ ≤ 2048 by omega, show _ ≤ 84000 by omega⟩ ⟨show _ ≤ 600000 by omega, show _ ≤ 7302250 by omega⟩ dL_law_672 (fun v ad1 ct1 n1 hp => ?_)
      obtain ⟨rfl, ha1, r, rfl, fr2, lo2, P2, fs2, g1, g2, g5, g6, g7⟩ := h7 v ad1 ct1 n1 hp
      refine g_same (L' := [(0, .ref b), (1, .ref a0), (2, .ref b0), (3, .int (nI i))]) (st' := [.int r]) rfl rfl ?_
      refine g_aload_n fx 2 dL_law_675 rfl ?_
      refine g_aload_n fx 0 dL_law_676 rfl ?_
      refine g_iload_n fx 3 dL_law_677 rfl ?_
      refine g_iconst (v := nI 1) fx dL_law_678 (by decide +kernel) ?_
      refine g_iaddN fx dL_law_679 ?_
      refine g_scr (j := i + 1) fx hX hbl hbA (nI_toInt (by omega)) (by omega) dL_law_680 ?_
      refine g_call2 (r := 0) (As := [.int (xs (i + 1))]) (rest := [.int r]) fx slL_84 g6 (by decide) g5 rfl (by rw [hb]; rfl) rfl (Nat.le_of_ble_eq_true rfl) ⟨show _ ≤ 2048 by omega, show _ ≤ 84000 by omega⟩ ⟨show _ ≤ 600000 by omega, show _ ≤ 7302250 by omega⟩ dL_law_681 (fun v2 ad3 ct3 n3 hp2 => ?_)
      obtain ⟨rfl, rfl, rfl, hJ2⟩ := g7 v2 ad3 ct3 n3 hp2
      refine g_same (L' := [(0, .ref b), (1, .ref a0), (2, .ref b0), (3, .int (nI i))]) (st' := [.int r, .int r]) rfl rfl ?_
      refine g_icmp_eq fx 894 dL_law_684 (by decide) (fun _ => ?_) (fun q => absurd rfl q)
      exact g_more (by omega) (Nat.le_of_eq (by rw [Nat.add_zero, Nat.add_assoc])) (BK (S + ms1) (K + mc1 + 0) ad1 ct1 ad3 ct3 hJ2 (ha1.trans ha) hb h4 (by omega))
    · refine g_tableIn fx 689 dL_law_32 (by rw [hsv]; decide) (by rw [hsv]; decide) (off := 657) (by rw [hsv]; rfl) (by decide) ?_
      refine g_aload_n fx 1 dL_law_689 rfl ?_
      refine g_aload_n fx 0 dL_law_690 rfl ?_
      refine g_iload_n fx 3 dL_law_691 rfl ?_
      refine g_iconst (v := nI 1) fx dL_law_692 (by decide +kernel) ?_
      refine g_iaddN fx dL_law_693 ?_
      refine g_scr (j := i + 1) fx hX hbl hbA (nI_toInt (by omega)) (by omega) dL_law_694 ?_
      obtain ⟨fr1, lo1, mc1, ms1, P1, fs1, h1, h2, h3, h4, h5, h6, h7⟩ := T17 (xs (i + 1)) ad ct ad2 ct2 S hJ
      refine g_call1 (r := 0) (As := [.int (xs (i + 1))]) (rest := []) fx slL_85 h6 (by decide) h5 rfl (by rw [ha]; rfl) rfl (by decide) ⟨show _ ≤ 2048 by omega, show _ ≤ 84000 by omega⟩ ⟨show _ ≤ 600000 by omega, show _ ≤ 7302250 by omega⟩ dL_law_695 (fun v ad1 ct1 n1 hp => ?_)
      obtain ⟨rfl, ha1, r, rfl, fr2, lo2, P2, fs2, g1, g2, g5, g6, g7⟩ := h7 v ad1 ct1 n1 hp
      refine g_same (L' := [(0, .ref b), (1, .ref a0), (2, .ref b0), (3, .int (nI i))]) (st' := [.long r]) rfl rfl ?_
      refine g_aload_n fx 2 dL_law_698 rfl ?_
      refine g_aload_n fx 0 dL_law_699 rfl ?_
      refine g_iload_n fx 3 dL_law_700 rfl ?_
      refine g_iconst (v := nI 1) fx dL_law_701 (by decide +kernel) ?_
      refine g_iaddN fx dL_law_702 ?_
      refine g_scr (j := i + 1) fx hX hbl hbA (nI_toInt (by omega)) (by omega) dL_law_703 ?_
      refine g_call2 (r := 0) (As := [.int (xs (i + 1))]) (rest := [.long r]) fx slL_89 g6 (by decide) g5 rfl (by rw [hb]; rfl) rfl (Nat.le_of_ble_eq_true rfl) ⟨show _ ≤ 2048 by omega, show _ ≤ 84000 by omega⟩ ⟨show _ ≤ 600000 by omega, show _ ≤ 7302250 by omega⟩ dL_law_704 (fun v2 ad3 ct3 n3 hp2 => ?_)
      obtain ⟨rfl, rfl, rfl, hJ2⟩ := g7 v2 ad3 ct3 n3 hp2
      refine g_same (L' := [(0, .ref b), (1, .ref a0), (2, .ref b0), (3, .int (nI i))]) (st' := [.long r, .long r]) rfl rfl ?_
      refine g_lcmp fx dL_law_707 ?_
      refine g_if_eq fx 894 dL_law_708 (by decide) (fun _ => ?_) (fun q => absurd lcmp_rfl q)
      exact g_more (by omega) (Nat.le_of_eq (by rw [Nat.add_zero, Nat.add_assoc])) (BK (S + ms1) (K + mc1 + 0) ad1 ct1 ad3 ct3 hJ2 (ha1.trans ha) hb h4 (by omega))
    · refine g_tableIn fx 713 dL_law_32 (by rw [hsv]; decide) (by rw [hsv]; decide) (off := 681) (by rw [hsv]; rfl) (by decide) ?_
      refine g_aload_n fx 1 dL_law_713 rfl ?_
      refine g_aload_n fx 0 dL_law_714 rfl ?_
      refine g_iload_n fx 3 dL_law_715 rfl ?_
      refine g_iconst (v := nI 1) fx dL_law_716 (by decide +kernel) ?_
      refine g_iaddN fx dL_law_717 ?_
      refine g_scr (j := i + 1) fx hX hbl hbA (nI_toInt (by omega)) (by omega) dL_law_718 ?_
      obtain ⟨fr1, lo1, mc1, ms1, P1, fs1, h1, h2, h3, h4, h5, h6, h7⟩ := T18 (xs (i + 1)) ad ct ad2 ct2 S hJ
      refine g_call1 (r := 0) (As := [.int (xs (i + 1))]) (rest := []) fx slL_90 h6 (by decide) h5 rfl (by rw [ha]; rfl) rfl (by decide) ⟨show _ ≤ 2048 by omega, show _ ≤ 84000 by omega⟩ ⟨show _ ≤ 600000 by omega, show _ ≤ 7302250 by omega⟩ dL_law_719 (fun v ad1 ct1 n1 hp => ?_)
      obtain ⟨rfl, ha1, r, rfl, fr2, lo2, P2, fs2, g1, g2, g5, g6, g7⟩ := h7 v ad1 ct1 n1 hp
      refine g_same (L' := [(0, .ref b), (1, .ref a0), (2, .ref b0), (3, .int (nI i))]) (st' := [.int r]) rfl rfl ?_
      refine g_aload_n fx 2 dL_law_722 rfl ?_
      refine g_aload_n fx 0 dL_law_723 rfl ?_
      refine g_iload_n fx 3 dL_law_724 rfl ?_
      refine g_iconst (v := nI 1) fx dL_law_725 (by decide +kernel) ?_
      refine g_iaddN fx dL_law_726 ?_
      refine g_scr (j := i + 1) fx hX hbl hbA (nI_toInt (by omega)) (by omega) dL_law_727 ?_
      refine g_call2 (r := 0) (As := [.int (xs (i + 1))]) (rest := [.int r]) fx slL_93 g6 (by decide) g5 rfl (by rw [hb]; rfl) rfl (Nat.le_of_ble_eq_true rfl) ⟨show _ ≤ 2048 by omega, show _ ≤ 84000 by omega⟩ ⟨show _ ≤ 600000 by omega, show _ ≤ 7302250 by omega⟩ dL_law_728 (fun v2 ad3 ct3 n3 hp2 => ?_)
      obtain ⟨rfl, rfl, rfl, hJ2⟩ := g7 v2 ad3 ct3 n3 hp2
      refine g_same (L' := [(0, .ref b), (1, .ref a0), (2, .ref b0), (3, .int (nI i))]) (st' := [.int r, .int r]) rfl rfl ?_
      refine g_icmp_eq fx 894 dL_law_731 (by decide) (fun _ => ?_) (fun q => absurd rfl q)
      exact g_more (by omega) (Nat.le_of_eq (by rw [Nat.add_zero, Nat.add_assoc])) (BK (S + ms1) (K + mc1 + 0) ad1 ct1 ad3 ct3 hJ2 (ha1.trans ha) hb h4 (by omega))
    · refine g_tableIn fx 736 dL_law_32 (by rw [hsv]; decide) (by rw [hsv]; decide) (off := 704) (by rw [hsv]; rfl) (by decide) ?_
      refine g_aload_n fx 1 dL_law_736 rfl ?_
      refine g_aload_n fx 0 dL_law_737 rfl ?_
      refine g_iload_n fx 3 dL_law_738 rfl ?_
      refine g_iconst (v := nI 1) fx dL_law_739 (by decide +kernel) ?_
      refine g_iaddN fx dL_law_740 ?_
      refine g_scr (j := i + 1) fx hX hbl hbA (nI_toInt (by omega)) (by omega) dL_law_741 ?_
      refine g_aload_n fx 0 dL_law_742 rfl ?_
      refine g_iload_n fx 3 dL_law_743 rfl ?_
      refine g_iconst (v := nI 2) fx dL_law_744 (by decide +kernel) ?_
      refine g_iaddN fx dL_law_745 ?_
      refine g_scr (j := i + 2) fx hX hbl hbA (nI_toInt (by omega)) (by omega) dL_law_746 ?_
      obtain ⟨fr1, lo1, mc1, ms1, P1, fs1, h1, h2, h3, h4, h5, h6, h7⟩ := T19 (xs (i + 1)) (xs (i + 2)) ad ct ad2 ct2 S hJ
      refine g_call1 (r := 0) (As := [.int (xs (i + 1)), .int (xs (i + 2))]) (rest := []) fx slL_94 h6 (by decide) h5 rfl (by rw [ha]; rfl) rfl (by decide) ⟨show _ ≤ 2048 by omega, show _ ≤ 84000 by omega⟩ ⟨show _ ≤ 600000 by omega, show _ ≤ 7302250 by omega⟩ dL_law_747 (fun v ad1 ct1 n1 hp => ?_)
      obtain ⟨rfl, ha1, r, rfl, fr2, lo2, P2, fs2, g1, g2, g5, g6, g7⟩ := h7 v ad1 ct1 n1 hp
      refine g_same (L' := [(0, .ref b), (1, .ref a0), (2, .ref b0), (3, .int (nI i))]) (st' := [.int r]) rfl rfl ?_
      refine g_aload_n fx 2 dL_law_750 rfl ?_
      refine g_aload_n fx 0 dL_law_751 rfl ?_
      refine g_iload_n fx 3 dL_law_752 rfl ?_
      refine g_iconst (v := nI 1) fx dL_law_753 (by decide +kernel) ?_
      refine g_iaddN fx dL_law_754 ?_
      refine g_scr (j := i + 1) fx hX hbl hbA (nI_toInt (by omega)) (by omega) dL_law_755 ?_
      refine g_aload_n fx 0 dL_law_756 rfl ?_
      refine g_iload_n fx 3 dL_law_757 rfl ?_
      refine g_iconst (v := nI 2) fx dL_law_758 (by decide +kernel) ?_
      refine g_iaddN fx dL_law_759 ?_
      refine g_scr (j := i + 2) fx hX hbl hbA (nI_toInt (by omega)) (by omega) dL_law_760 ?_
      refine g_call2 (r := 0) (As := [.int (xs (i + 1)), .int (xs (i + 2))]) (rest := [.int r]) fx slL_97 g6 (by decide) g5 rfl (by rw [hb]; rfl) rfl (Nat.le_of_ble_eq_true rfl) ⟨show _ ≤ 2048 by omega, show _ ≤ 84000 by omega⟩ ⟨show _ ≤ 600000 by omega, show _ ≤ 7302250 by omega⟩ dL_law_761 (fun v2 ad3 ct3 n3 hp2 => ?_)
      obtain ⟨rfl, rfl, rfl, hJ2⟩ := g7 v2 ad3 ct3 n3 hp2
      refine g_same (L' := [(0, .ref b), (1, .ref a0), (2, .ref b0), (3, .int (nI i))]) (st' := [.int r, .int r]) rfl rfl ?_
      refine g_icmp_eq fx 894 dL_law_764 (by decide) (fun _ => ?_) (fun q => absurd rfl q)
      exact g_more (by omega) (Nat.le_of_eq (by rw [Nat.add_zero, Nat.add_assoc])) (BK (S + ms1) (K + mc1 + 0) ad1 ct1 ad3 ct3 hJ2 (ha1.trans ha) hb h4 (by omega))
    · refine g_tableIn fx 769 dL_law_32 (by rw [hsv]; decide) (by rw [hsv]; decide) (off := 737) (by rw [hsv]; rfl) (by decide) ?_
      refine g_aload_n fx 1 dL_law_769 rfl ?_
      refine g_aload_n fx 0 dL_law_770 rfl ?_
      refine g_iload_n fx 3 dL_law_771 rfl ?_
      refine g_iconst (v := nI 1) fx dL_law_772 (by decide +kernel) ?_
      refine g_iaddN fx dL_law_773 ?_
      refine g_scr (j := i + 1) fx hX hbl hbA (nI_toInt (by omega)) (by omega) dL_law_774 ?_
      refine g_aload_n fx 0 dL_law_775 rfl ?_
      refine g_iload_n fx 3 dL_law_776 rfl ?_
      refine g_iconst (v := nI 2) fx dL_law_777 (by decide +kernel) ?_
      refine g_iaddN fx dL_law_778 ?_
      refine g_scr (j := i + 2) fx hX hbl hbA (nI_toInt (by omega)) (by omega) dL_law_779 ?_
      refine g_aload_n fx 0 dL_law_780 rfl ?_
      refine g_iload_n fx 3 dL_law_781 rfl ?_
      refine g_iconst (v := nI 3) fx dL_law_782 (by decide +kernel) ?_
      refine g_iaddN fx dL_law_783 ?_
      refine g_scr (j := i + 3) fx hX hbl hbA (nI_toInt (by omega)) (by omega) dL_law_784 ?_
      obtain ⟨fr1, lo1, mc1, ms1, P1, fs1, h1, h2, h3, h4, h5, h6, h7⟩ := T20 (xs (i + 1)) (xs (i + 2)) (xs (i + 3)) ad ct ad2 ct2 S hJ
      refine g_call1 (r := 0) (As := [.int (xs (i + 1)), .int (xs (i + 2)), .int (xs (i + 3))]) (rest := []) fx slL_98 h6 (by decide) h5 rfl (by rw [ha]; rfl) rfl (by decide) ⟨show _ ≤ 2048 by omega, show _ ≤ 84000 by omega⟩ ⟨show _ ≤ 600000 by omega, show _ ≤ 7302250 by omega⟩ dL_law_785 (fun v ad1 ct1 n1 hp => ?_)
      obtain ⟨rfl, ha1, r, rfl, fr2, lo2, P2, fs2, g1, g2, g5, g6, g7⟩ := h7 v ad1 ct1 n1 hp
      refine g_same (L' := [(0, .ref b), (1, .ref a0), (2, .ref b0), (3, .int (nI i))]) (st' := [.int r]) rfl rfl ?_
      refine g_aload_n fx 2 dL_law_788 rfl ?_
      refine g_aload_n fx 0 dL_law_789 rfl ?_
      refine g_iload_n fx 3 dL_law_790 rfl ?_
      refine g_iconst (v := nI 1) fx dL_law_791 (by decide +kernel) ?_
      refine g_iaddN fx dL_law_792 ?_
      refine g_scr (j := i + 1) fx hX hbl hbA (nI_toInt (by omega)) (by omega) dL_law_793 ?_
      refine g_aload_n fx 0 dL_law_794 rfl ?_
      refine g_iload_n fx 3 dL_law_795 rfl ?_
      refine g_iconst (v := nI 2) fx dL_law_796 (by decide +kernel) ?_
      refine g_iaddN fx dL_law_797 ?_
      refine g_scr (j := i + 2) fx hX hbl hbA (nI_toInt (by omega)) (by omega) dL_law_798 ?_
      refine g_aload_n fx 0 dL_law_799 rfl ?_
      refine g_iload_n fx 3 dL_law_800 rfl ?_
      refine g_iconst (v := nI 3) fx dL_law_801 (by decide +kernel) ?_
      refine g_iaddN fx dL_law_802 ?_
      refine g_scr (j := i + 3) fx hX hbl hbA (nI_toInt (by omega)) (by omega) dL_law_803 ?_
      refine g_call2 (r := 0) (As := [.int (xs (i + 1)), .int (xs (i + 2)), .int (xs (i + 3))]) (rest := [.int r]) fx slL_101 g6 (by decide) g5 rfl (by rw [hb]; rfl) rfl (Nat.le_of_ble_eq_true rfl) ⟨show _ ≤ 2048 by omega, show _ ≤ 84000 by omega⟩ ⟨show _ ≤ 600000 by omega, show _ ≤ 7302250 by omega⟩ dL_law_804 (fun v2 ad3 ct3 n3 hp2 => ?_)
      obtain ⟨rfl, rfl, rfl, hJ2⟩ := g7 v2 ad3 ct3 n3 hp2
      refine g_same (L' := [(0, .ref b), (1, .ref a0), (2, .ref b0), (3, .int (nI i))]) (st' := [.int r, .int r]) rfl rfl ?_
      refine g_icmp_eq fx 894 dL_law_807 (by decide) (fun _ => ?_) (fun q => absurd rfl q)
      exact g_more (by omega) (Nat.le_of_eq (by rw [Nat.add_zero, Nat.add_assoc])) (BK (S + ms1) (K + mc1 + 0) ad1 ct1 ad3 ct3 hJ2 (ha1.trans ha) hb h4 (by omega))
    · refine g_tableIn fx 812 dL_law_32 (by rw [hsv]; decide) (by rw [hsv]; decide) (off := 780) (by rw [hsv]; rfl) (by decide) ?_
      refine g_aload_n fx 1 dL_law_812 rfl ?_
      refine g_aload_n fx 0 dL_law_813 rfl ?_
      refine g_iload_n fx 3 dL_law_814 rfl ?_
      refine g_iconst (v := nI 1) fx dL_law_815 (by decide +kernel) ?_
      refine g_iaddN fx dL_law_816 ?_
      refine g_scr (j := i + 1) fx hX hbl hbA (nI_toInt (by omega)) (by omega) dL_law_817 ?_
      obtain ⟨fr1, lo1, mc1, ms1, P1, fs1, h1, h2, h3, h4, h5, h6, h7⟩ := T21 (xs (i + 1)) ad ct ad2 ct2 S hJ
      refine g_call1 (r := 0) (As := [.int (xs (i + 1))]) (rest := []) fx slL_102 h6 (by decide) h5 rfl (by rw [ha]; rfl) rfl (by decide) ⟨show _ ≤ 2048 by omega, show _ ≤ 84000 by omega⟩ ⟨show _ ≤ 600000 by omega, show _ ≤ 7302250 by omega⟩ dL_law_818 (fun v ad1 ct1 n1 hp => ?_)
      obtain ⟨rfl, ha1, r, rfl, fr2, lo2, P2, fs2, g1, g2, g5, g6, g7⟩ := h7 v ad1 ct1 n1 hp
      refine g_same (L' := [(0, .ref b), (1, .ref a0), (2, .ref b0), (3, .int (nI i))]) (st' := [.int r]) rfl rfl ?_
      refine g_aload_n fx 2 dL_law_821 rfl ?_
      refine g_aload_n fx 0 dL_law_822 rfl ?_
      refine g_iload_n fx 3 dL_law_823 rfl ?_
      refine g_iconst (v := nI 1) fx dL_law_824 (by decide +kernel) ?_
      refine g_iaddN fx dL_law_825 ?_
      refine g_scr (j := i + 1) fx hX hbl hbA (nI_toInt (by omega)) (by omega) dL_law_826 ?_
      refine g_call2 (r := 0) (As := [.int (xs (i + 1))]) (rest := [.int r]) fx slL_105 g6 (by decide) g5 rfl (by rw [hb]; rfl) rfl (Nat.le_of_ble_eq_true rfl) ⟨show _ ≤ 2048 by omega, show _ ≤ 84000 by omega⟩ ⟨show _ ≤ 600000 by omega, show _ ≤ 7302250 by omega⟩ dL_law_827 (fun v2 ad3 ct3 n3 hp2 => ?_)
      obtain ⟨rfl, rfl, rfl, hJ2⟩ := g7 v2 ad3 ct3 n3 hp2
      refine g_same (L' := [(0, .ref b), (1, .ref a0), (2, .ref b0), (3, .int (nI i))]) (st' := [.int r, .int r]) rfl rfl ?_
      refine g_icmp_eq fx 894 dL_law_830 (by decide) (fun _ => ?_) (fun q => absurd rfl q)
      exact g_more (by omega) (Nat.le_of_eq (by rw [Nat.add_zero, Nat.add_assoc])) (BK (S + ms1) (K + mc1 + 0) ad1 ct1 ad3 ct3 hJ2 (ha1.trans ha) hb h4 (by omega))
    · refine g_tableIn fx 835 dL_law_32 (by rw [hsv]; decide) (by rw [hsv]; decide) (off := 803) (by rw [hsv]; rfl) (by decide) ?_
      refine g_aload_n fx 1 dL_law_835 rfl ?_
      refine g_aload_n fx 0 dL_law_836 rfl ?_
      refine g_iload_n fx 3 dL_law_837 rfl ?_
      refine g_iconst (v := nI 1) fx dL_law_838 (by decide +kernel) ?_
      refine g_iaddN fx dL_law_839 ?_
      refine g_scr (j := i + 1) fx hX hbl hbA (nI_toInt (by omega)) (by omega) dL_law_840 ?_
      obtain ⟨fr1, lo1, mc1, ms1, P1, fs1, h1, h2, h3, h4, h5, h6, h7⟩ := T22 (xs (i + 1)) ad ct ad2 ct2 S hJ
      refine g_call1 (r := 0) (As := [.int (xs (i + 1))]) (rest := []) fx slL_106 h6 (by decide) h5 rfl (by rw [ha]; rfl) rfl (by decide) ⟨show _ ≤ 2048 by omega, show _ ≤ 84000 by omega⟩ ⟨show _ ≤ 600000 by omega, show _ ≤ 7302250 by omega⟩ dL_law_841 (fun v ad1 ct1 n1 hp => ?_)
      obtain ⟨rfl, ha1, r, rfl, fr2, lo2, P2, fs2, g1, g2, g5, g6, g7⟩ := h7 v ad1 ct1 n1 hp
      refine g_same (L' := [(0, .ref b), (1, .ref a0), (2, .ref b0), (3, .int (nI i))]) (st' := [.int r]) rfl rfl ?_
      refine g_aload_n fx 2 dL_law_844 rfl ?_
      refine g_aload_n fx 0 dL_law_845 rfl ?_
      refine g_iload_n fx 3 dL_law_846 rfl ?_
      refine g_iconst (v := nI 1) fx dL_law_847 (by decide +kernel) ?_
      refine g_iaddN fx dL_law_848 ?_
      refine g_scr (j := i + 1) fx hX hbl hbA (nI_toInt (by omega)) (by omega) dL_law_849 ?_
      refine g_call2 (r := 0) (As := [.int (xs (i + 1))]) (rest := [.int r]) fx slL_109 g6 (by decide) g5 rfl (by rw [hb]; rfl) rfl (Nat.le_of_ble_eq_true rfl) ⟨show _ ≤ 2048 by omega, show _ ≤ 84000 by omega⟩ ⟨show _ ≤ 600000 by omega, show _ ≤ 7302250 by omega⟩ dL_law_850 (fun v2 ad3 ct3 n3 hp2 => ?_)
      obtain ⟨rfl, rfl, rfl, hJ2⟩ := g7 v2 ad3 ct3 n3 hp2
      refine g_same (L' := [(0, .ref b), (1, .ref a0), (2, .ref b0), (3, .int (nI i))]) (st' := [.int r, .int r]) rfl rfl ?_
      refine g_icmp_eq fx 894 dL_law_853 (by decide) (fun _ => ?_) (fun q => absurd rfl q)
      exact g_more (by omega) (Nat.le_of_eq (by rw [Nat.add_zero, Nat.add_assoc])) (BK (S + ms1) (K + mc1 + 0) ad1 ct1 ad3 ct3 hJ2 (ha1.trans ha) hb h4 (by omega))
    · refine g_tableIn fx 858 dL_law_32 (by rw [hsv]; decide) (by rw [hsv]; decide) (off := 826) (by rw [hsv]; rfl) (by decide) ?_
      refine g_aload_n fx 1 dL_law_858 rfl ?_
      obtain ⟨fr1, lo1, mc1, ms1, P1, fs1, h1, h2, h3, h4, h5, h6, h7⟩ := T23 ad ct ad2 ct2 S hJ
      refine g_call1 (r := 0) (As := []) (rest := []) fx slL_110 h6 (by decide) h5 rfl (by rw [ha]; rfl) rfl (by decide) ⟨show _ ≤ 2048 by omega, show _ ≤ 84000 by omega⟩ ⟨show _ ≤ 600000 by omega, show _ ≤ 7302250 by omega⟩ dL_law_859 (fun v ad1 ct1 n1 hp => ?_)
      obtain ⟨rfl, ha1, r, rfl, fr2, lo2, P2, fs2, g1, g2, g5, g6, g7⟩ := h7 v ad1 ct1 n1 hp
      refine g_same (L' := [(0, .ref b), (1, .ref a0), (2, .ref b0), (3, .int (nI i))]) (st' := [.int r]) rfl rfl ?_
      refine g_aload_n fx 2 dL_law_862 rfl ?_
      refine g_call2 (r := 0) (As := []) (rest := [.int r]) fx slL_113 g6 (by decide) g5 rfl (by rw [hb]; rfl) rfl (Nat.le_of_ble_eq_true rfl) ⟨show _ ≤ 2048 by omega, show _ ≤ 84000 by omega⟩ ⟨show _ ≤ 600000 by omega, show _ ≤ 7302250 by omega⟩ dL_law_863 (fun v2 ad3 ct3 n3 hp2 => ?_)
      obtain ⟨rfl, rfl, rfl, hJ2⟩ := g7 v2 ad3 ct3 n3 hp2
      refine g_same (L' := [(0, .ref b), (1, .ref a0), (2, .ref b0), (3, .int (nI i))]) (st' := [.int r, .int r]) rfl rfl ?_
      refine g_icmp_eq fx 894 dL_law_866 (by decide) (fun _ => ?_) (fun q => absurd rfl q)
      exact g_more (by omega) (Nat.le_of_eq (by rw [Nat.add_zero, Nat.add_assoc])) (BK (S + ms1) (K + mc1 + 0) ad1 ct1 ad3 ct3 hJ2 (ha1.trans ha) hb h4 (by omega))
    · refine g_tableIn fx 871 dL_law_32 (by rw [hsv]; decide) (by rw [hsv]; decide) (off := 839) (by rw [hsv]; rfl) (by decide) ?_
      refine g_aload_n fx 1 dL_law_871 rfl ?_
      refine g_aload_n fx 0 dL_law_872 rfl ?_
      refine g_iload_n fx 3 dL_law_873 rfl ?_
      refine g_iconst (v := nI 1) fx dL_law_874 (by decide +kernel) ?_
      refine g_iaddN fx dL_law_875 ?_
      refine g_scr (j := i + 1) fx hX hbl hbA (nI_toInt (by omega)) (by omega) dL_law_876 ?_
      obtain ⟨fr1, lo1, mc1, ms1, P1, fs1, h1, h2, h3, h4, h5, h6, h7⟩ := T24 (xs (i + 1)) ad ct ad2 ct2 S hJ
      refine g_call1 (r := 0) (As := [.int (xs (i + 1))]) (rest := []) fx slL_114 h6 (by decide) h5 rfl (by rw [ha]; rfl) rfl (by decide) ⟨show _ ≤ 2048 by omega, show _ ≤ 84000 by omega⟩ ⟨show _ ≤ 600000 by omega, show _ ≤ 7302250 by omega⟩ dL_law_877 (fun v ad1 ct1 n1 hp => ?_)
      obtain ⟨rfl, ha1, r, rfl, fr2, lo2, P2, fs2, g1, g2, g5, g6, g7⟩ := h7 v ad1 ct1 n1 hp
      refine g_same (L' := [(0, .ref b), (1, .ref a0), (2, .ref b0), (3, .int (nI i))]) (st' := [.int r]) rfl rfl ?_
      refine g_aload_n fx 2 dL_law_880 rfl ?_
      refine g_aload_n fx 0 dL_law_881 rfl ?_
      refine g_iload_n fx 3 dL_law_882 rfl ?_
      refine g_iconst (v := nI 1) fx dL_law_883 (by decide +kernel) ?_
      refine g_iaddN fx dL_law_884 ?_
      refine g_scr (j := i + 1) fx hX hbl hbA (nI_toInt (by omega)) (by omega) dL_law_885 ?_
      refine g_call2 (r := 0) (As := [.int (xs (i + 1))]) (rest := [.int r]) fx slL_117 g6 (by decide) g5 rfl (by rw [hb]; rfl) rfl (Nat.le_of_ble_eq_true rfl) ⟨show _ ≤ 2048 by omega, show _ ≤ 84000 by omega⟩ ⟨show _ ≤ 600000 by omega, show _ ≤ 7302250 by omega⟩ dL_law_886 (fun v2 ad3 ct3 n3 hp2 => ?_)
      obtain ⟨rfl, rfl, rfl, hJ2⟩ := g7 v2 ad3 ct3 n3 hp2
      refine g_same (L' := [(0, .ref b), (1, .ref a0), (2, .ref b0), (3, .int (nI i))]) (st' := [.int r, .int r]) rfl rfl ?_
      refine g_icmp_eq fx 894 dL_law_889 (by decide) (fun _ => ?_) (fun q => absurd rfl q)
      exact g_more (by omega) (Nat.le_of_eq (by rw [Nat.add_zero, Nat.add_assoc])) (BK (S + ms1) (K + mc1 + 0) ad1 ct1 ad3 ct3 hJ2 (ha1.trans ha) hb h4 (by omega))
