/-! THE PROPERTY'S OWN NUMBERS: the counters add up; keys and values wherever they lie; what building keeps of them -/
/-- added is removed and what is there -/
def okc (S : zS) : Prop := S.2.2.2.2.2 7 = S.2.2.2.2.2 8 + nI (sCnt S)
/-- the sum over keys and values -/
def conN (K V : Nat → Nat) (i : Nat) : Nat := sumN (fun j => K j * (K j + 6) * (V j + 3)) i
def lwS : List (Nat × Nat) → Nat
  | [] => 0
  | q :: r => (q.1 + 1) * (q.1 + 1 + 6) * (q.2 + 3) + lwS r
theorem lwS_app : ∀ a b, lwS (a ++ b) = lwS a + lwS b
  | [], b => by simp [lwS]
  | q :: r, b => by simp only [List.cons_append, lwS, lwS_app r b]; omega
theorem entL_con (K V : Nat → Nat) : ∀ i, lwS (entL K V i) = conN K V i
  | 0 => rfl
  | i + 1 => by
    have ih := entL_con K V i
    have e : conN K V (i + 1) = conN K V i + K i * (K i + 6) * (V i + 3) := rfl
    rw [e]
    by_cases h : K i = 0
    · rw [entL_free h, ih, h]; simp
    · rw [entL_full h, lwS_app, ih]
      have h1 : K i - 1 + 1 = K i := by omega
      simp only [lwS, h1, Nat.add_zero]
theorem con_one {K V K' V' : Nat → Nat} {x B : Nat} (hx : x < B) (h0 : K x = 0) (h : ∀ i, i ≠ x → K' i = K i ∧ V' i = V i) : conN K' V' B = conN K V B + K' x * (K' x + 6) * (V' x + 3) := by
  have h1 := sumN_two (f := fun j => K j * (K j + 6) * (V j + 3)) (g := fun j => K' j * (K' j + 6) * (V' j + 3)) (x := x) (y := B) (by omega) (fun i i1 i2 => by
    show K' i * (K' i + 6) * (V' i + 3) = K i * (K i + 6) * (V i + 3)
    rw [(h i i1).1, (h i i1).2]) B
  rw [if_pos hx, if_pos hx, if_neg (Nat.lt_irrefl B), if_neg (Nat.lt_irrefl B)] at h1
  have h2 : K x * (K x + 6) * (V x + 3) = 0 := by rw [h0]; simp
  have h3 : sumN (fun j => K' j * (K' j + 6) * (V' j + 3)) B + 0 = sumN (fun j => K j * (K j + 6) * (V j + 3)) B + K' x * (K' x + 6) * (V' x + 3) := by
    rw [h2] at h1
    exact h1
  exact h3
theorem con_put {K V : Nat → Nat} {x B key v : Nat} (hx : x < B) (h0 : K x = 0) : conN (va_up K x (key + 1)) (va_up V x v) B = conN K V B + (key + 1) * (key + 1 + 6) * (v + 3) := by
  have h := con_one (K' := va_up K x (key + 1)) (V' := va_up V x v) (V := V) hx h0 (fun i hi => ⟨by simp [va_up, hi], by simp [va_up, hi]⟩)
  rw [h]
  simp [va_up]
theorem con_mv {K V : Nat → Nat} {x y B : Nat} (hx : x < B) (hy : y < B) (hxy : x ≠ y) (h0 : K y = 0) : conN (mvK K x y) (mvK V x y) B = conN K V B := by
  have h1 := sumN_two (f := fun j => K j * (K j + 6) * (V j + 3)) (g := fun j => mvK K x y j * (mvK K x y j + 6) * (mvK V x y j + 3)) (x := x) (y := y) hxy (fun i i1 i2 => by
    show mvK K x y i * (mvK K x y i + 6) * (mvK V x y i + 3) = K i * (K i + 6) * (V i + 3)
    simp [mvK, va_up, i1, i2]) B
  rw [if_pos hx, if_pos hx, if_pos hy, if_pos hy] at h1
  have g1 : K y * (K y + 6) * (V y + 3) = 0 := by rw [h0]; simp
  have g2 : mvK K x y x * (mvK K x y x + 6) * (mvK V x y x + 3) = 0 := by rw [mvK_src hxy]; simp
  have g3 : mvK K x y y * (mvK K x y y + 6) * (mvK V x y y + 3) = K x * (K x + 6) * (V x + 3) := by simp [mvK, va_up]
  rw [g1, g2, g3] at h1
  show sumN (fun j => mvK K x y j * (mvK K x y j + 6) * (mvK V x y j + 3)) B = sumN (fun j => K j * (K j + 6) * (V j + 3)) B
  omega
theorem placeF_con {B H T : Nat} {K V : Nat → Nat} {c : Int32} {key v bk : Nat} {K' V' : Nat → Nat} {c' : Int32} (hB : okB B) (hH : H ≤ 6) (e : placeF B H T K V c key v = (some bk, K', V', c')) : conN K' V' B = conN K V B + (key + 1) * (key + 1 + 6) * (v + 3) := by
  refine placeF_ind (P := fun K1 V1 => conN K1 V1 B = conN K V B) (Q := fun K1 V1 => conN K1 V1 B = conN K V B + (key + 1) * (key + 1 + 6) * (v + 3)) hB hH ?_ ?_ rfl e bk rfl
  · intro K1 V1 h0 f t hp h1 h2 h3 h4 h5 h6
    rw [← hp]
    exact con_mv (mod_lt' hB) (mod_lt' hB) (fun e2 => (isO_K h5).1 (by rw [e2]; exact h6)) h6
  · intro K1 V1 t hp h1 h2
    rw [← hp]
    exact con_put (mod_lt' hB) h2
theorem con_kz : ∀ i, conN kz kz i = 0
  | 0 => rfl
  | i + 1 => by
    have ih := con_kz i
    have e : conN kz kz (i + 1) = conN kz kz i + kz i * (kz i + 6) * (kz i + 3) := rfl
    rw [e, ih]; simp [kz]
theorem bldF_con {B H T : Nat} {L : List (Nat × Nat)} {K' V' : Nat → Nat} {c c' : Int32} (hB : okB B) (hH : H ≤ 6) (e : bldF B H T L kz kz c = (true, K', V', c')) : conN K' V' B = lwS L := by
  have h := bldF_ind (P := fun r K1 V1 => conN K1 V1 B + lwS r = lwS L) (fun k v r K1 V1 c1 bk K2 V2 c2 hp e2 => by
    have := placeF_con hB hH e2
    simp only [lwS] at hp ⊢
    omega) L kz kz c K' V' c' (by simp [con_kz]) e
  simpa [lwS] using h
theorem rbR_two {H T : Nat} {L : List (Nat × Nat)} (hH : H ≤ 6) : ∀ m B' K' V' c', m ≤ 4 → rbR H T L m = some (B', K', V', c') → conN K' V' B' = lwS L ∧ cnt K' B' = L.length
  | 0, B', K', V', c', _, e => by simp [rbR] at e
  | m + 1, B', K', V', c', hm, e => by
    have okB1 : okB (2 ^ (6 - m)) := okB_w (m := m) (by omega)
    rcases hb : bldF (2 ^ (6 - m)) H T L kz kz 0 with ⟨_ | _, K1, V1, c1⟩
    · rw [rbR_no hb] at e
      exact rbR_two hH m _ _ _ _ (by omega) e
    · rw [rbR_yes hb] at e
      cases e
      exact ⟨bldF_con okB1 hH hb, bldF_cnt okB1 hH hb⟩
def fCon (S : zS) : Int64 := lN (conN S.2.2.2.1 S.2.2.2.2.1 S.1)
/-- building anew keeps keys and values, and the counters -/
theorem sSet_keeps {S S' : zS} {H2 T2 m : Nat} (hH : H2 ≤ 6) (hm : m ≤ 4) (e : sSet S H2 T2 m = some S') : fCon S' = fCon S ∧ sCnt S' = sCnt S ∧ (okc S → okc S') := by
  obtain ⟨B, H, T, K, V, c⟩ := S
  cases hr : rbR H2 T2 (entL K V B) m with
  | none => rw [sSet_none.mpr hr] at e; cases e
  | some q =>
    obtain ⟨B', K', V', c'⟩ := q
    rw [sSet_some hr] at e
    cases e
    obtain ⟨h1, h2⟩ := rbR_two hH m _ _ _ _ hm hr
    rw [entL_con] at h1
    rw [entL_cnt] at h2
    refine ⟨?_, h2, fun hc => ?_⟩
    · show lN (conN K' V' B') = lN (conN K V B)
      rw [h1]
    · have hc : c 7 = c 8 + nI (cnt K B) := hc
      show va_up (va_up c 4 c') 6 (c 6 + nI (dbl B' 4 B)) 7 = va_up (va_up c 4 c') 6 (c 6 + nI (dbl B' 4 B)) 8 + nI (cnt K' B')
      rw [h2]
      simpa [va_up] using hc
theorem okc_add {S S' : zS} {key v bk : Nat} {s : Nat → Int32} {a : Nat → Nat → Int32} (hT : cT S s a) (e : sAdd S key v = some (bk, S')) (hc : okc S) : okc S' := by
  obtain ⟨B, H, T, K, V, c⟩ := S
  have okb := hT.1.1
  have hH6 := hT.1.2.2.1
  cases hr : insR B H T K V (c 4) key v with
  | none => rw [sAdd_none.mpr hr] at e; cases e
  | some q =>
    obtain ⟨b2, B', K', V', c'⟩ := q
    rw [sAdd_some hr] at e
    cases e
    have h1 := insF_cnt okb hH6 ((insF_insR (x := 0) okb).2 _ _ _ _ _ hr)
    have hc : c 7 = c 8 + nI (cnt K B) := hc
    show va_up (va_up (va_up c 4 c') 6 (c 6 + nI (dbl B' 4 B))) 7 (c 7 + 1) 7 = va_up (va_up (va_up c 4 c') 6 (c 6 + nI (dbl B' 4 B))) 7 (c 7 + 1) 8 + nI (cnt K' B')
    have e7 : va_up (va_up (va_up c 4 c') 6 (c 6 + nI (dbl B' 4 B))) 7 (c 7 + 1) 7 = c 7 + 1 := by simp [va_up]
    have e8 : va_up (va_up (va_up c 4 c') 6 (c 6 + nI (dbl B' 4 B))) 7 (c 7 + 1) 8 = c 8 := by simp [va_up]
    rw [e7, e8, h1, hc, ← nI_1, Int32.add_assoc]
theorem okc_put {S S' : zS} {key v : Nat} {x : Int32} {s : Nat → Int32} {a : Nat → Nat → Int32} (hT : cT S s a) (e : sPut S key v = some (x, S')) (hc : okc S) : okc S' := by
  unfold sPut at e
  split at e
  · cases e
    exact hc
  · split at e
    · cases e
    · rename_i bk S2 h2
      cases e
      exact okc_add hT h2 hc
theorem okc_rem {S : zS} {key bk : Nat} {s : Nat → Int32} {a : Nat → Nat → Int32} (hT : cT S s a) (hf : sFind S key = some bk) (hc : okc S) : okc (sRem S bk) := by
  obtain ⟨B, H, T, K, V, c⟩ := S
  obtain ⟨hR, ⟨hI, hd, h3⟩, -⟩ := hT
  obtain ⟨okb, h2H, hH6, -⟩ := hR
  obtain ⟨hb, hK⟩ := bwS_lt (show bwS B K key = some bk from hf)
  obtain ⟨-, -, h1⟩ := takF_inv (V := V) (c := c 5) (p := c 3) okb hH6 hI hd hb (by omega) (show takF B H T K V (c 5) (c 3) bk = ((takF B H T K V (c 5) (c 3) bk).1, (takF B H T K V (c 5) (c 3) bk).2.1, (takF B H T K V (c 5) (c 3) bk).2.2) from rfl)
  have hc : c 7 = c 8 + nI (cnt K B) := hc
  show va_up (va_up c 5 (takF B H T K V (c 5) (c 3) bk).2.2) 8 (c 8 + 1) 7 = va_up (va_up c 5 (takF B H T K V (c 5) (c 3) bk).2.2) 8 (c 8 + 1) 8 + nI (cnt (takF B H T K V (c 5) (c 3) bk).1 B)
  have e7 : va_up (va_up c 5 (takF B H T K V (c 5) (c 3) bk).2.2) 8 (c 8 + 1) 7 = c 7 := by simp [va_up]
  have e8 : va_up (va_up c 5 (takF B H T K V (c 5) (c 3) bk).2.2) 8 (c 8 + 1) 8 = c 8 + 1 := by simp [va_up]
  rw [e7, e8, hc, ← h1, ← nI_1, Int32.add_assoc, Int32.add_comm 1]
theorem okc_clear {S : zS} (hc : okc S) : okc (sClear S) := by
  obtain ⟨B, H, T, K, V, c⟩ := S
  have hc : c 7 = c 8 + nI (cnt K B) := hc
  show va_up (va_up c 4 0) 8 (c 8 + nI (cnt K B)) 7 = va_up (va_up c 4 0) 8 (c 8 + nI (cnt K B)) 8 + nI (cnt kz B)
  have e7 : va_up (va_up c 4 0) 8 (c 8 + nI (cnt K B)) 7 = c 7 := by simp [va_up]
  have e8 : va_up (va_up c 4 0) 8 (c 8 + nI (cnt K B)) 8 = c 8 + nI (cnt K B) := by simp [va_up]
  rw [e7, e8, cnt_kz, nI_0, Int32.add_zero, hc]
theorem okc_pull {S : zS} {p : Int32} (hc : okc S) : okc (sPull S p) := by
  obtain ⟨B, H, T, K, V, c⟩ := S
  have hc : c 7 = c 8 + nI (cnt K B) := hc
  show va_up c 3 p 7 = va_up c 3 p 8 + nI (cnt K B)
  simpa [va_up] using hc
theorem wid_4 {B : Nat} (hB : okB B) : wid B + 1 ≤ 4 := by have := (wid_2 hB).1; omega
theorem near_keeps {S S' : zS} {H2 : Nat} {s : Nat → Int32} {a : Nat → Nat → Int32} (hT : cT S s a) (hH : H2 ≤ 6) (e : sNear S H2 = some S') : fCon S' = fCon S ∧ sCnt S' = sCnt S ∧ (okc S → okc S') := sSet_keeps hH (wid_4 hT.okb) e
theorem times_keeps {S S' : zS} {T2 : Nat} {s : Nat → Int32} {a : Nat → Nat → Int32} (hT : cT S s a) (e : sTimes S T2 = some S') : fCon S' = fCon S ∧ sCnt S' = sCnt S ∧ (okc S → okc S') := by
  have h6 : S.2.1 ≤ 6 := by
    obtain ⟨B, H, T, K, V, c⟩ := S
    exact hT.1.2.2.1
  exact sSet_keeps h6 (wid_4 hT.okb) e
theorem grow_keeps {S S' : zS} {s : Nat → Int32} {a : Nat → Nat → Int32} (hT : cT S s a) (e : sGrow S = some S') : fCon S' = fCon S ∧ sCnt S' = sCnt S ∧ (okc S → okc S') := by
  have h6 : S.2.1 ≤ 6 := by
    obtain ⟨B, H, T, K, V, c⟩ := S
    exact hT.1.2.2.1
  exact sSet_keeps h6 (by have := wid_4 hT.okb; omega) e
/-! TWO ENTRIES FIND A PLACE -/
theorem frD_0 {B : Nat} {K : Nat → Nat} {f : Nat} (hB : okB B) (h : K ((f + 0) % B) = 0) : frD B K f = some 0 := by
  unfold frD
  obtain ⟨m, hm⟩ : ∃ m, B = m + 1 := ⟨B - 1, by have := hB.le; omega⟩
  have : (fun k => decide (K ((f + k) % B) = 0)) 0 = true := by simpa using h
  rw [show fnd (fun k => decide (K ((f + k) % B) = 0)) B 0 = fnd (fun k => decide (K ((f + k) % B) = 0)) (m + 1) 0 by rw [← hm]]
  exact fnd_yes this
theorem frD_1 {B : Nat} {K : Nat → Nat} {f : Nat} (hB : okB B) (h0 : K ((f + 0) % B) ≠ 0) (h : K ((f + 1) % B) = 0) : frD B K f = some 1 := by
  unfold frD
  obtain ⟨m, hm⟩ : ∃ m, B = m + 1 + 1 := ⟨B - 2, by have := hB.le; omega⟩
  have g0 : (fun k => decide (K ((f + k) % B) = 0)) 0 = false := by simpa using h0
  have g1 : (fun k => decide (K ((f + k) % B) = 0)) (0 + 1) = true := by simpa using h
  rw [show fnd (fun k => decide (K ((f + k) % B) = 0)) B 0 = fnd (fun k => decide (K ((f + k) % B) = 0)) (m + 1 + 1) 0 by rw [← hm]]
  rw [fnd_no g0]
  exact fnd_yes g1
theorem place_at {B H T : Nat} {K V : Nat → Nat} {c : Int32} {key v d : Nat} (hd : d < H) (h : frD B K (hmo B T key) = some d) : placeF B H T K V c key v = (some ((hmo B T key + d) % B), va_up K ((hmo B T key + d) % B) (key + 1), va_up V ((hmo B T key + d) % B) v, c) := by
  unfold placeF
  rw [h]
  simp only [plc_near (n := 64) hd]
theorem bld_two {B H T : Nat} {L : List (Nat × Nat)} (hB : okB B) (hH : 2 ≤ H) (hL : L.length ≤ 2) : ∃ K V c, bldF B H T L kz kz 0 = (true, K, V, c) := by
  have hle := hB.le
  match L, hL with
  | [], _ => exact ⟨_, _, _, rfl⟩
  | [q], _ =>
    have p1 := place_at (V := kz) (c := 0) (v := q.2) (show 0 < H by omega) (frD_0 (K := kz) (f := hmo B T q.1) hB rfl)
    exact ⟨_, _, _, by simp only [bldF, p1]; rfl⟩
  | [q, r], _ =>
    have p1 := place_at (V := kz) (c := 0) (v := q.2) (show 0 < H by omega) (frD_0 (K := kz) (f := hmo B T q.1) hB rfl)
    by_cases h0 : va_up kz ((hmo B T q.1 + 0) % B) (q.1 + 1) ((hmo B T r.1 + 0) % B) = 0
    · have p2 := place_at (V := va_up kz ((hmo B T q.1 + 0) % B) q.2) (c := 0) (v := r.2) (show 0 < H by omega) (frD_0 (K := va_up kz ((hmo B T q.1 + 0) % B) (q.1 + 1)) (f := hmo B T r.1) hB h0)
      exact ⟨_, _, _, by simp only [bldF, p1, p2]; rfl⟩
    · have e0 : (hmo B T r.1 + 0) % B = (hmo B T q.1 + 0) % B := by
        by_cases e : (hmo B T r.1 + 0) % B = (hmo B T q.1 + 0) % B
        · exact e
        · exact absurd (by simp only [va_up, if_neg e]; rfl) h0
      have e1 : ¬ (hmo B T r.1 + 1) % B = (hmo B T q.1 + 0) % B := fun e => by
        have := modB_inj hB (show 1 < B by omega) (show 0 < B by omega) (e.trans e0.symm)
        omega
      have p2 := place_at (V := va_up kz ((hmo B T q.1 + 0) % B) q.2) (c := 0) (v := r.2) (show 1 < H by omega) (frD_1 (K := va_up kz ((hmo B T q.1 + 0) % B) (q.1 + 1)) (f := hmo B T r.1) hB h0 (by simp only [va_up, if_neg e1]; rfl))
      exact ⟨_, _, _, by simp only [bldF, p1, p2]; rfl⟩
theorem grow_two {S : zS} {s : Nat → Int32} {a : Nat → Nat → Int32} (hT : cT S s a) (hB : S.1 < 32) (hc : sCnt S < 3) : ∃ S', sGrow S = some S' := by
  obtain ⟨B, H, T, K, V, c⟩ := S
  obtain ⟨okb, h2H, -⟩ := hT.1
  have hB : B < 32 := hB
  have hL : (entL K V B).length ≤ 2 := by
    rw [entL_cnt]
    have : cnt K B < 3 := hc
    omega
  have hw : ∃ m, wid B = m + 1 ∧ m < 4 := by
    rcases okb with rfl | rfl | rfl | rfl
    · exact ⟨2, rfl, by decide⟩
    · exact ⟨1, rfl, by decide⟩
    · omega
    · omega
  obtain ⟨m, hm, hm4⟩ := hw
  obtain ⟨K1, V1, c1, hb⟩ := bld_two (H := H) (T := T) (L := entL K V B) (okB_w (m := m) hm4) h2H hL
  have hr := rbR_yes hb
  rw [← hm] at hr
  exact ⟨_, sSet_some hr⟩
