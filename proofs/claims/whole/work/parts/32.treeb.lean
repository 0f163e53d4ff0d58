section TREE2
theorem nd_inj {f : Nat → Nat} : ∀ n, ((List.range n).map f).Nodup → ∀ s t, s < n → t < n → f s = f t → s = t := by
  intro n
  induction n with
  | zero => intro _ s t h; omega
  | succ n ih =>
    intro h s t hs ht e
    rw [List.range_succ, List.map_append, List.map_singleton, List.nodup_append] at h
    by_cases es : s = n
    · by_cases et : t = n
      · omega
      · exfalso; exact h.2.2 (f t) (List.mem_map_of_mem (List.mem_range.mpr (by omega))) (f n) (by simp) (by rw [← e, es])
    · by_cases et : t = n
      · exfalso; exact h.2.2 (f s) (List.mem_map_of_mem (List.mem_range.mpr (by omega))) (f n) (by simp) (by rw [e, et])
      · exact ih h.1 s t (by omega) (by omega) e
theorem cnl_inj {x : CS} {i : Nat} (h : ((cnl x i).map Prod.fst).Nodup) {s t : Nat} (hs : s < x 7 i 0) (ht : t < x 7 i 0) (e : x 26 i s = x 26 i t) : s = t := by
  have : ((List.range (x 7 i 0)).map (fun t => x 26 i t)).Nodup := by
    have e : (cnl x i).map Prod.fst = (List.range (x 7 i 0)).map (fun t => x 26 i t) := by unfold cnl; rw [List.map_map]; rfl
    rw [← e]; exact h
  exact nd_inj _ this s t hs ht e
-- in the reference: two live places of one path are one
theorem rnl_inj_aux {f : Nat → ND} : ∀ n, ((((List.range n).map f).filter (fun z => z.1 != 4294967295)).map Prod.fst).Nodup → ∀ s t, s < n → t < n → (f s).1 ≠ 4294967295 → (f s).1 = (f t).1 → s = t := by
  intro n
  induction n with
  | zero => intro _ s t h; omega
  | succ n ih =>
    intro h s t hs ht hd e
    rw [List.range_succ, List.map_append, List.filter_append, List.map_append, List.nodup_append] at h
    have mem : ∀ r, r < n → (f r).1 ≠ 4294967295 → (f r).1 ∈ ((((List.range n).map f).filter (fun z => z.1 != 4294967295)).map Prod.fst) := fun r hr hl => List.mem_map_of_mem (List.mem_filter.mpr ⟨List.mem_map_of_mem (List.mem_range.mpr hr), by simp [hl]⟩)
    have memn : (f n).1 ≠ 4294967295 → (f n).1 ∈ (((List.map f [n]).filter (fun z => z.1 != 4294967295)).map Prod.fst) := fun hl => by simp [hl]
    by_cases es : s = n
    · by_cases et : t = n
      · omega
      · exfalso; subst es; exact h.2.2 _ (mem t (by omega) (by rw [← e]; exact hd)) _ (memn hd) e.symm
    · by_cases et : t = n
      · exfalso; subst et; exact h.2.2 _ (mem s (by omega) hd) _ (memn (by rw [← e]; exact hd)) e
      · exact ih h.1 s t (by omega) (by omega) hd e
theorem rnl_inj {x : CS} {i : Nat} {y : RS} {m s t : Nat} (h : TB x i y m) (hs : s < y 32 0) (ht : t < y 32 0) (hd : y 26 s ≠ 4294967295) (e : y 26 s = y 26 t) : s = t := by
  have hn : ((rnl y).map Prod.fst).Nodup := ((h.1.map Prod.fst).nodup_iff).mp h.2.2.1
  exact rnl_inj_aux (f := rnd y) _ hn s t hs ht hd e
-- a new node
theorem cnl_add {x x' : CS} {i : Nat} {z : ND} (h7 : x' 7 i 0 = x 7 i 0 + 1) (hn : cnd x' i (x 7 i 0) = z) (ho : ∀ t, t < x 7 i 0 → cnd x' i t = cnd x i t) : cnl x' i = cnl x i ++ [z] := by
  unfold cnl
  rw [h7, List.range_succ, List.map_append, List.map_singleton, hn]
  congr 1
  exact List.map_congr_left (fun t ht => ho t (List.mem_range.mp ht))
theorem rnl_add {y y' : RS} {z : ND} (h7 : y' 32 0 = y 32 0 + 1) (hn : rnd y' (y 32 0) = z) (hz : z.1 ≠ 4294967295) (ho : ∀ t, t < y 32 0 → rnd y' t = rnd y t) : rnl y' = rnl y ++ [z] := by
  unfold rnl
  rw [h7, List.range_succ, List.map_append, List.map_singleton, hn, List.filter_append]
  congr 1
  · exact congrArg _ (List.map_congr_left (fun t ht => ho t (List.mem_range.mp ht)))
  · simp [hz]
theorem tb_add {x x' : CS} {i : Nat} {y y' : RS} {m : Nat} {z : ND} (h : TB x i y m) (c7 : x' 7 i 0 = x 7 i 0 + 1) (cn : cnd x' i (x 7 i 0) = z) (co : ∀ t, t < x 7 i 0 → cnd x' i t = cnd x i t) (r7 : y' 32 0 = y 32 0 + 1) (rn : rnd y' (y 32 0) = z) (ro : ∀ t, t < y 32 0 → rnd y' t = rnd y t) (hz : okn (m + 1) z) (hnew : ∀ n ∈ cnl x i, n.1 ≠ z.1) (h8 : x' 8 i 0 = x 8 i 0) (h30 : y' 30 = y 30) : TB x' i y' (m + 1) := by
  obtain ⟨h1, h2, h3, h4, h5, h6, h7⟩ := h
  have hz1 : z.1 ≠ 4294967295 := by have := hz.2.1; omega
  unfold TB
  rw [cnl_add c7 cn co, rnl_add r7 rn hz1 ro]
  refine ⟨h1.append_right _, fun n hn => ?_, ?_, by omega, by omega, by rw [h30]; exact h6, by rw [h8, h7]; unfold bitsOf; rw [h30]⟩
  · rcases List.mem_append.mp hn with hn | hn
    · have := h2 n hn; exact ⟨this.1, this.2.1, by have := this.2.2.1; omega, this.2.2.2⟩
    · simp at hn; rw [hn]; exact hz
  · rw [List.map_append, List.map_singleton, List.nodup_append]
    refine ⟨h3, by simp, fun u hu v hv => ?_⟩
    simp at hv; rw [hv]
    obtain ⟨n, hn, rfl⟩ := List.mem_map.mp hu
    exact hnew n hn
-- a change of nodes in place
theorem tb_map {x x' : CS} {i : Nat} {y y' : RS} {m : Nat} {g : ND → ND} (h : TB x i y m) (c7 : x' 7 i 0 = x 7 i 0) (co : ∀ t, t < x 7 i 0 → cnd x' i t = g (cnd x i t)) (r7 : y' 32 0 = y 32 0) (ro : ∀ t, t < y 32 0 → rnd y' t = g (rnd y t)) (hg : ∀ n, (g n).1 = n.1) (hok : ∀ n, okn m n → okn (m + 1) (g n)) (h8 : x' 8 i 0 = x 8 i 0) (h30 : y' 30 = y 30) : TB x' i y' (m + 1) := by
  obtain ⟨h1, h2, h3, h4, h5, h6, h7⟩ := h
  have e1 : cnl x' i = (cnl x i).map g := by
    unfold cnl; rw [c7, List.map_map]; exact List.map_congr_left (fun t ht => co t (List.mem_range.mp ht))
  have e2 : rnl y' = (rnl y).map g := by
    unfold rnl
    rw [r7, show (List.range (y 32 0)).map (rnd y') = ((List.range (y 32 0)).map (rnd y)).map g by rw [List.map_map]; exact List.map_congr_left (fun t ht => ro t (List.mem_range.mp ht)), List.filter_map]
    congr 1
    apply List.filter_congr
    intro n _; simp [hg]
  unfold TB
  rw [e1, e2]
  refine ⟨h1.map g, fun n hn => ?_, ?_, by omega, by omega, by rw [h30]; exact h6, by rw [h8, h7]; unfold bitsOf; rw [h30]⟩
  · obtain ⟨n0, hn0, rfl⟩ := List.mem_map.mp hn
    exact hok n0 (h2 n0 hn0)
  · rw [List.map_map, show (Prod.fst ∘ g) = Prod.fst from funext hg]; exact h3
-- nodes go
theorem rnl_kill {y y' : RS} {S : Nat → Bool} {q : ND → Bool} (r7 : y' 32 0 = y 32 0) (hk : ∀ t, t < y 32 0 → S t = true → y' 26 t = 4294967295) (ho : ∀ t, t < y 32 0 → S t = false → rnd y' t = rnd y t) (hq : ∀ t, t < y 32 0 → y 26 t ≠ 4294967295 → q (rnd y t) = !S t) : rnl y' = (rnl y).filter q := by
  unfold rnl
  rw [r7, List.filter_filter, List.filter_map, List.filter_map]
  have e : (List.range (y 32 0)).filter ((fun z : ND => z.1 != 4294967295) ∘ rnd y') = (List.range (y 32 0)).filter ((fun z : ND => q z && (z.1 != 4294967295)) ∘ rnd y) := by
    apply List.filter_congr
    intro t ht
    have ht := List.mem_range.mp ht
    show (y' 26 t != 4294967295) = (q (rnd y t) && (y 26 t != 4294967295))
    cases hS : S t with
    | true =>
      rw [hk t ht hS]
      by_cases e : y 26 t = 4294967295
      · simp [e]
      · rw [hq t ht e, hS]; simp
    | false =>
      have := congrArg Prod.fst (ho t ht hS)
      rw [show y' 26 t = y 26 t from this]
      by_cases e : y 26 t = 4294967295
      · simp [e]
      · rw [hq t ht e, hS]; simp
  rw [e]
  apply List.map_congr_left
  intro t ht
  obtain ⟨h1, h2⟩ := List.mem_filter.mp ht
  have h1 := List.mem_range.mp h1
  have h2 : (q (rnd y t) && (y 26 t != 4294967295)) = true := h2
  simp only [Bool.and_eq_true, bne_iff_ne] at h2
  apply ho t h1
  have := hq t h1 h2.2
  rw [h2.1] at this
  cases hS : S t with
  | true => rw [hS] at this; cases this
  | false => rfl
theorem erase_filter {l : List ND} : ∀ {t : Nat} {z : ND}, (l.map Prod.fst).Nodup → l[t]? = some z → l.eraseIdx t = l.filter (fun n => n.1 != z.1) := by
  induction l with
  | nil => intro t z _ h; simp at h
  | cons w l ih =>
    intro t z hn h
    rw [List.map_cons, List.nodup_cons] at hn
    cases t with
    | zero =>
      simp at h; subst h
      rw [List.eraseIdx_cons_zero, List.filter_cons_of_neg (by simp)]
      symm
      rw [List.filter_eq_self]
      intro n hm
      simp only [bne_iff_ne]
      intro e; apply hn.1; rw [← e]; exact List.mem_map_of_mem hm
    | succ t =>
      have hz : z ∈ l := List.mem_of_getElem? (by simpa using h)
      rw [List.eraseIdx_cons_succ, List.filter_cons_of_pos (by simp only [bne_iff_ne]; intro e; apply hn.1; rw [e]; exact List.mem_map_of_mem hz), ih hn.2 (by simpa using h)]
theorem cnd_remove {x : CS} {i t j : Nat} : cnd (w_X5_remove x i t) i j = if j = t then cnd x i (x 7 i 0 - 1) else cnd x i j := by
  unfold cnd w_X5_remove
  by_cases e : j = t
  · subst e; simp [su3]
  · simp [su3, e]
theorem cnl_remove {x : CS} {i t : Nat} (ht : t < x 7 i 0) : (cnl (w_X5_remove x i t) i).Perm ((cnl x i).eraseIdx t) := by
  have h7 : w_X5_remove x i t 7 i 0 = x 7 i 0 - 1 := remove_size
  obtain ⟨n, hn⟩ : ∃ n, x 7 i 0 = n + 1 := ⟨x 7 i 0 - 1, by omega⟩
  have e1 : cnl x i = (List.range n).map (cnd x i) ++ [cnd x i n] := by
    unfold cnl; rw [hn, List.range_succ, List.map_append, List.map_singleton]
  have e2 : cnl (w_X5_remove x i t) i = (List.range n).map (fun j => if j = t then cnd x i n else cnd x i j) := by
    unfold cnl; rw [h7, hn]
    apply List.map_congr_left
    intro j _; rw [cnd_remove, hn]; rfl
  rw [e1, e2]
  by_cases e : t = n
  · subst e
    rw [List.eraseIdx_append_of_length_le (by simp)]
    simp only [List.length_map, List.length_range, Nat.sub_self, List.eraseIdx_cons_zero, List.append_nil]
    rw [show (List.range t).map (fun j => if j = t then cnd x i t else cnd x i j) = (List.range t).map (cnd x i) from List.map_congr_left (fun j hj => if_neg (by have := List.mem_range.mp hj; omega))]
  · have hl : t < ((List.range n).map (cnd x i)).length := by simp; omega
    rw [List.eraseIdx_append_of_lt_length hl]
    have e3 : (List.range n).map (fun j => if j = t then cnd x i n else cnd x i j) = ((List.range n).map (cnd x i)).set t (cnd x i n) := by
      apply List.ext_getElem
      · simp
      · intro j h1 h2
        simp only [List.getElem_map, List.getElem_range, List.getElem_set]
        by_cases ej : j = t
        · subst ej; simp
        · rw [if_neg ej, if_neg (Ne.symm ej)]
    rw [e3]
    exact (set_perm _ hl).trans (List.perm_append_singleton _ _).symm
theorem cnl_at {x : CS} {i t : Nat} (ht : t < x 7 i 0) : (cnl x i)[t]? = some (cnd x i t) := by
  unfold cnl; simp [ht]
theorem tb_kill {x x' : CS} {i : Nat} {y y' : RS} {m : Nat} {q : ND → Bool} (h : TB x i y m) (hc : (cnl x' i).Perm ((cnl x i).filter q)) (hr : rnl y' = (rnl y).filter q) (c7 : x' 7 i 0 ≤ x 7 i 0) (r7 : y' 32 0 = y 32 0) (hb : ∀ b, b < 5 → y' 30 b ≤ 1) (h8 : x' 8 i 0 = bitsOf y') : TB x' i y' (m + 1) := by
  obtain ⟨h1, h2, h3, h4, h5, h6, h7⟩ := h
  refine ⟨?_, fun n hn => ?_, ?_, by omega, by omega, hb, h8⟩
  · rw [hr]; exact hc.trans (h1.filter q)
  · have := h2 n (List.mem_filter.mp (hc.mem_iff.mp hn)).1
    exact ⟨this.1, this.2.1, by have := this.2.2.1; omega, this.2.2.2⟩
  · rw [(hc.map Prod.fst).nodup_iff]
    exact List.Nodup.sublist (List.Sublist.map _ List.filter_sublist) h3
end TREE2
