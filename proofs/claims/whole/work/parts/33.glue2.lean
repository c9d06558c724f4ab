/-! ===== there and back, also where the target is a wall ===== -/
theorem DB_wall {w h e f x : Nat} {wl : Nat → Int32} (hw : w ≤ 7) (hh : h ≤ 7) (hf1 : 1 ≤ f) (hf : f < 7) (he : ¬ frN w h wl e) : (fin (nbF w h wl) 1764 (sBk w h wl e f)).2 x = none := by
  have hb := sBk_ok (w := w) (h := h) (e := e) (wl := wl) hf1 hf
  have h0 : sBk w h wl e f = [] := by
    unfold sBk
    rw [if_neg (fun z => he (frb_iff.mp z))]
  refine (fin_none (M := 1764) nb_ok (fun v => okN_lt hw hh) hb.1 hb.2 x).mpr (fun k hk => ?_)
  obtain ⟨s, hs, -⟩ := hk
  rw [h0] at hs
  cases hs
theorem fin_okS {w h x : Nat} {wl : Nat → Int32} (hx : okN w h wl x) : okS (okN w h wl) (fin (nbF w h wl) 1764 [x]) :=
  (fin_in (nb := nbF w h wl) (M := 1764) nb_ok (by simp) (fun s hs => by rw [List.mem_singleton.mp hs]; exact hx)).1
theorem DB_all {w h e f x : Nat} {wl : Nat → Int32} (hw : w ≤ 7) (hh : h ≤ 7) (hf1 : 1 ≤ f) (hf : f < 7) (hx : okN w h wl x) : DB w h wl e f x = fwt (fin (nbF w h wl) 1764 [x]).2 e f := by
  by_cases he : frN w h wl e
  · exact DB_eq hw hh he hf1 hf hx
  · rw [DB_def, DB_wall hw hh hf1 hf he]
    exact (fwt_off (fin_okS hx) hf1 hf he).symm
