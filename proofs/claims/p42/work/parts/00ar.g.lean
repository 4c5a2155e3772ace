-- P 15b
section
def laS_feed (I : fmM → fmM → Prop) : Prop := ∀ (M M2 : fmM) (a0 a1 a2 a3 a4 : Int32), I M M2 → pvGood Tx 250 qX10_feed [.ref 0, .int a0, .int a1, .int a2, .int a3, .int a4] M (fun r M' => rkI false false r ∧ pvGood Tm 250 qX11_feed [.ref 0, .int a0, .int a1, .int a2, .int a3, .int a4] M2 (fun r2 M2' => tI r2 ∧ I M' M2'))
def laS_drawer (I : fmM → fmM → Prop) : Prop := ∀ (M M2 : fmM) (a0 : Int32), I M M2 → pvGood Tx 250 qX10_drawer [.ref 0, .int a0] M (fun r M' => rkI true false r ∧ pvGood Tm 250 qX11_drawer [.ref 0, .int a0] M2 (fun r2 M2' => tI r2 ∧ I M' M2'))
def laS_law (I : fmM → fmM → Prop) : Prop := ∀ (M M2 : fmM) (a0 : Int32), I M M2 → pvGood Tx 250 qX10_law [.ref 0, .int a0] M (fun r M' => rkI true false r ∧ pvGood Tm 250 qX11_law [.ref 0, .int a0] M2 (fun r2 M2' => tI r2 ∧ I M' M2'))
def laS_work (I : fmM → fmM → Prop) : Prop := ∀ (M M2 : fmM) (a0 : Int32), I M M2 → pvGood Tx 250 qX10_work [.ref 0, .int a0] M (fun r M' => rkI true false r ∧ pvGood Tm 250 qX11_work [.ref 0, .int a0] M2 (fun r2 M2' => tI r2 ∧ I M' M2'))
def laS_page (I : fmM → fmM → Prop) : Prop := ∀ (M M2 : fmM) (a0 : Int32), I M M2 → pvGood Tx 250 qX10_page [.ref 0, .int a0] M (fun r M' => rkI true false r ∧ pvGood Tm 250 qX11_page [.ref 0, .int a0] M2 (fun r2 M2' => tI r2 ∧ I M' M2'))
def laS_fault (I : fmM → fmM → Prop) : Prop := ∀ (M M2 : fmM), I M M2 → pvGood Tx 250 qX10_fault [.ref 0] M (fun r M' => rkI false false r ∧ pvGood Tm 250 qX11_fault [.ref 0] M2 (fun r2 M2' => tI r2 ∧ I M' M2'))
def laS_undo (I : fmM → fmM → Prop) : Prop := ∀ (M M2 : fmM), I M M2 → pvGood Tx 250 qX10_undo [.ref 0] M (fun r M' => rkI false false r ∧ pvGood Tm 250 qX11_undo [.ref 0] M2 (fun r2 M2' => tI r2 ∧ I M' M2'))
def laS_told (I : fmM → fmM → Prop) : Prop := ∀ (M M2 : fmM) (a0 : Int32), I M M2 → pvGood Tx 250 qX10_told [.ref 0, .int a0] M (fun r M' => rkI true false r ∧ pvGood Tm 250 qX11_told [.ref 0, .int a0] M2 (fun r2 M2' => tI r2 ∧ I M' M2'))
def laS_life (I : fmM → fmM → Prop) : Prop := ∀ (M M2 : fmM) (a0 a1 : Int32), I M M2 → pvGood Tx 250 qX10_life [.ref 0, .int a0, .int a1] M (fun r M' => rkI true true r ∧ pvGood Tm 250 qX11_life [.ref 0, .int a0, .int a1] M2 (fun r2 M2' => tI r2 ∧ I M' M2'))
def laS_facts (I : fmM → fmM → Prop) : Prop := ∀ (M M2 : fmM) (a0 : Int32), I M M2 → pvGood Tx 250 qX10_facts [.ref 0, .int a0] M (fun r M' => rkI false true r ∧ pvGood Tm 250 qX11_facts [.ref 0, .int a0] M2 (fun r2 M2' => tI r2 ∧ I M' M2'))
def laS_wrong (I : fmM → fmM → Prop) : Prop := ∀ (M M2 : fmM) (a0 : Int32), I M M2 → pvGood Tx 250 qX10_wrong [.ref 0, .int a0] M (fun r M' => rkI false true r ∧ pvGood Tm 250 qX11_wrong [.ref 0, .int a0] M2 (fun r2 M2' => tI r2 ∧ I M' M2'))
def laS_would (I : fmM → fmM → Prop) : Prop := ∀ (M M2 : fmM) (a0 a1 a2 a3 a4 : Int32), I M M2 → pvGood Tx 250 qX10_would [.ref 0, .int a0, .int a1, .int a2, .int a3, .int a4] M (fun r M' => rkI true false r ∧ pvGood Tm 250 qX11_would [.ref 0, .int a0, .int a1, .int a2, .int a3, .int a4] M2 (fun r2 M2' => tI r2 ∧ I M' M2'))
def laS_loss (I : fmM → fmM → Prop) : Prop := ∀ (M M2 : fmM) (a0 : Int32), I M M2 → pvGood Tx 250 qX10_loss [.ref 0, .int a0] M (fun r M' => rkJ true false r ∧ pvGood Tm 250 qX11_loss [.ref 0, .int a0] M2 (fun r2 M2' => tJ r2 ∧ I M' M2'))
def laS_cost (I : fmM → fmM → Prop) : Prop := ∀ (M M2 : fmM) (a0 a1 : Int32), I M M2 → pvGood Tx 250 qX10_cost [.ref 0, .int a0, .int a1] M (fun r M' => rkJ true true r ∧ pvGood Tm 250 qX11_cost [.ref 0, .int a0, .int a1] M2 (fun r2 M2' => tJ r2 ∧ I M' M2'))
def laS_risk (I : fmM → fmM → Prop) : Prop := ∀ (M M2 : fmM) (a0 : Int32), I M M2 → pvGood Tx 250 qX10_risk [.ref 0, .int a0] M (fun r M' => rkJ true false r ∧ pvGood Tm 250 qX11_risk [.ref 0, .int a0] M2 (fun r2 M2' => tJ r2 ∧ I M' M2'))
def laS_saves (I : fmM → fmM → Prop) : Prop := ∀ (M M2 : fmM) (a0 a1 : Int32), I M M2 → pvGood Tx 250 qX10_saves [.ref 0, .int a0, .int a1] M (fun r M' => rkJ true true r ∧ pvGood Tm 250 qX11_saves [.ref 0, .int a0, .int a1] M2 (fun r2 M2' => tJ r2 ∧ I M' M2'))
def laS_first (I : fmM → fmM → Prop) : Prop := ∀ (M M2 : fmM), I M M2 → pvGood Tx 250 qX10_first [.ref 0] M (fun r M' => rkI false false r ∧ pvGood Tm 250 qX11_first [.ref 0] M2 (fun r2 M2' => tI r2 ∧ I M' M2'))
def laS_lacking (I : fmM → fmM → Prop) : Prop := ∀ (M M2 : fmM), I M M2 → pvGood Tx 250 qX10_lacking [.ref 0] M (fun r M' => rkI false false r ∧ pvGood Tm 250 qX11_lacking [.ref 0] M2 (fun r2 M2' => tI r2 ∧ I M' M2'))
def laS_signed (I : fmM → fmM → Prop) : Prop := ∀ (M M2 : fmM), I M M2 → pvGood Tx 250 qX10_signed [.ref 0] M (fun r M' => rkI false false r ∧ pvGood Tm 250 qX11_signed [.ref 0] M2 (fun r2 M2' => tI r2 ∧ I M' M2'))
def laS_stale (I : fmM → fmM → Prop) : Prop := ∀ (M M2 : fmM) (a0 : Int32), I M M2 → pvGood Tx 250 qX10_stale [.ref 0, .int a0] M (fun r M' => rkI true false r ∧ pvGood Tm 250 qX11_stale [.ref 0, .int a0] M2 (fun r2 M2' => tI r2 ∧ I M' M2'))
def laS_best (I : fmM → fmM → Prop) : Prop := ∀ (M M2 : fmM) (a0 a1 : Int32), I M M2 → pvGood Tx 250 qX10_best [.ref 0, .int a0, .int a1] M (fun r M' => rkJ true false r ∧ pvGood Tm 250 qX11_best [.ref 0, .int a0, .int a1] M2 (fun r2 M2' => tJ r2 ∧ I M' M2'))
def laS_bestIn (I : fmM → fmM → Prop) : Prop := ∀ (M M2 : fmM) (a0 a1 : Int32), I M M2 → pvGood Tx 250 qX10_bestIn [.ref 0, .int a0, .int a1] M (fun r M' => rkI true false r ∧ pvGood Tm 250 qX11_bestIn [.ref 0, .int a0, .int a1] M2 (fun r2 M2' => tI r2 ∧ I M' M2'))
def laS_often (I : fmM → fmM → Prop) : Prop := ∀ (M M2 : fmM) (a0 a1 : Int32), I M M2 → pvGood Tx 250 qX10_often [.ref 0, .int a0, .int a1] M (fun r M' => rkI true true r ∧ pvGood Tm 250 qX11_often [.ref 0, .int a0, .int a1] M2 (fun r2 M2' => tI r2 ∧ I M' M2'))
def laS_yearly (I : fmM → fmM → Prop) : Prop := ∀ (M M2 : fmM) (a0 a1 a2 a3 : Int32), I M M2 → pvGood Tx 250 qX10_yearly [.ref 0, .int a0, .int a1, .int a2, .int a3] M (fun r M' => rkJ true true r ∧ pvGood Tm 250 qX11_yearly [.ref 0, .int a0, .int a1, .int a2, .int a3] M2 (fun r2 M2' => tJ r2 ∧ I M' M2'))
def laS_brings (I : fmM → fmM → Prop) : Prop := ∀ (M M2 : fmM) (a0 a1 a2 a3 a4 a5 : Int32), I M M2 → pvGood Tx 250 qX10_brings [.ref 0, .int a0, .int a1, .int a2, .int a3, .int a4, .int a5] M (fun r M' => rkI true false r ∧ pvGood Tm 250 qX11_brings [.ref 0, .int a0, .int a1, .int a2, .int a3, .int a4, .int a5] M2 (fun r2 M2' => tI r2 ∧ I M' M2'))
def laS_says (I : fmM → fmM → Prop) : Prop := ∀ (M M2 : fmM) (a0 a1 a2 a3 a4 : Int32), I M M2 → pvGood Tx 250 qX10_says [.ref 0, .int a0, .int a1, .int a2, .int a3, .int a4] M (fun r M' => rkI true false r ∧ pvGood Tm 250 qX11_says [.ref 0, .int a0, .int a1, .int a2, .int a3, .int a4] M2 (fun r2 M2' => tI r2 ∧ I M' M2'))
def laS_line (I : fmM → fmM → Prop) : Prop := ∀ (M M2 : fmM) (a0 a1 a2 a3 : Int32), I M M2 → pvGood Tx 250 qX10_line [.ref 0, .int a0, .int a1, .int a2, .int a3] M (fun r M' => rkI true false r ∧ pvGood Tm 250 qX11_line [.ref 0, .int a0, .int a1, .int a2, .int a3] M2 (fun r2 M2' => tI r2 ∧ I M' M2'))
def laS_room (I : fmM → fmM → Prop) : Prop := ∀ (M M2 : fmM) (a0 a1 : Int32), I M M2 → pvGood Tx 250 qX10_room [.ref 0, .int a0, .int a1] M (fun r M' => rkI true false r ∧ pvGood Tm 250 qX11_room [.ref 0, .int a0, .int a1] M2 (fun r2 M2' => tI r2 ∧ I M' M2'))
def laS_lines (I : fmM → fmM → Prop) : Prop := ∀ (M M2 : fmM) (a0 a1 a2 : Int32), I M M2 → pvGood Tx 250 qX10_lines [.ref 0, .int a0, .int a1, .int a2] M (fun r M' => rkI true true r ∧ pvGood Tm 250 qX11_lines [.ref 0, .int a0, .int a1, .int a2] M2 (fun r2 M2' => tI r2 ∧ I M' M2'))
def laS_apart (I : fmM → fmM → Prop) : Prop := ∀ (M M2 : fmM) (a0 a1 : Int32), I M M2 → pvGood Tx 250 qX10_apart [.ref 0, .int a0, .int a1] M (fun r M' => rkI true false r ∧ pvGood Tm 250 qX11_apart [.ref 0, .int a0, .int a1] M2 (fun r2 M2' => tI r2 ∧ I M' M2'))
def laS_twins (I : fmM → fmM → Prop) : Prop := ∀ (M M2 : fmM), I M M2 → pvGood Tx 250 qX10_twins [.ref 0] M (fun r M' => rkI false false r ∧ pvGood Tm 250 qX11_twins [.ref 0] M2 (fun r2 M2' => tI r2 ∧ I M' M2'))
def laS_written (I : fmM → fmM → Prop) : Prop := ∀ (M M2 : fmM) (a0 : Int32), I M M2 → pvGood Tx 250 qX10_written [.ref 0, .int a0] M (fun r M' => rkJ false true r ∧ pvGood Tm 250 qX11_written [.ref 0, .int a0] M2 (fun r2 M2' => tJ r2 ∧ I M' M2'))
def laS_whose (I : fmM → fmM → Prop) : Prop := ∀ (M M2 : fmM), I M M2 → pvGood Tx 250 qX10_whose [.ref 0] M (fun r M' => rkI false false r ∧ pvGood Tm 250 qX11_whose [.ref 0] M2 (fun r2 M2' => tI r2 ∧ I M' M2'))
def laS_ahead (I : fmM → fmM → Prop) : Prop := ∀ (M M2 : fmM) (a0 a1 : Int32), I M M2 → pvGood Tx 250 qX10_ahead [.ref 0, .int a0, .int a1] M (fun r M' => rkJ true false r ∧ pvGood Tm 250 qX11_ahead [.ref 0, .int a0, .int a1] M2 (fun r2 M2' => tJ r2 ∧ I M' M2'))
def laS_lives (I : fmM → fmM → Prop) : Prop := ∀ (M M2 : fmM) (a0 a1 a2 : Int32), I M M2 → pvGood Tx 250 qX10_lives [.ref 0, .int a0, .int a1, .int a2] M (fun r M' => rkJ true true r ∧ pvGood Tm 250 qX11_lives [.ref 0, .int a0, .int a1, .int a2] M2 (fun r2 M2' => tJ r2 ∧ I M' M2'))
def laS_oldest (I : fmM → fmM → Prop) : Prop := ∀ (M M2 : fmM), I M M2 → pvGood Tx 250 qX10_oldest [.ref 0] M (fun r M' => rkI false false r ∧ pvGood Tm 250 qX11_oldest [.ref 0] M2 (fun r2 M2' => tI r2 ∧ I M' M2'))
def laS_chain (I : fmM → fmM → Prop) : Prop := ∀ (M M2 : fmM) (a0 a1 : Int32), I M M2 → pvGood Tx 250 qX10_chain [.ref 0, .int a0, .int a1] M (fun r M' => rkI true true r ∧ pvGood Tm 250 qX11_chain [.ref 0, .int a0, .int a1] M2 (fun r2 M2' => tI r2 ∧ I M' M2'))
def laS_due (I : fmM → fmM → Prop) : Prop := ∀ (M M2 : fmM) (a0 a1 : Int32), I M M2 → pvGood Tx 250 qX10_due [.ref 0, .int a0, .int a1] M (fun r M' => rkI true true r ∧ pvGood Tm 250 qX11_due [.ref 0, .int a0, .int a1] M2 (fun r2 M2' => tI r2 ∧ I M' M2'))
def laS_news (I : fmM → fmM → Prop) : Prop := ∀ (M M2 : fmM) (a0 : Int32), I M M2 → pvGood Tx 250 qX10_news [.ref 0, .int a0] M (fun r M' => rkI false true r ∧ pvGood Tm 250 qX11_news [.ref 0, .int a0] M2 (fun r2 M2' => tI r2 ∧ I M' M2'))
def laS_expects (I : fmM → fmM → Prop) : Prop := ∀ (M M2 : fmM) (a0 a1 a2 : Int32), I M M2 → pvGood Tx 250 qX10_expects [.ref 0, .int a0, .int a1, .int a2] M (fun r M' => rkJ true true r ∧ pvGood Tm 250 qX11_expects [.ref 0, .int a0, .int a1, .int a2] M2 (fun r2 M2' => tJ r2 ∧ I M' M2'))
def laS_worst (I : fmM → fmM → Prop) : Prop := ∀ (M M2 : fmM), I M M2 → pvGood Tx 250 qX10_worst [.ref 0] M (fun r M' => rkI false false r ∧ pvGood Tm 250 qX11_worst [.ref 0] M2 (fun r2 M2' => tI r2 ∧ r2 = r ∧ I M' M2'))
def laS_years (I : fmM → fmM → Prop) : Prop := ∀ (M M2 : fmM) (a0 a1 a2 : Int32), I M M2 → pvGood Tx 250 qX10_years [.ref 0, .int a0, .int a1, .int a2] M (fun r M' => rkI true false r ∧ pvGood Tm 250 qX11_years [.ref 0, .int a0, .int a1, .int a2] M2 (fun r2 M2' => tI r2 ∧ I M' M2'))
def laS_span (I : fmM → fmM → Prop) : Prop := ∀ (M M2 : fmM) (a0 a1 a2 a3 a4 : Int32), I M M2 → pvGood Tx 250 qX10_span [.ref 0, .int a0, .int a1, .int a2, .int a3, .int a4] M (fun r M' => rkI true false r ∧ pvGood Tm 250 qX11_span [.ref 0, .int a0, .int a1, .int a2, .int a3, .int a4] M2 (fun r2 M2' => tI r2 ∧ I M' M2'))
def laS_image (I : fmM → fmM → Prop) : Prop := ∀ (M M2 : fmM), I M M2 → pvGood Tx 250 qX10_image [.ref 0] M (fun r M' => rkI false false r ∧ pvGood Tm 250 qX11_image [.ref 0] M2 (fun r2 M2' => tI r2 ∧ I M' M2'))
def laS_restore (I : fmM → fmM → Prop) : Prop := ∀ (M M2 : fmM), I M M2 → pvGood Tx 250 qX10_restore [.ref 0] M (fun r M' => rkI false false r ∧ pvGood Tm 250 qX11_restore [.ref 0] M2 (fun r2 M2' => tI r2 ∧ I M' M2'))
def laS_status (I : fmM → fmM → Prop) : Prop := ∀ (M M2 : fmM) (a0 : Int32), I M M2 → pvGood Tx 250 qX10_status [.ref 0, .int a0] M (fun r M' => rkI false false r ∧ pvGood Tm 250 qX11_status [.ref 0, .int a0] M2 (fun r2 M2' => tI r2 ∧ I M' M2'))
def laS_count (I : fmM → fmM → Prop) : Prop := ∀ (M M2 : fmM) (a0 : Int32), I M M2 → pvGood Tx 250 qX10_count [.ref 0, .int a0] M (fun r M' => rkI false false r ∧ pvGood Tm 250 qX11_count [.ref 0, .int a0] M2 (fun r2 M2' => tI r2 ∧ I M' M2'))
theorem z_pop {p : Program} {l : Launch} {e : Env} {R : Room} {s : State} {m : MethodId} {args : Array Value} {below : List Frame} {meth : Method} {c : Code} {own : String} {cc : ByteArray} {nL : Nat} {G : fmG} {A : Nat → Prop} {Z : State → Prop} {pc : Nat} {L : List (Option Value)} {st : List Value} {ws : va_W} {cu su : Nat} (hF : zFix p s m args c own cc nL G A) {v : Value} (hc : v.category = 1) (hdg : decode cc pc = .ok (.pop, 1)) (k : zEv p l e R s m args below meth c G A nL Z (pc + 1) L st ws cu su) : zEv p l e R s m args below meth c G A nL Z pc L (v :: st) ws cu su := z_row hF (fun _ _ _ _ _ _ _ _ _ _ _ _ _ _ _ hx hb hL kk => lv_pop hx hb hdg hc kk) k
set_option maxRecDepth 20000 in
theorem la_c0 {p : Program} {l : Launch} {e : Env} {s : State} {m : MethodId} {below : List Frame} {meth : Method} {c : Code} {G : fmG} {b n : Nat} {xs : Nat → Int32} {I : fmM → fmM → Prop} (hS : laS_feed I) (C : laC p l s m meth c G b n xs) {g g2 : Nat → Nat} {M M2 : fmM} {f : Nat → Int64} {o t : Nat} {i : Int32} {cu su : Nat} (hi : laI n i t) (hcu : cu + 1 ≤ 601024) (hsu : su + 6 ≤ 7293034) (hcu1 : cu + 1 + 1 ≤ 601024) (hsu1 : su + 6 + 6 ≤ 7293034) (hI : I M M2) (kk : ∀ (M' : fmM) (f' : Nat → Int64) (M2' : fmM), I M' M2' → zEv p l e room_1 s m #[.ref b] below meth c G (fun q => s.heap.size ≤ q) 8 (lw_Z below #[.ref b] s) 1940 [some (.ref b), some (.ref (g 0)), some (.ref (g2 0)), some (.ref o), some (.int i), none, none, none] [] (fmL Tx (g, G.2) M' ++ ((o, .inl (G.2.2.1 1, 1, .inr (.inl f'))) :: fmL Tm (g2, G.2) M2')) (cu + 1) (su + 6)) : zEv p l e room_1 s m #[.ref b] below meth c G (fun q => s.heap.size ≤ q) 8 (lw_Z below #[.ref b] s) 244 [some (.ref b), some (.ref (g 0)), some (.ref (g2 0)), some (.ref o), some (.int i), none, none, none] [] (fmL Tx (g, G.2) M ++ ((o, .inl (G.2.2.1 1, 1, .inr (.inl f))) :: fmL Tm (g2, G.2) M2)) cu su := by
  have h0 := hS M M2 (xs (t + 1)) (xs (t + 2)) (xs (t + 3)) (xs (t + 4)) (xs (t + 5)) hI
  refine z_aloadn C.1 (pc := 244) (n := 1) 1 rfl rfl (fm_dec dtLa_0 25 rfl) ?_
  refine la_arg C (pc := 245) (v := 1) (t + 1) rfl rfl (hi 1 (by decide)) (by decide) (fm_dec dtLa_0 26 rfl) (fm_dec dtLa_0 27 rfl) (fm_dec dtLa_0 28 rfl) (fm_dec dtLa_0 29 rfl) (fm_dec dtLa_1 0 rfl) ?_
  refine la_arg C (pc := 251) (v := 2) (t + 2) rfl rfl (hi 2 (by decide)) (by decide) (fm_dec dtLa_1 1 rfl) (fm_dec dtLa_1 2 rfl) (fm_dec dtLa_1 3 rfl) (fm_dec dtLa_1 4 rfl) (fm_dec dtLa_1 5 rfl) ?_
  refine la_arg C (pc := 257) (v := 3) (t + 3) rfl rfl (hi 3 (by decide)) (by decide) (fm_dec dtLa_1 6 rfl) (fm_dec dtLa_1 7 rfl) (fm_dec dtLa_1 8 rfl) (fm_dec dtLa_1 9 rfl) (fm_dec dtLa_1 10 rfl) ?_
  refine la_arg C (pc := 263) (v := 4) (t + 4) rfl rfl (hi 4 (by decide)) (by decide) (fm_dec dtLa_1 11 rfl) (fm_dec dtLa_1 12 rfl) (fm_dec dtLa_1 13 rfl) (fm_dec dtLa_1 14 rfl) (fm_dec dtLa_1 15 rfl) ?_
  refine la_arg C (pc := 269) (v := 5) (t + 5) rfl rfl (hi 5 (by decide)) (by decide) (fm_dec dtLa_1 16 rfl) (fm_dec dtLa_1 17 rfl) (fm_dec dtLa_1 18 rfl) (fm_dec dtLa_1 19 rfl) (fm_dec dtLa_1 20 rfl) ?_
  refine z_callX C.1 (T := Tx) (g := g) (M := M) (rest := (o, .inl (G.2.2.1 1, 1, .inr (.inl f))) :: fmL Tm (g2, G.2) M2) (k := 0) (ci := 10) (d' := 250) (pc := 275) (As := [.int (xs (t + 1)), .int (xs (t + 2)), .int (xs (t + 3)), .int (xs (t + 4)), .int (xs (t + 5))]) (st := []) cvL_126 (by decide) rfl rfl rfl (by decide) (rm_fr (by decide)) (rm_lo (by decide) (by decide)) (rm_c hcu) (rm_s hsu) (fm_dec dtLa_1 21 rfl) ?_
  refine fmGood.imp (pvGood.fm C.2.2.2.2.2 (by decide) (by decide +kernel) h0) (fun o9 M1 h9 => ?_)
  obtain ⟨o', rfl, h8, h2⟩ := h9
  rcases h8 with ⟨v, rfl⟩ | ⟨h8, -⟩ | ⟨h8, -⟩
  · refine z_then1 ?_
    refine z_pop C.1 (pc := 278) rfl (fm_dec dtLa_1 22 rfl) ?_
    refine z_aloadn C.1 (pc := 279) (n := 2) 2 rfl rfl (fm_dec dtLa_1 23 rfl) ?_
    refine la_arg C (pc := 280) (v := 1) (t + 1) rfl rfl (hi 1 (by decide)) (by decide) (fm_dec dtLa_1 24 rfl) (fm_dec dtLa_1 25 rfl) (fm_dec dtLa_1 26 rfl) (fm_dec dtLa_1 27 rfl) (fm_dec dtLa_1 28 rfl) ?_
    refine la_arg C (pc := 286) (v := 2) (t + 2) rfl rfl (hi 2 (by decide)) (by decide) (fm_dec dtLa_1 29 rfl) (fm_dec dtLa_2 0 rfl) (fm_dec dtLa_2 1 rfl) (fm_dec dtLa_2 2 rfl) (fm_dec dtLa_2 3 rfl) ?_
    refine la_arg C (pc := 292) (v := 3) (t + 3) rfl rfl (hi 3 (by decide)) (by decide) (fm_dec dtLa_2 4 rfl) (fm_dec dtLa_2 5 rfl) (fm_dec dtLa_2 6 rfl) (fm_dec dtLa_2 7 rfl) (fm_dec dtLa_2 8 rfl) ?_
    refine la_arg C (pc := 298) (v := 4) (t + 4) rfl rfl (hi 4 (by decide)) (by decide) (fm_dec dtLa_2 9 rfl) (fm_dec dtLa_2 10 rfl) (fm_dec dtLa_2 11 rfl) (fm_dec dtLa_2 12 rfl) (fm_dec dtLa_2 13 rfl) ?_
    refine la_arg C (pc := 304) (v := 5) (t + 5) rfl rfl (hi 5 (by decide)) (by decide) (fm_dec dtLa_2 14 rfl) (fm_dec dtLa_2 15 rfl) (fm_dec dtLa_2 16 rfl) (fm_dec dtLa_2 17 rfl) (fm_dec dtLa_2 18 rfl) ?_
    have hcw := hcu
    have hsw := hsu
    refine z_perm (ws := (fmL Tx (g, G.2) M1 ++ ((o, .inl (G.2.2.1 1, 1, .inr (.inl f))) :: fmL Tm (g2, G.2) M2))) (wpermW _ _ _) ?_
    refine la_ref C (pc := 310) (As := [.int (xs (t + 1)), .int (xs (t + 2)), .int (xs (t + 3)), .int (xs (t + 4)), .int (xs (t + 5))]) (st := []) cvL_129 (by decide +kernel) rfl rfl (Nat.le_of_ble_eq_true rfl) (by decide) hcw hsw (fm_dec dtLa_2 19 rfl) rfl h2 (fun r2 M3 h3 => ?_)
    obtain ⟨⟨v2, rfl⟩, hI3⟩ := h3
    refine z_then1 ?_
    refine z_pop C.1 (pc := 313) rfl (fm_dec dtLa_2 20 rfl) ?_
    refine z_goto C.1 (pc := 314) 1940 (by decide) (fm_dec dtLa_2 21 rfl) ?_
    refine z_more (Nat.le_succ _) (Nat.le_add_right _ 6) ?_
    exact z_perm (wpermB _ _ _) (la_fgt (kk M1 f M3 hI3))
  · cases h8
  · cases h8
set_option maxRecDepth 20000 in
theorem la_c1 {p : Program} {l : Launch} {e : Env} {s : State} {m : MethodId} {below : List Frame} {meth : Method} {c : Code} {G : fmG} {b n : Nat} {xs : Nat → Int32} {I : fmM → fmM → Prop} (hS : laS_drawer I) (C : laC p l s m meth c G b n xs) {g g2 : Nat → Nat} {M M2 : fmM} {f : Nat → Int64} {o t : Nat} {i : Int32} {cu su : Nat} (hi : laI n i t) (hcu : cu + 1 ≤ 601024) (hsu : su + 6 ≤ 7293034) (hcu1 : cu + 1 + 1 ≤ 601024) (hsu1 : su + 6 + 6 ≤ 7293034) (hI : I M M2) (kk : ∀ (M' : fmM) (f' : Nat → Int64) (M2' : fmM), I M' M2' → zEv p l e room_1 s m #[.ref b] below meth c G (fun q => s.heap.size ≤ q) 8 (lw_Z below #[.ref b] s) 1940 [some (.ref b), some (.ref (g 0)), some (.ref (g2 0)), some (.ref o), some (.int i), none, none, none] [] (fmL Tx (g, G.2) M' ++ ((o, .inl (G.2.2.1 1, 1, .inr (.inl f'))) :: fmL Tm (g2, G.2) M2')) (cu + 1) (su + 6)) : zEv p l e room_1 s m #[.ref b] below meth c G (fun q => s.heap.size ≤ q) 8 (lw_Z below #[.ref b] s) 317 [some (.ref b), some (.ref (g 0)), some (.ref (g2 0)), some (.ref o), some (.int i), none, none, none] [] (fmL Tx (g, G.2) M ++ ((o, .inl (G.2.2.1 1, 1, .inr (.inl f))) :: fmL Tm (g2, G.2) M2)) cu su := by
  have h0 := hS M M2 (xs (t + 1)) hI
  refine z_aloadn C.1 (pc := 317) (n := 1) 1 rfl rfl (fm_dec dtLa_2 22 rfl) ?_
  refine la_arg C (pc := 318) (v := 1) (t + 1) rfl rfl (hi 1 (by decide)) (by decide) (fm_dec dtLa_2 23 rfl) (fm_dec dtLa_2 24 rfl) (fm_dec dtLa_2 25 rfl) (fm_dec dtLa_2 26 rfl) (fm_dec dtLa_2 27 rfl) ?_
  refine z_aloadn C.1 (pc := 324) (n := 3) 3 rfl rfl (fm_dec dtLa_2 28 rfl) ?_
  have hw : pvGood Tx 250 qX10_drawer [.ref 0, .int (xs (t + 1))] M (wI f (fun (r : Int32) (u : fmM × (Nat → Int64)) => pvGood Tm 250 qX11_drawer [.ref 0, .int (xs (t + 1))] M2 (fun r2 M2' => tI r2 ∧ I u.1 M2')) (fun E M' => (E = fmIAE ∧ (fun (r : Int32) (u : fmM × (Nat → Int64)) => pvGood Tm 250 qX11_drawer [.ref 0, .int (xs (t + 1))] M2 (fun r2 M2' => tI r2 ∧ I u.1 M2')) 1 (M', f)))) := h0.imp (fun r9 M9 h9 => by
    obtain ⟨h8, h2⟩ := h9
    rcases h8 with ⟨v, rfl⟩ | ⟨h6, rfl⟩ | ⟨h6, rfl⟩
    · exact h2
    · exact ⟨rfl, h2⟩
    · exact absurd h6 (by decide))
  refine z_callW C.1 (y' := qL_drawer) (hh := [(0, 9, 12, 13)]) (W0 := WX G g o (fmL Tm (g2, G.2) M2) (M, f)) (WW := WX G g o (fmL Tm (g2, G.2) M2)) (Q := fun (r : Int32) (u : fmM × (Nat → Int64)) => pvGood Tm 250 qX11_drawer [.ref 0, .int (xs (t + 1))] M2 (fun r2 M2' => tI r2 ∧ I u.1 M2')) (As := [.ref (g 0), .int (xs (t + 1)), .ref o]) (st := []) (pc := 325) (fm_c3 109 (by eq_refl) rfl) nst_L_drawer niL nw_L_drawer nd_L_drawer rfl rfl (by decide) (show 311 ≤ room_1.frames by decide) (show 8 + (4 + 11) + 18200 ≤ room_1.locals by decide) (rm_c hcu) (rm_s hsu) (fm_dec dtLa_2 29 rfl) (w_drawer C.2.2.2.2.2 hw) (fun r u hQ => ?_)
  obtain ⟨M1, f1⟩ := u
  refine z_istore C.1 (pc := 328) (i := 5) (by decide) rfl (fm_dec dtLa_3 0 rfl) ?_
  dsimp only [List.set_cons_zero, List.set_cons_succ]
  refine z_aloadn C.1 (pc := 330) (n := 2) 2 rfl rfl (fm_dec dtLa_3 1 rfl) ?_
  refine la_arg C (pc := 331) (v := 1) (t + 1) rfl rfl (hi 1 (by decide)) (by decide) (fm_dec dtLa_3 2 rfl) (fm_dec dtLa_3 3 rfl) (fm_dec dtLa_3 4 rfl) (fm_dec dtLa_3 5 rfl) (fm_dec dtLa_3 6 rfl) ?_
  have hcw := hcu1
  have hsw := hsu1
  refine z_perm (ws := (fmL Tx (g, G.2) M1 ++ ((o, .inl (G.2.2.1 1, 1, .inr (.inl f1))) :: fmL Tm (g2, G.2) M2))) (wpermW _ _ _) ?_
  refine la_ref C (pc := 337) (As := [.int (xs (t + 1))]) (st := []) cvL_135 (by decide +kernel) rfl rfl (Nat.le_of_ble_eq_true rfl) (by decide) hcw hsw (fm_dec dtLa_3 7 rfl) rfl hQ (fun r2 M3 h3 => ?_)
  obtain ⟨⟨v2, rfl⟩, hI3⟩ := h3
  refine z_then1 ?_
  refine z_istore C.1 (pc := 340) (i := 6) (by decide) rfl (fm_dec dtLa_3 8 rfl) ?_
  dsimp only [List.set_cons_zero, List.set_cons_succ]
  refine z_goto C.1 (pc := 342) 1940 (by decide) (fm_dec dtLa_3 9 rfl) ?_
  exact z_perm (wpermB _ _ _) (la_fgt (kk M1 f1 M3 hI3))
set_option maxRecDepth 20000 in
theorem la_c2 {p : Program} {l : Launch} {e : Env} {s : State} {m : MethodId} {below : List Frame} {meth : Method} {c : Code} {G : fmG} {b n : Nat} {xs : Nat → Int32} {I : fmM → fmM → Prop} (hS : laS_law I) (C : laC p l s m meth c G b n xs) {g g2 : Nat → Nat} {M M2 : fmM} {f : Nat → Int64} {o t : Nat} {i : Int32} {cu su : Nat} (hi : laI n i t) (hcu : cu + 1 ≤ 601024) (hsu : su + 6 ≤ 7293034) (hcu1 : cu + 1 + 1 ≤ 601024) (hsu1 : su + 6 + 6 ≤ 7293034) (hI : I M M2) (kk : ∀ (M' : fmM) (f' : Nat → Int64) (M2' : fmM), I M' M2' → zEv p l e room_1 s m #[.ref b] below meth c G (fun q => s.heap.size ≤ q) 8 (lw_Z below #[.ref b] s) 1940 [some (.ref b), some (.ref (g 0)), some (.ref (g2 0)), some (.ref o), some (.int i), none, none, none] [] (fmL Tx (g, G.2) M' ++ ((o, .inl (G.2.2.1 1, 1, .inr (.inl f'))) :: fmL Tm (g2, G.2) M2')) (cu + 1) (su + 6)) : zEv p l e room_1 s m #[.ref b] below meth c G (fun q => s.heap.size ≤ q) 8 (lw_Z below #[.ref b] s) 345 [some (.ref b), some (.ref (g 0)), some (.ref (g2 0)), some (.ref o), some (.int i), none, none, none] [] (fmL Tx (g, G.2) M ++ ((o, .inl (G.2.2.1 1, 1, .inr (.inl f))) :: fmL Tm (g2, G.2) M2)) cu su := by
  have h0 := hS M M2 (xs (t + 1)) hI
  refine z_aloadn C.1 (pc := 345) (n := 1) 1 rfl rfl (fm_dec dtLa_3 10 rfl) ?_
  refine la_arg C (pc := 346) (v := 1) (t + 1) rfl rfl (hi 1 (by decide)) (by decide) (fm_dec dtLa_3 11 rfl) (fm_dec dtLa_3 12 rfl) (fm_dec dtLa_3 13 rfl) (fm_dec dtLa_3 14 rfl) (fm_dec dtLa_3 15 rfl) ?_
  refine z_aloadn C.1 (pc := 352) (n := 3) 3 rfl rfl (fm_dec dtLa_3 16 rfl) ?_
  have hw : pvGood Tx 250 qX10_law [.ref 0, .int (xs (t + 1))] M (wI f (fun (r : Int32) (u : fmM × (Nat → Int64)) => pvGood Tm 250 qX11_law [.ref 0, .int (xs (t + 1))] M2 (fun r2 M2' => tI r2 ∧ I u.1 M2')) (fun E M' => (E = fmIAE ∧ (fun (r : Int32) (u : fmM × (Nat → Int64)) => pvGood Tm 250 qX11_law [.ref 0, .int (xs (t + 1))] M2 (fun r2 M2' => tI r2 ∧ I u.1 M2')) 1 (M', f)))) := h0.imp (fun r9 M9 h9 => by
    obtain ⟨h8, h2⟩ := h9
    rcases h8 with ⟨v, rfl⟩ | ⟨h6, rfl⟩ | ⟨h6, rfl⟩
    · exact h2
    · exact ⟨rfl, h2⟩
    · exact absurd h6 (by decide))
  refine z_callW C.1 (y' := qL_law) (hh := [(0, 9, 12, 13)]) (W0 := WX G g o (fmL Tm (g2, G.2) M2) (M, f)) (WW := WX G g o (fmL Tm (g2, G.2) M2)) (Q := fun (r : Int32) (u : fmM × (Nat → Int64)) => pvGood Tm 250 qX11_law [.ref 0, .int (xs (t + 1))] M2 (fun r2 M2' => tI r2 ∧ I u.1 M2')) (As := [.ref (g 0), .int (xs (t + 1)), .ref o]) (st := []) (pc := 353) (fm_c4 79 (by eq_refl) rfl) nst_L_law niL nw_L_law nd_L_law rfl rfl (by decide) (show 311 ≤ room_1.frames by decide) (show 8 + (4 + 11) + 18200 ≤ room_1.locals by decide) (rm_c hcu) (rm_s hsu) (fm_dec dtLa_3 17 rfl) (w_law C.2.2.2.2.2 hw) (fun r u hQ => ?_)
  obtain ⟨M1, f1⟩ := u
  refine z_istore C.1 (pc := 356) (i := 5) (by decide) rfl (fm_dec dtLa_3 18 rfl) ?_
  dsimp only [List.set_cons_zero, List.set_cons_succ]
  refine z_aloadn C.1 (pc := 358) (n := 2) 2 rfl rfl (fm_dec dtLa_3 19 rfl) ?_
  refine la_arg C (pc := 359) (v := 1) (t + 1) rfl rfl (hi 1 (by decide)) (by decide) (fm_dec dtLa_3 20 rfl) (fm_dec dtLa_3 21 rfl) (fm_dec dtLa_3 22 rfl) (fm_dec dtLa_3 23 rfl) (fm_dec dtLa_3 24 rfl) ?_
  have hcw := hcu1
  have hsw := hsu1
  refine z_perm (ws := (fmL Tx (g, G.2) M1 ++ ((o, .inl (G.2.2.1 1, 1, .inr (.inl f1))) :: fmL Tm (g2, G.2) M2))) (wpermW _ _ _) ?_
  refine la_ref C (pc := 365) (As := [.int (xs (t + 1))]) (st := []) cvL_138 (by decide +kernel) rfl rfl (Nat.le_of_ble_eq_true rfl) (by decide) hcw hsw (fm_dec dtLa_3 25 rfl) rfl hQ (fun r2 M3 h3 => ?_)
  obtain ⟨⟨v2, rfl⟩, hI3⟩ := h3
  refine z_then1 ?_
  refine z_istore C.1 (pc := 368) (i := 6) (by decide) rfl (fm_dec dtLa_3 26 rfl) ?_
  dsimp only [List.set_cons_zero, List.set_cons_succ]
  refine z_goto C.1 (pc := 370) 1940 (by decide) (fm_dec dtLa_3 27 rfl) ?_
  exact z_perm (wpermB _ _ _) (la_fgt (kk M1 f1 M3 hI3))
set_option maxRecDepth 20000 in
theorem la_c3 {p : Program} {l : Launch} {e : Env} {s : State} {m : MethodId} {below : List Frame} {meth : Method} {c : Code} {G : fmG} {b n : Nat} {xs : Nat → Int32} {I : fmM → fmM → Prop} (hS : laS_work I) (C : laC p l s m meth c G b n xs) {g g2 : Nat → Nat} {M M2 : fmM} {f : Nat → Int64} {o t : Nat} {i : Int32} {cu su : Nat} (hi : laI n i t) (hcu : cu + 1 ≤ 601024) (hsu : su + 6 ≤ 7293034) (hcu1 : cu + 1 + 1 ≤ 601024) (hsu1 : su + 6 + 6 ≤ 7293034) (hI : I M M2) (kk : ∀ (M' : fmM) (f' : Nat → Int64) (M2' : fmM), I M' M2' → zEv p l e room_1 s m #[.ref b] below meth c G (fun q => s.heap.size ≤ q) 8 (lw_Z below #[.ref b] s) 1940 [some (.ref b), some (.ref (g 0)), some (.ref (g2 0)), some (.ref o), some (.int i), none, none, none] [] (fmL Tx (g, G.2) M' ++ ((o, .inl (G.2.2.1 1, 1, .inr (.inl f'))) :: fmL Tm (g2, G.2) M2')) (cu + 1) (su + 6)) : zEv p l e room_1 s m #[.ref b] below meth c G (fun q => s.heap.size ≤ q) 8 (lw_Z below #[.ref b] s) 373 [some (.ref b), some (.ref (g 0)), some (.ref (g2 0)), some (.ref o), some (.int i), none, none, none] [] (fmL Tx (g, G.2) M ++ ((o, .inl (G.2.2.1 1, 1, .inr (.inl f))) :: fmL Tm (g2, G.2) M2)) cu su := by
  have h0 := hS M M2 (xs (t + 1)) hI
  refine z_aloadn C.1 (pc := 373) (n := 1) 1 rfl rfl (fm_dec dtLa_3 28 rfl) ?_
  refine la_arg C (pc := 374) (v := 1) (t + 1) rfl rfl (hi 1 (by decide)) (by decide) (fm_dec dtLa_3 29 rfl) (fm_dec dtLa_4 0 rfl) (fm_dec dtLa_4 1 rfl) (fm_dec dtLa_4 2 rfl) (fm_dec dtLa_4 3 rfl) ?_
  refine z_aloadn C.1 (pc := 380) (n := 3) 3 rfl rfl (fm_dec dtLa_4 4 rfl) ?_
  have hw : pvGood Tx 250 qX10_work [.ref 0, .int (xs (t + 1))] M (wI f (fun (r : Int32) (u : fmM × (Nat → Int64)) => pvGood Tm 250 qX11_work [.ref 0, .int (xs (t + 1))] M2 (fun r2 M2' => tI r2 ∧ I u.1 M2')) (fun E M' => (E = fmIAE ∧ (fun (r : Int32) (u : fmM × (Nat → Int64)) => pvGood Tm 250 qX11_work [.ref 0, .int (xs (t + 1))] M2 (fun r2 M2' => tI r2 ∧ I u.1 M2')) 1 (M', f)))) := h0.imp (fun r9 M9 h9 => by
    obtain ⟨h8, h2⟩ := h9
    rcases h8 with ⟨v, rfl⟩ | ⟨h6, rfl⟩ | ⟨h6, rfl⟩
    · exact h2
    · exact ⟨rfl, h2⟩
    · exact absurd h6 (by decide))
  refine z_callW C.1 (y' := qL_work) (hh := [(0, 9, 12, 13)]) (W0 := WX G g o (fmL Tm (g2, G.2) M2) (M, f)) (WW := WX G g o (fmL Tm (g2, G.2) M2)) (Q := fun (r : Int32) (u : fmM × (Nat → Int64)) => pvGood Tm 250 qX11_work [.ref 0, .int (xs (t + 1))] M2 (fun r2 M2' => tI r2 ∧ I u.1 M2')) (As := [.ref (g 0), .int (xs (t + 1)), .ref o]) (st := []) (pc := 381) (fm_c4 118 (by eq_refl) rfl) nst_L_work niL nw_L_work nd_L_work rfl rfl (by decide) (show 311 ≤ room_1.frames by decide) (show 8 + (4 + 11) + 18200 ≤ room_1.locals by decide) (rm_c hcu) (rm_s hsu) (fm_dec dtLa_4 5 rfl) (w_work C.2.2.2.2.2 hw) (fun r u hQ => ?_)
  obtain ⟨M1, f1⟩ := u
  refine z_istore C.1 (pc := 384) (i := 5) (by decide) rfl (fm_dec dtLa_4 6 rfl) ?_
  dsimp only [List.set_cons_zero, List.set_cons_succ]
  refine z_aloadn C.1 (pc := 386) (n := 2) 2 rfl rfl (fm_dec dtLa_4 7 rfl) ?_
  refine la_arg C (pc := 387) (v := 1) (t + 1) rfl rfl (hi 1 (by decide)) (by decide) (fm_dec dtLa_4 8 rfl) (fm_dec dtLa_4 9 rfl) (fm_dec dtLa_4 10 rfl) (fm_dec dtLa_4 11 rfl) (fm_dec dtLa_4 12 rfl) ?_
  have hcw := hcu1
  have hsw := hsu1
  refine z_perm (ws := (fmL Tx (g, G.2) M1 ++ ((o, .inl (G.2.2.1 1, 1, .inr (.inl f1))) :: fmL Tm (g2, G.2) M2))) (wpermW _ _ _) ?_
  refine la_ref C (pc := 393) (As := [.int (xs (t + 1))]) (st := []) cvL_141 (by decide +kernel) rfl rfl (Nat.le_of_ble_eq_true rfl) (by decide) hcw hsw (fm_dec dtLa_4 13 rfl) rfl hQ (fun r2 M3 h3 => ?_)
  obtain ⟨⟨v2, rfl⟩, hI3⟩ := h3
  refine z_then1 ?_
  refine z_istore C.1 (pc := 396) (i := 6) (by decide) rfl (fm_dec dtLa_4 14 rfl) ?_
  dsimp only [List.set_cons_zero, List.set_cons_succ]
  refine z_goto C.1 (pc := 398) 1940 (by decide) (fm_dec dtLa_4 15 rfl) ?_
  exact z_perm (wpermB _ _ _) (la_fgt (kk M1 f1 M3 hI3))
set_option maxRecDepth 20000 in
theorem la_c4 {p : Program} {l : Launch} {e : Env} {s : State} {m : MethodId} {below : List Frame} {meth : Method} {c : Code} {G : fmG} {b n : Nat} {xs : Nat → Int32} {I : fmM → fmM → Prop} (hS : laS_page I) (C : laC p l s m meth c G b n xs) {g g2 : Nat → Nat} {M M2 : fmM} {f : Nat → Int64} {o t : Nat} {i : Int32} {cu su : Nat} (hi : laI n i t) (hcu : cu + 1 ≤ 601024) (hsu : su + 6 ≤ 7293034) (hcu1 : cu + 1 + 1 ≤ 601024) (hsu1 : su + 6 + 6 ≤ 7293034) (hI : I M M2) (kk : ∀ (M' : fmM) (f' : Nat → Int64) (M2' : fmM), I M' M2' → zEv p l e room_1 s m #[.ref b] below meth c G (fun q => s.heap.size ≤ q) 8 (lw_Z below #[.ref b] s) 1940 [some (.ref b), some (.ref (g 0)), some (.ref (g2 0)), some (.ref o), some (.int i), none, none, none] [] (fmL Tx (g, G.2) M' ++ ((o, .inl (G.2.2.1 1, 1, .inr (.inl f'))) :: fmL Tm (g2, G.2) M2')) (cu + 1) (su + 6)) : zEv p l e room_1 s m #[.ref b] below meth c G (fun q => s.heap.size ≤ q) 8 (lw_Z below #[.ref b] s) 401 [some (.ref b), some (.ref (g 0)), some (.ref (g2 0)), some (.ref o), some (.int i), none, none, none] [] (fmL Tx (g, G.2) M ++ ((o, .inl (G.2.2.1 1, 1, .inr (.inl f))) :: fmL Tm (g2, G.2) M2)) cu su := by
  have h0 := hS M M2 (xs (t + 1)) hI
  refine z_aloadn C.1 (pc := 401) (n := 1) 1 rfl rfl (fm_dec dtLa_4 16 rfl) ?_
  refine la_arg C (pc := 402) (v := 1) (t + 1) rfl rfl (hi 1 (by decide)) (by decide) (fm_dec dtLa_4 17 rfl) (fm_dec dtLa_4 18 rfl) (fm_dec dtLa_4 19 rfl) (fm_dec dtLa_4 20 rfl) (fm_dec dtLa_4 21 rfl) ?_
  refine z_aloadn C.1 (pc := 408) (n := 3) 3 rfl rfl (fm_dec dtLa_4 22 rfl) ?_
  have hw : pvGood Tx 250 qX10_page [.ref 0, .int (xs (t + 1))] M (wI f (fun (r : Int32) (u : fmM × (Nat → Int64)) => pvGood Tm 250 qX11_page [.ref 0, .int (xs (t + 1))] M2 (fun r2 M2' => tI r2 ∧ I u.1 M2')) (fun E M' => (E = fmIAE ∧ (fun (r : Int32) (u : fmM × (Nat → Int64)) => pvGood Tm 250 qX11_page [.ref 0, .int (xs (t + 1))] M2 (fun r2 M2' => tI r2 ∧ I u.1 M2')) 1 (M', f)))) := h0.imp (fun r9 M9 h9 => by
    obtain ⟨h8, h2⟩ := h9
    rcases h8 with ⟨v, rfl⟩ | ⟨h6, rfl⟩ | ⟨h6, rfl⟩
    · exact h2
    · exact ⟨rfl, h2⟩
    · exact absurd h6 (by decide))
  refine z_callW C.1 (y' := qL_page) (hh := [(0, 9, 12, 13)]) (W0 := WX G g o (fmL Tm (g2, G.2) M2) (M, f)) (WW := WX G g o (fmL Tm (g2, G.2) M2)) (Q := fun (r : Int32) (u : fmM × (Nat → Int64)) => pvGood Tm 250 qX11_page [.ref 0, .int (xs (t + 1))] M2 (fun r2 M2' => tI r2 ∧ I u.1 M2')) (As := [.ref (g 0), .int (xs (t + 1)), .ref o]) (st := []) (pc := 409) (fm_c4 175 (by eq_refl) rfl) nst_L_page niL nw_L_page nd_L_page rfl rfl (by decide) (show 311 ≤ room_1.frames by decide) (show 8 + (4 + 11) + 18200 ≤ room_1.locals by decide) (rm_c hcu) (rm_s hsu) (fm_dec dtLa_4 23 rfl) (w_page C.2.2.2.2.2 hw) (fun r u hQ => ?_)
  obtain ⟨M1, f1⟩ := u
  refine z_istore C.1 (pc := 412) (i := 5) (by decide) rfl (fm_dec dtLa_4 24 rfl) ?_
  dsimp only [List.set_cons_zero, List.set_cons_succ]
  refine z_aloadn C.1 (pc := 414) (n := 2) 2 rfl rfl (fm_dec dtLa_4 25 rfl) ?_
  refine la_arg C (pc := 415) (v := 1) (t + 1) rfl rfl (hi 1 (by decide)) (by decide) (fm_dec dtLa_4 26 rfl) (fm_dec dtLa_4 27 rfl) (fm_dec dtLa_4 28 rfl) (fm_dec dtLa_4 29 rfl) (fm_dec dtLa_5 0 rfl) ?_
  have hcw := hcu1
  have hsw := hsu1
  refine z_perm (ws := (fmL Tx (g, G.2) M1 ++ ((o, .inl (G.2.2.1 1, 1, .inr (.inl f1))) :: fmL Tm (g2, G.2) M2))) (wpermW _ _ _) ?_
  refine la_ref C (pc := 421) (As := [.int (xs (t + 1))]) (st := []) cvL_144 (by decide +kernel) rfl rfl (Nat.le_of_ble_eq_true rfl) (by decide) hcw hsw (fm_dec dtLa_5 1 rfl) rfl hQ (fun r2 M3 h3 => ?_)
  obtain ⟨⟨v2, rfl⟩, hI3⟩ := h3
  refine z_then1 ?_
  refine z_istore C.1 (pc := 424) (i := 6) (by decide) rfl (fm_dec dtLa_5 2 rfl) ?_
  dsimp only [List.set_cons_zero, List.set_cons_succ]
  refine z_goto C.1 (pc := 426) 1940 (by decide) (fm_dec dtLa_5 3 rfl) ?_
  exact z_perm (wpermB _ _ _) (la_fgt (kk M1 f1 M3 hI3))
set_option maxRecDepth 20000 in
theorem la_c5 {p : Program} {l : Launch} {e : Env} {s : State} {m : MethodId} {below : List Frame} {meth : Method} {c : Code} {G : fmG} {b n : Nat} {xs : Nat → Int32} {I : fmM → fmM → Prop} (hS : laS_fault I) (C : laC p l s m meth c G b n xs) {g g2 : Nat → Nat} {M M2 : fmM} {f : Nat → Int64} {o t : Nat} {i : Int32} {cu su : Nat} (hi : laI n i t) (hcu : cu + 1 ≤ 601024) (hsu : su + 6 ≤ 7293034) (hcu1 : cu + 1 + 1 ≤ 601024) (hsu1 : su + 6 + 6 ≤ 7293034) (hI : I M M2) (kk : ∀ (M' : fmM) (f' : Nat → Int64) (M2' : fmM), I M' M2' → zEv p l e room_1 s m #[.ref b] below meth c G (fun q => s.heap.size ≤ q) 8 (lw_Z below #[.ref b] s) 1940 [some (.ref b), some (.ref (g 0)), some (.ref (g2 0)), some (.ref o), some (.int i), none, none, none] [] (fmL Tx (g, G.2) M' ++ ((o, .inl (G.2.2.1 1, 1, .inr (.inl f'))) :: fmL Tm (g2, G.2) M2')) (cu + 1) (su + 6)) : zEv p l e room_1 s m #[.ref b] below meth c G (fun q => s.heap.size ≤ q) 8 (lw_Z below #[.ref b] s) 429 [some (.ref b), some (.ref (g 0)), some (.ref (g2 0)), some (.ref o), some (.int i), none, none, none] [] (fmL Tx (g, G.2) M ++ ((o, .inl (G.2.2.1 1, 1, .inr (.inl f))) :: fmL Tm (g2, G.2) M2)) cu su := by
  have h0 := hS M M2 hI
  refine z_aloadn C.1 (pc := 429) (n := 1) 1 rfl rfl (fm_dec dtLa_5 4 rfl) ?_
  refine z_callX C.1 (T := Tx) (g := g) (M := M) (rest := (o, .inl (G.2.2.1 1, 1, .inr (.inl f))) :: fmL Tm (g2, G.2) M2) (k := 0) (ci := 10) (d' := 250) (pc := 430) (As := []) (st := []) cvL_145 (by decide) rfl rfl rfl (by decide) (rm_fr (by decide)) (rm_lo (by decide) (by decide)) (rm_c hcu) (rm_s hsu) (fm_dec dtLa_5 5 rfl) ?_
  refine fmGood.imp (pvGood.fm C.2.2.2.2.2 (by decide) (by decide +kernel) h0) (fun o9 M1 h9 => ?_)
  obtain ⟨o', rfl, h8, h2⟩ := h9
  rcases h8 with ⟨v, rfl⟩ | ⟨h8, -⟩ | ⟨h8, -⟩
  · refine z_then1 ?_
    refine z_pop C.1 (pc := 433) rfl (fm_dec dtLa_5 6 rfl) ?_
    refine z_aloadn C.1 (pc := 434) (n := 2) 2 rfl rfl (fm_dec dtLa_5 7 rfl) ?_
    have hcw := hcu
    have hsw := hsu
    refine z_perm (ws := (fmL Tx (g, G.2) M1 ++ ((o, .inl (G.2.2.1 1, 1, .inr (.inl f))) :: fmL Tm (g2, G.2) M2))) (wpermW _ _ _) ?_
    refine la_ref C (pc := 435) (As := []) (st := []) cvL_149 (by decide +kernel) rfl rfl (Nat.le_of_ble_eq_true rfl) (by decide) hcw hsw (fm_dec dtLa_5 8 rfl) rfl h2 (fun r2 M3 h3 => ?_)
    obtain ⟨⟨v2, rfl⟩, hI3⟩ := h3
    refine z_then1 ?_
    refine z_pop C.1 (pc := 438) rfl (fm_dec dtLa_5 9 rfl) ?_
    refine z_goto C.1 (pc := 439) 1940 (by decide) (fm_dec dtLa_5 10 rfl) ?_
    refine z_more (Nat.le_succ _) (Nat.le_add_right _ 6) ?_
    exact z_perm (wpermB _ _ _) (la_fgt (kk M1 f M3 hI3))
  · cases h8
  · cases h8
set_option maxRecDepth 20000 in
theorem la_c6 {p : Program} {l : Launch} {e : Env} {s : State} {m : MethodId} {below : List Frame} {meth : Method} {c : Code} {G : fmG} {b n : Nat} {xs : Nat → Int32} {I : fmM → fmM → Prop} (hS : laS_undo I) (C : laC p l s m meth c G b n xs) {g g2 : Nat → Nat} {M M2 : fmM} {f : Nat → Int64} {o t : Nat} {i : Int32} {cu su : Nat} (hi : laI n i t) (hcu : cu + 1 ≤ 601024) (hsu : su + 6 ≤ 7293034) (hcu1 : cu + 1 + 1 ≤ 601024) (hsu1 : su + 6 + 6 ≤ 7293034) (hI : I M M2) (kk : ∀ (M' : fmM) (f' : Nat → Int64) (M2' : fmM), I M' M2' → zEv p l e room_1 s m #[.ref b] below meth c G (fun q => s.heap.size ≤ q) 8 (lw_Z below #[.ref b] s) 1940 [some (.ref b), some (.ref (g 0)), some (.ref (g2 0)), some (.ref o), some (.int i), none, none, none] [] (fmL Tx (g, G.2) M' ++ ((o, .inl (G.2.2.1 1, 1, .inr (.inl f'))) :: fmL Tm (g2, G.2) M2')) (cu + 1) (su + 6)) : zEv p l e room_1 s m #[.ref b] below meth c G (fun q => s.heap.size ≤ q) 8 (lw_Z below #[.ref b] s) 442 [some (.ref b), some (.ref (g 0)), some (.ref (g2 0)), some (.ref o), some (.int i), none, none, none] [] (fmL Tx (g, G.2) M ++ ((o, .inl (G.2.2.1 1, 1, .inr (.inl f))) :: fmL Tm (g2, G.2) M2)) cu su := by
  have h0 := hS M M2 hI
  refine z_aloadn C.1 (pc := 442) (n := 1) 1 rfl rfl (fm_dec dtLa_5 11 rfl) ?_
  refine z_callX C.1 (T := Tx) (g := g) (M := M) (rest := (o, .inl (G.2.2.1 1, 1, .inr (.inl f))) :: fmL Tm (g2, G.2) M2) (k := 0) (ci := 10) (d' := 250) (pc := 443) (As := []) (st := []) cvL_150 (by decide) rfl rfl rfl (by decide) (rm_fr (by decide)) (rm_lo (by decide) (by decide)) (rm_c hcu) (rm_s hsu) (fm_dec dtLa_5 12 rfl) ?_
  refine fmGood.imp (pvGood.fm C.2.2.2.2.2 (by decide) (by decide +kernel) h0) (fun o9 M1 h9 => ?_)
  obtain ⟨o', rfl, h8, h2⟩ := h9
  rcases h8 with ⟨v, rfl⟩ | ⟨h8, -⟩ | ⟨h8, -⟩
  · refine z_then1 ?_
    refine z_pop C.1 (pc := 446) rfl (fm_dec dtLa_5 13 rfl) ?_
    refine z_aloadn C.1 (pc := 447) (n := 2) 2 rfl rfl (fm_dec dtLa_5 14 rfl) ?_
    have hcw := hcu
    have hsw := hsu
    refine z_perm (ws := (fmL Tx (g, G.2) M1 ++ ((o, .inl (G.2.2.1 1, 1, .inr (.inl f))) :: fmL Tm (g2, G.2) M2))) (wpermW _ _ _) ?_
    refine la_ref C (pc := 448) (As := []) (st := []) cvL_153 (by decide +kernel) rfl rfl (Nat.le_of_ble_eq_true rfl) (by decide) hcw hsw (fm_dec dtLa_5 15 rfl) rfl h2 (fun r2 M3 h3 => ?_)
    obtain ⟨⟨v2, rfl⟩, hI3⟩ := h3
    refine z_then1 ?_
    refine z_pop C.1 (pc := 451) rfl (fm_dec dtLa_5 16 rfl) ?_
    refine z_goto C.1 (pc := 452) 1940 (by decide) (fm_dec dtLa_5 17 rfl) ?_
    refine z_more (Nat.le_succ _) (Nat.le_add_right _ 6) ?_
    exact z_perm (wpermB _ _ _) (la_fgt (kk M1 f M3 hI3))
  · cases h8
  · cases h8
set_option maxRecDepth 20000 in
theorem la_c7 {p : Program} {l : Launch} {e : Env} {s : State} {m : MethodId} {below : List Frame} {meth : Method} {c : Code} {G : fmG} {b n : Nat} {xs : Nat → Int32} {I : fmM → fmM → Prop} (hS : laS_told I) (C : laC p l s m meth c G b n xs) {g g2 : Nat → Nat} {M M2 : fmM} {f : Nat → Int64} {o t : Nat} {i : Int32} {cu su : Nat} (hi : laI n i t) (hcu : cu + 1 ≤ 601024) (hsu : su + 6 ≤ 7293034) (hcu1 : cu + 1 + 1 ≤ 601024) (hsu1 : su + 6 + 6 ≤ 7293034) (hI : I M M2) (kk : ∀ (M' : fmM) (f' : Nat → Int64) (M2' : fmM), I M' M2' → zEv p l e room_1 s m #[.ref b] below meth c G (fun q => s.heap.size ≤ q) 8 (lw_Z below #[.ref b] s) 1940 [some (.ref b), some (.ref (g 0)), some (.ref (g2 0)), some (.ref o), some (.int i), none, none, none] [] (fmL Tx (g, G.2) M' ++ ((o, .inl (G.2.2.1 1, 1, .inr (.inl f'))) :: fmL Tm (g2, G.2) M2')) (cu + 1) (su + 6)) : zEv p l e room_1 s m #[.ref b] below meth c G (fun q => s.heap.size ≤ q) 8 (lw_Z below #[.ref b] s) 455 [some (.ref b), some (.ref (g 0)), some (.ref (g2 0)), some (.ref o), some (.int i), none, none, none] [] (fmL Tx (g, G.2) M ++ ((o, .inl (G.2.2.1 1, 1, .inr (.inl f))) :: fmL Tm (g2, G.2) M2)) cu su := by
  have h0 := hS M M2 (xs (t + 1)) hI
  refine z_aloadn C.1 (pc := 455) (n := 1) 1 rfl rfl (fm_dec dtLa_5 18 rfl) ?_
  refine la_arg C (pc := 456) (v := 1) (t + 1) rfl rfl (hi 1 (by decide)) (by decide) (fm_dec dtLa_5 19 rfl) (fm_dec dtLa_5 20 rfl) (fm_dec dtLa_5 21 rfl) (fm_dec dtLa_5 22 rfl) (fm_dec dtLa_5 23 rfl) ?_
  refine z_aloadn C.1 (pc := 462) (n := 3) 3 rfl rfl (fm_dec dtLa_5 24 rfl) ?_
  have hw : pvGood Tx 250 qX10_told [.ref 0, .int (xs (t + 1))] M (wI f (fun (r : Int32) (u : fmM × (Nat → Int64)) => pvGood Tm 250 qX11_told [.ref 0, .int (xs (t + 1))] M2 (fun r2 M2' => tI r2 ∧ I u.1 M2')) (fun E M' => (E = fmIAE ∧ (fun (r : Int32) (u : fmM × (Nat → Int64)) => pvGood Tm 250 qX11_told [.ref 0, .int (xs (t + 1))] M2 (fun r2 M2' => tI r2 ∧ I u.1 M2')) 1 (M', f)))) := h0.imp (fun r9 M9 h9 => by
    obtain ⟨h8, h2⟩ := h9
    rcases h8 with ⟨v, rfl⟩ | ⟨h6, rfl⟩ | ⟨h6, rfl⟩
    · exact h2
    · exact ⟨rfl, h2⟩
    · exact absurd h6 (by decide))
  refine z_callW C.1 (y' := qL_told) (hh := [(0, 9, 12, 13)]) (W0 := WX G g o (fmL Tm (g2, G.2) M2) (M, f)) (WW := WX G g o (fmL Tm (g2, G.2) M2)) (Q := fun (r : Int32) (u : fmM × (Nat → Int64)) => pvGood Tm 250 qX11_told [.ref 0, .int (xs (t + 1))] M2 (fun r2 M2' => tI r2 ∧ I u.1 M2')) (As := [.ref (g 0), .int (xs (t + 1)), .ref o]) (st := []) (pc := 463) (fm_c4 198 (by eq_refl) rfl) nst_L_told niL nw_L_told nd_L_told rfl rfl (by decide) (show 311 ≤ room_1.frames by decide) (show 8 + (4 + 11) + 18200 ≤ room_1.locals by decide) (rm_c hcu) (rm_s hsu) (fm_dec dtLa_5 25 rfl) (w_told C.2.2.2.2.2 hw) (fun r u hQ => ?_)
  obtain ⟨M1, f1⟩ := u
  refine z_istore C.1 (pc := 466) (i := 5) (by decide) rfl (fm_dec dtLa_5 26 rfl) ?_
  dsimp only [List.set_cons_zero, List.set_cons_succ]
  refine z_aloadn C.1 (pc := 468) (n := 2) 2 rfl rfl (fm_dec dtLa_5 27 rfl) ?_
  refine la_arg C (pc := 469) (v := 1) (t + 1) rfl rfl (hi 1 (by decide)) (by decide) (fm_dec dtLa_5 28 rfl) (fm_dec dtLa_5 29 rfl) (fm_dec dtLa_6 0 rfl) (fm_dec dtLa_6 1 rfl) (fm_dec dtLa_6 2 rfl) ?_
  have hcw := hcu1
  have hsw := hsu1
  refine z_perm (ws := (fmL Tx (g, G.2) M1 ++ ((o, .inl (G.2.2.1 1, 1, .inr (.inl f1))) :: fmL Tm (g2, G.2) M2))) (wpermW _ _ _) ?_
  refine la_ref C (pc := 475) (As := [.int (xs (t + 1))]) (st := []) cvL_156 (by decide +kernel) rfl rfl (Nat.le_of_ble_eq_true rfl) (by decide) hcw hsw (fm_dec dtLa_6 3 rfl) rfl hQ (fun r2 M3 h3 => ?_)
  obtain ⟨⟨v2, rfl⟩, hI3⟩ := h3
  refine z_then1 ?_
  refine z_istore C.1 (pc := 478) (i := 6) (by decide) rfl (fm_dec dtLa_6 4 rfl) ?_
  dsimp only [List.set_cons_zero, List.set_cons_succ]
  refine z_goto C.1 (pc := 480) 1940 (by decide) (fm_dec dtLa_6 5 rfl) ?_
  exact z_perm (wpermB _ _ _) (la_fgt (kk M1 f1 M3 hI3))
set_option maxRecDepth 20000 in
theorem la_c8 {p : Program} {l : Launch} {e : Env} {s : State} {m : MethodId} {below : List Frame} {meth : Method} {c : Code} {G : fmG} {b n : Nat} {xs : Nat → Int32} {I : fmM → fmM → Prop} (hS : laS_life I) (C : laC p l s m meth c G b n xs) {g g2 : Nat → Nat} {M M2 : fmM} {f : Nat → Int64} {o t : Nat} {i : Int32} {cu su : Nat} (hi : laI n i t) (hcu : cu + 1 ≤ 601024) (hsu : su + 6 ≤ 7293034) (hcu1 : cu + 1 + 1 ≤ 601024) (hsu1 : su + 6 + 6 ≤ 7293034) (hI : I M M2) (kk : ∀ (M' : fmM) (f' : Nat → Int64) (M2' : fmM), I M' M2' → zEv p l e room_1 s m #[.ref b] below meth c G (fun q => s.heap.size ≤ q) 8 (lw_Z below #[.ref b] s) 1940 [some (.ref b), some (.ref (g 0)), some (.ref (g2 0)), some (.ref o), some (.int i), none, none, none] [] (fmL Tx (g, G.2) M' ++ ((o, .inl (G.2.2.1 1, 1, .inr (.inl f'))) :: fmL Tm (g2, G.2) M2')) (cu + 1) (su + 6)) : zEv p l e room_1 s m #[.ref b] below meth c G (fun q => s.heap.size ≤ q) 8 (lw_Z below #[.ref b] s) 483 [some (.ref b), some (.ref (g 0)), some (.ref (g2 0)), some (.ref o), some (.int i), none, none, none] [] (fmL Tx (g, G.2) M ++ ((o, .inl (G.2.2.1 1, 1, .inr (.inl f))) :: fmL Tm (g2, G.2) M2)) cu su := by
  have h0 := hS M M2 (xs (t + 1)) (xs (t + 2)) hI
  refine z_aloadn C.1 (pc := 483) (n := 1) 1 rfl rfl (fm_dec dtLa_6 6 rfl) ?_
  refine la_arg C (pc := 484) (v := 1) (t + 1) rfl rfl (hi 1 (by decide)) (by decide) (fm_dec dtLa_6 7 rfl) (fm_dec dtLa_6 8 rfl) (fm_dec dtLa_6 9 rfl) (fm_dec dtLa_6 10 rfl) (fm_dec dtLa_6 11 rfl) ?_
  refine la_arg C (pc := 490) (v := 2) (t + 2) rfl rfl (hi 2 (by decide)) (by decide) (fm_dec dtLa_6 12 rfl) (fm_dec dtLa_6 13 rfl) (fm_dec dtLa_6 14 rfl) (fm_dec dtLa_6 15 rfl) (fm_dec dtLa_6 16 rfl) ?_
  refine z_aloadn C.1 (pc := 496) (n := 3) 3 rfl rfl (fm_dec dtLa_6 17 rfl) ?_
  have hw : pvGood Tx 250 qX10_life [.ref 0, .int (xs (t + 1)), .int (xs (t + 2))] M (wI f (fun (r : Int32) (u : fmM × (Nat → Int64)) => pvGood Tm 250 qX11_life [.ref 0, .int (xs (t + 1)), .int (xs (t + 2))] M2 (fun r2 M2' => tI r2 ∧ I u.1 M2')) (fun E M' => (E = fmNSE ∧ (fun (r : Int32) (u : fmM × (Nat → Int64)) => pvGood Tm 250 qX11_life [.ref 0, .int (xs (t + 1)), .int (xs (t + 2))] M2 (fun r2 M2' => tI r2 ∧ I u.1 M2')) 1 (M', f)) ∨ (E = fmIAE ∧ (fun (r : Int32) (u : fmM × (Nat → Int64)) => pvGood Tm 250 qX11_life [.ref 0, .int (xs (t + 1)), .int (xs (t + 2))] M2 (fun r2 M2' => tI r2 ∧ I u.1 M2')) 2 (M', f)))) := h0.imp (fun r9 M9 h9 => by
    obtain ⟨h8, h2⟩ := h9
    rcases h8 with ⟨v, rfl⟩ | ⟨-, rfl⟩ | ⟨-, rfl⟩
    · exact h2
    · exact Or.inr ⟨rfl, h2⟩
    · exact Or.inl ⟨rfl, h2⟩)
  refine z_callW C.1 (y' := qL_life) (hh := [(0, 10, 13, 31), (0, 10, 17, 13)]) (W0 := WX G g o (fmL Tm (g2, G.2) M2) (M, f)) (WW := WX G g o (fmL Tm (g2, G.2) M2)) (Q := fun (r : Int32) (u : fmM × (Nat → Int64)) => pvGood Tm 250 qX11_life [.ref 0, .int (xs (t + 1)), .int (xs (t + 2))] M2 (fun r2 M2' => tI r2 ∧ I u.1 M2')) (As := [.ref (g 0), .int (xs (t + 1)), .int (xs (t + 2)), .ref o]) (st := []) (pc := 497) (fm_c4 210 (by eq_refl) rfl) nst_L_life niL nw_L_life nd_L_life rfl rfl (by decide) (show 311 ≤ room_1.frames by decide) (show 8 + (5 + 11) + 18200 ≤ room_1.locals by decide) (rm_c hcu) (rm_s hsu) (fm_dec dtLa_6 18 rfl) (w_life C.2.2.2.2.2 hw) (fun r u hQ => ?_)
  obtain ⟨M1, f1⟩ := u
  refine z_istore C.1 (pc := 500) (i := 5) (by decide) rfl (fm_dec dtLa_6 19 rfl) ?_
  dsimp only [List.set_cons_zero, List.set_cons_succ]
  refine z_aloadn C.1 (pc := 502) (n := 2) 2 rfl rfl (fm_dec dtLa_6 20 rfl) ?_
  refine la_arg C (pc := 503) (v := 1) (t + 1) rfl rfl (hi 1 (by decide)) (by decide) (fm_dec dtLa_6 21 rfl) (fm_dec dtLa_6 22 rfl) (fm_dec dtLa_6 23 rfl) (fm_dec dtLa_6 24 rfl) (fm_dec dtLa_6 25 rfl) ?_
  refine la_arg C (pc := 509) (v := 2) (t + 2) rfl rfl (hi 2 (by decide)) (by decide) (fm_dec dtLa_6 26 rfl) (fm_dec dtLa_6 27 rfl) (fm_dec dtLa_6 28 rfl) (fm_dec dtLa_6 29 rfl) (fm_dec dtLa_7 0 rfl) ?_
  have hcw := hcu1
  have hsw := hsu1
  refine z_perm (ws := (fmL Tx (g, G.2) M1 ++ ((o, .inl (G.2.2.1 1, 1, .inr (.inl f1))) :: fmL Tm (g2, G.2) M2))) (wpermW _ _ _) ?_
  refine la_ref C (pc := 515) (As := [.int (xs (t + 1)), .int (xs (t + 2))]) (st := []) cvL_160 (by decide +kernel) rfl rfl (Nat.le_of_ble_eq_true rfl) (by decide) hcw hsw (fm_dec dtLa_7 1 rfl) rfl hQ (fun r2 M3 h3 => ?_)
  obtain ⟨⟨v2, rfl⟩, hI3⟩ := h3
  refine z_then1 ?_
  refine z_istore C.1 (pc := 518) (i := 6) (by decide) rfl (fm_dec dtLa_7 2 rfl) ?_
  dsimp only [List.set_cons_zero, List.set_cons_succ]
  refine z_goto C.1 (pc := 520) 1940 (by decide) (fm_dec dtLa_7 3 rfl) ?_
  exact z_perm (wpermB _ _ _) (la_fgt (kk M1 f1 M3 hI3))
set_option maxRecDepth 20000 in
theorem la_c9 {p : Program} {l : Launch} {e : Env} {s : State} {m : MethodId} {below : List Frame} {meth : Method} {c : Code} {G : fmG} {b n : Nat} {xs : Nat → Int32} {I : fmM → fmM → Prop} (hS : laS_facts I) (C : laC p l s m meth c G b n xs) {g g2 : Nat → Nat} {M M2 : fmM} {f : Nat → Int64} {o t : Nat} {i : Int32} {cu su : Nat} (hi : laI n i t) (hcu : cu + 1 ≤ 601024) (hsu : su + 6 ≤ 7293034) (hcu1 : cu + 1 + 1 ≤ 601024) (hsu1 : su + 6 + 6 ≤ 7293034) (hI : I M M2) (kk : ∀ (M' : fmM) (f' : Nat → Int64) (M2' : fmM), I M' M2' → zEv p l e room_1 s m #[.ref b] below meth c G (fun q => s.heap.size ≤ q) 8 (lw_Z below #[.ref b] s) 1940 [some (.ref b), some (.ref (g 0)), some (.ref (g2 0)), some (.ref o), some (.int i), none, none, none] [] (fmL Tx (g, G.2) M' ++ ((o, .inl (G.2.2.1 1, 1, .inr (.inl f'))) :: fmL Tm (g2, G.2) M2')) (cu + 1) (su + 6)) : zEv p l e room_1 s m #[.ref b] below meth c G (fun q => s.heap.size ≤ q) 8 (lw_Z below #[.ref b] s) 523 [some (.ref b), some (.ref (g 0)), some (.ref (g2 0)), some (.ref o), some (.int i), none, none, none] [] (fmL Tx (g, G.2) M ++ ((o, .inl (G.2.2.1 1, 1, .inr (.inl f))) :: fmL Tm (g2, G.2) M2)) cu su := by
  have h0 := hS M M2 (xs (t + 1)) hI
  refine z_aloadn C.1 (pc := 523) (n := 1) 1 rfl rfl (fm_dec dtLa_7 4 rfl) ?_
  refine la_arg C (pc := 524) (v := 1) (t + 1) rfl rfl (hi 1 (by decide)) (by decide) (fm_dec dtLa_7 5 rfl) (fm_dec dtLa_7 6 rfl) (fm_dec dtLa_7 7 rfl) (fm_dec dtLa_7 8 rfl) (fm_dec dtLa_7 9 rfl) ?_
  refine z_aloadn C.1 (pc := 530) (n := 3) 3 rfl rfl (fm_dec dtLa_7 10 rfl) ?_
  have hw : pvGood Tx 250 qX10_facts [.ref 0, .int (xs (t + 1))] M (wI f (fun (r : Int32) (u : fmM × (Nat → Int64)) => pvGood Tm 250 qX11_facts [.ref 0, .int (xs (t + 1))] M2 (fun r2 M2' => tI r2 ∧ I u.1 M2')) (fun E M' => (E = fmNSE ∧ (fun (r : Int32) (u : fmM × (Nat → Int64)) => pvGood Tm 250 qX11_facts [.ref 0, .int (xs (t + 1))] M2 (fun r2 M2' => tI r2 ∧ I u.1 M2')) 1 (M', f)))) := h0.imp (fun r9 M9 h9 => by
    obtain ⟨h8, h2⟩ := h9
    rcases h8 with ⟨v, rfl⟩ | ⟨h6, rfl⟩ | ⟨h6, rfl⟩
    · exact h2
    · exact absurd h6 (by decide)
    · exact ⟨rfl, h2⟩)
  refine z_callW C.1 (y' := qL_facts) (hh := [(0, 9, 12, 31)]) (W0 := WX G g o (fmL Tm (g2, G.2) M2) (M, f)) (WW := WX G g o (fmL Tm (g2, G.2) M2)) (Q := fun (r : Int32) (u : fmM × (Nat → Int64)) => pvGood Tm 250 qX11_facts [.ref 0, .int (xs (t + 1))] M2 (fun r2 M2' => tI r2 ∧ I u.1 M2')) (As := [.ref (g 0), .int (xs (t + 1)), .ref o]) (st := []) (pc := 531) (fm_c5 0 (by eq_refl) rfl) nst_L_facts niL nw_L_facts nd_L_facts rfl rfl (by decide) (show 311 ≤ room_1.frames by decide) (show 8 + (4 + 11) + 18200 ≤ room_1.locals by decide) (rm_c hcu) (rm_s hsu) (fm_dec dtLa_7 11 rfl) (w_facts C.2.2.2.2.2 hw) (fun r u hQ => ?_)
  obtain ⟨M1, f1⟩ := u
  refine z_istore C.1 (pc := 534) (i := 5) (by decide) rfl (fm_dec dtLa_7 12 rfl) ?_
  dsimp only [List.set_cons_zero, List.set_cons_succ]
  refine z_aloadn C.1 (pc := 536) (n := 2) 2 rfl rfl (fm_dec dtLa_7 13 rfl) ?_
  refine la_arg C (pc := 537) (v := 1) (t + 1) rfl rfl (hi 1 (by decide)) (by decide) (fm_dec dtLa_7 14 rfl) (fm_dec dtLa_7 15 rfl) (fm_dec dtLa_7 16 rfl) (fm_dec dtLa_7 17 rfl) (fm_dec dtLa_7 18 rfl) ?_
  have hcw := hcu1
  have hsw := hsu1
  refine z_perm (ws := (fmL Tx (g, G.2) M1 ++ ((o, .inl (G.2.2.1 1, 1, .inr (.inl f1))) :: fmL Tm (g2, G.2) M2))) (wpermW _ _ _) ?_
  refine la_ref C (pc := 543) (As := [.int (xs (t + 1))]) (st := []) cvL_163 (by decide +kernel) rfl rfl (Nat.le_of_ble_eq_true rfl) (by decide) hcw hsw (fm_dec dtLa_7 19 rfl) rfl hQ (fun r2 M3 h3 => ?_)
  obtain ⟨⟨v2, rfl⟩, hI3⟩ := h3
  refine z_then1 ?_
  refine z_istore C.1 (pc := 546) (i := 6) (by decide) rfl (fm_dec dtLa_7 20 rfl) ?_
  dsimp only [List.set_cons_zero, List.set_cons_succ]
  refine z_goto C.1 (pc := 548) 1940 (by decide) (fm_dec dtLa_7 21 rfl) ?_
  exact z_perm (wpermB _ _ _) (la_fgt (kk M1 f1 M3 hI3))
set_option maxRecDepth 20000 in
theorem la_c10 {p : Program} {l : Launch} {e : Env} {s : State} {m : MethodId} {below : List Frame} {meth : Method} {c : Code} {G : fmG} {b n : Nat} {xs : Nat → Int32} {I : fmM → fmM → Prop} (hS : laS_wrong I) (C : laC p l s m meth c G b n xs) {g g2 : Nat → Nat} {M M2 : fmM} {f : Nat → Int64} {o t : Nat} {i : Int32} {cu su : Nat} (hi : laI n i t) (hcu : cu + 1 ≤ 601024) (hsu : su + 6 ≤ 7293034) (hcu1 : cu + 1 + 1 ≤ 601024) (hsu1 : su + 6 + 6 ≤ 7293034) (hI : I M M2) (kk : ∀ (M' : fmM) (f' : Nat → Int64) (M2' : fmM), I M' M2' → zEv p l e room_1 s m #[.ref b] below meth c G (fun q => s.heap.size ≤ q) 8 (lw_Z below #[.ref b] s) 1940 [some (.ref b), some (.ref (g 0)), some (.ref (g2 0)), some (.ref o), some (.int i), none, none, none] [] (fmL Tx (g, G.2) M' ++ ((o, .inl (G.2.2.1 1, 1, .inr (.inl f'))) :: fmL Tm (g2, G.2) M2')) (cu + 1) (su + 6)) : zEv p l e room_1 s m #[.ref b] below meth c G (fun q => s.heap.size ≤ q) 8 (lw_Z below #[.ref b] s) 551 [some (.ref b), some (.ref (g 0)), some (.ref (g2 0)), some (.ref o), some (.int i), none, none, none] [] (fmL Tx (g, G.2) M ++ ((o, .inl (G.2.2.1 1, 1, .inr (.inl f))) :: fmL Tm (g2, G.2) M2)) cu su := by
  have h0 := hS M M2 (xs (t + 1)) hI
  refine z_aloadn C.1 (pc := 551) (n := 1) 1 rfl rfl (fm_dec dtLa_7 22 rfl) ?_
  refine la_arg C (pc := 552) (v := 1) (t + 1) rfl rfl (hi 1 (by decide)) (by decide) (fm_dec dtLa_7 23 rfl) (fm_dec dtLa_7 24 rfl) (fm_dec dtLa_7 25 rfl) (fm_dec dtLa_7 26 rfl) (fm_dec dtLa_7 27 rfl) ?_
  refine z_aloadn C.1 (pc := 558) (n := 3) 3 rfl rfl (fm_dec dtLa_7 28 rfl) ?_
  have hw : pvGood Tx 250 qX10_wrong [.ref 0, .int (xs (t + 1))] M (wI f (fun (r : Int32) (u : fmM × (Nat → Int64)) => pvGood Tm 250 qX11_wrong [.ref 0, .int (xs (t + 1))] M2 (fun r2 M2' => tI r2 ∧ I u.1 M2')) (fun E M' => (E = fmNSE ∧ (fun (r : Int32) (u : fmM × (Nat → Int64)) => pvGood Tm 250 qX11_wrong [.ref 0, .int (xs (t + 1))] M2 (fun r2 M2' => tI r2 ∧ I u.1 M2')) 1 (M', f)))) := h0.imp (fun r9 M9 h9 => by
    obtain ⟨h8, h2⟩ := h9
    rcases h8 with ⟨v, rfl⟩ | ⟨h6, rfl⟩ | ⟨h6, rfl⟩
    · exact h2
    · exact absurd h6 (by decide)
    · exact ⟨rfl, h2⟩)
  refine z_callW C.1 (y' := qL_wrong) (hh := [(0, 9, 12, 31)]) (W0 := WX G g o (fmL Tm (g2, G.2) M2) (M, f)) (WW := WX G g o (fmL Tm (g2, G.2) M2)) (Q := fun (r : Int32) (u : fmM × (Nat → Int64)) => pvGood Tm 250 qX11_wrong [.ref 0, .int (xs (t + 1))] M2 (fun r2 M2' => tI r2 ∧ I u.1 M2')) (As := [.ref (g 0), .int (xs (t + 1)), .ref o]) (st := []) (pc := 559) (fm_c5 7 (by eq_refl) rfl) nst_L_wrong niL nw_L_wrong nd_L_wrong rfl rfl (by decide) (show 311 ≤ room_1.frames by decide) (show 8 + (4 + 11) + 18200 ≤ room_1.locals by decide) (rm_c hcu) (rm_s hsu) (fm_dec dtLa_7 29 rfl) (w_wrong C.2.2.2.2.2 hw) (fun r u hQ => ?_)
  obtain ⟨M1, f1⟩ := u
  refine z_istore C.1 (pc := 562) (i := 5) (by decide) rfl (fm_dec dtLa_8 0 rfl) ?_
  dsimp only [List.set_cons_zero, List.set_cons_succ]
  refine z_aloadn C.1 (pc := 564) (n := 2) 2 rfl rfl (fm_dec dtLa_8 1 rfl) ?_
  refine la_arg C (pc := 565) (v := 1) (t + 1) rfl rfl (hi 1 (by decide)) (by decide) (fm_dec dtLa_8 2 rfl) (fm_dec dtLa_8 3 rfl) (fm_dec dtLa_8 4 rfl) (fm_dec dtLa_8 5 rfl) (fm_dec dtLa_8 6 rfl) ?_
  have hcw := hcu1
  have hsw := hsu1
  refine z_perm (ws := (fmL Tx (g, G.2) M1 ++ ((o, .inl (G.2.2.1 1, 1, .inr (.inl f1))) :: fmL Tm (g2, G.2) M2))) (wpermW _ _ _) ?_
  refine la_ref C (pc := 571) (As := [.int (xs (t + 1))]) (st := []) cvL_166 (by decide +kernel) rfl rfl (Nat.le_of_ble_eq_true rfl) (by decide) hcw hsw (fm_dec dtLa_8 7 rfl) rfl hQ (fun r2 M3 h3 => ?_)
  obtain ⟨⟨v2, rfl⟩, hI3⟩ := h3
  refine z_then1 ?_
  refine z_istore C.1 (pc := 574) (i := 6) (by decide) rfl (fm_dec dtLa_8 8 rfl) ?_
  dsimp only [List.set_cons_zero, List.set_cons_succ]
  refine z_goto C.1 (pc := 576) 1940 (by decide) (fm_dec dtLa_8 9 rfl) ?_
  exact z_perm (wpermB _ _ _) (la_fgt (kk M1 f1 M3 hI3))
set_option maxRecDepth 20000 in
theorem la_c11 {p : Program} {l : Launch} {e : Env} {s : State} {m : MethodId} {below : List Frame} {meth : Method} {c : Code} {G : fmG} {b n : Nat} {xs : Nat → Int32} {I : fmM → fmM → Prop} (hS : laS_would I) (C : laC p l s m meth c G b n xs) {g g2 : Nat → Nat} {M M2 : fmM} {f : Nat → Int64} {o t : Nat} {i : Int32} {cu su : Nat} (hi : laI n i t) (hcu : cu + 1 ≤ 601024) (hsu : su + 6 ≤ 7293034) (hcu1 : cu + 1 + 1 ≤ 601024) (hsu1 : su + 6 + 6 ≤ 7293034) (hI : I M M2) (kk : ∀ (M' : fmM) (f' : Nat → Int64) (M2' : fmM), I M' M2' → zEv p l e room_1 s m #[.ref b] below meth c G (fun q => s.heap.size ≤ q) 8 (lw_Z below #[.ref b] s) 1940 [some (.ref b), some (.ref (g 0)), some (.ref (g2 0)), some (.ref o), some (.int i), none, none, none] [] (fmL Tx (g, G.2) M' ++ ((o, .inl (G.2.2.1 1, 1, .inr (.inl f'))) :: fmL Tm (g2, G.2) M2')) (cu + 1) (su + 6)) : zEv p l e room_1 s m #[.ref b] below meth c G (fun q => s.heap.size ≤ q) 8 (lw_Z below #[.ref b] s) 579 [some (.ref b), some (.ref (g 0)), some (.ref (g2 0)), some (.ref o), some (.int i), none, none, none] [] (fmL Tx (g, G.2) M ++ ((o, .inl (G.2.2.1 1, 1, .inr (.inl f))) :: fmL Tm (g2, G.2) M2)) cu su := by
  have h0 := hS M M2 (xs (t + 1)) (xs (t + 2)) (xs (t + 3)) (xs (t + 4)) (xs (t + 5)) hI
  refine z_aloadn C.1 (pc := 579) (n := 1) 1 rfl rfl (fm_dec dtLa_8 10 rfl) ?_
  refine la_arg C (pc := 580) (v := 1) (t + 1) rfl rfl (hi 1 (by decide)) (by decide) (fm_dec dtLa_8 11 rfl) (fm_dec dtLa_8 12 rfl) (fm_dec dtLa_8 13 rfl) (fm_dec dtLa_8 14 rfl) (fm_dec dtLa_8 15 rfl) ?_
  refine la_arg C (pc := 586) (v := 2) (t + 2) rfl rfl (hi 2 (by decide)) (by decide) (fm_dec dtLa_8 16 rfl) (fm_dec dtLa_8 17 rfl) (fm_dec dtLa_8 18 rfl) (fm_dec dtLa_8 19 rfl) (fm_dec dtLa_8 20 rfl) ?_
  refine la_arg C (pc := 592) (v := 3) (t + 3) rfl rfl (hi 3 (by decide)) (by decide) (fm_dec dtLa_8 21 rfl) (fm_dec dtLa_8 22 rfl) (fm_dec dtLa_8 23 rfl) (fm_dec dtLa_8 24 rfl) (fm_dec dtLa_8 25 rfl) ?_
  refine la_arg C (pc := 598) (v := 4) (t + 4) rfl rfl (hi 4 (by decide)) (by decide) (fm_dec dtLa_8 26 rfl) (fm_dec dtLa_8 27 rfl) (fm_dec dtLa_8 28 rfl) (fm_dec dtLa_8 29 rfl) (fm_dec dtLa_9 0 rfl) ?_
  refine la_arg C (pc := 604) (v := 5) (t + 5) rfl rfl (hi 5 (by decide)) (by decide) (fm_dec dtLa_9 1 rfl) (fm_dec dtLa_9 2 rfl) (fm_dec dtLa_9 3 rfl) (fm_dec dtLa_9 4 rfl) (fm_dec dtLa_9 5 rfl) ?_
  refine z_aloadn C.1 (pc := 610) (n := 3) 3 rfl rfl (fm_dec dtLa_9 6 rfl) ?_
  have hw : pvGood Tx 250 qX10_would [.ref 0, .int (xs (t + 1)), .int (xs (t + 2)), .int (xs (t + 3)), .int (xs (t + 4)), .int (xs (t + 5))] M (wI f (fun (r : Int32) (u : fmM × (Nat → Int64)) => pvGood Tm 250 qX11_would [.ref 0, .int (xs (t + 1)), .int (xs (t + 2)), .int (xs (t + 3)), .int (xs (t + 4)), .int (xs (t + 5))] M2 (fun r2 M2' => tI r2 ∧ I u.1 M2')) (fun E M' => (E = fmIAE ∧ (fun (r : Int32) (u : fmM × (Nat → Int64)) => pvGood Tm 250 qX11_would [.ref 0, .int (xs (t + 1)), .int (xs (t + 2)), .int (xs (t + 3)), .int (xs (t + 4)), .int (xs (t + 5))] M2 (fun r2 M2' => tI r2 ∧ I u.1 M2')) 1 (M', f)))) := h0.imp (fun r9 M9 h9 => by
    obtain ⟨h8, h2⟩ := h9
    rcases h8 with ⟨v, rfl⟩ | ⟨h6, rfl⟩ | ⟨h6, rfl⟩
    · exact h2
    · exact ⟨rfl, h2⟩
    · exact absurd h6 (by decide))
  refine z_callW C.1 (y' := qL_would) (hh := [(0, 16, 19, 13)]) (W0 := WX G g o (fmL Tm (g2, G.2) M2) (M, f)) (WW := WX G g o (fmL Tm (g2, G.2) M2)) (Q := fun (r : Int32) (u : fmM × (Nat → Int64)) => pvGood Tm 250 qX11_would [.ref 0, .int (xs (t + 1)), .int (xs (t + 2)), .int (xs (t + 3)), .int (xs (t + 4)), .int (xs (t + 5))] M2 (fun r2 M2' => tI r2 ∧ I u.1 M2')) (As := [.ref (g 0), .int (xs (t + 1)), .int (xs (t + 2)), .int (xs (t + 3)), .int (xs (t + 4)), .int (xs (t + 5)), .ref o]) (st := []) (pc := 611) (fm_c5 15 (by eq_refl) rfl) nst_L_would niL nw_L_would nd_L_would rfl rfl (by decide) (show 311 ≤ room_1.frames by decide) (show 8 + (8 + 11) + 18200 ≤ room_1.locals by decide) (rm_c hcu) (rm_s hsu) (fm_dec dtLa_9 7 rfl) (w_would C.2.2.2.2.2 hw) (fun r u hQ => ?_)
  obtain ⟨M1, f1⟩ := u
  refine z_istore C.1 (pc := 614) (i := 5) (by decide) rfl (fm_dec dtLa_9 8 rfl) ?_
  dsimp only [List.set_cons_zero, List.set_cons_succ]
  refine z_aloadn C.1 (pc := 616) (n := 2) 2 rfl rfl (fm_dec dtLa_9 9 rfl) ?_
  refine la_arg C (pc := 617) (v := 1) (t + 1) rfl rfl (hi 1 (by decide)) (by decide) (fm_dec dtLa_9 10 rfl) (fm_dec dtLa_9 11 rfl) (fm_dec dtLa_9 12 rfl) (fm_dec dtLa_9 13 rfl) (fm_dec dtLa_9 14 rfl) ?_
  refine la_arg C (pc := 623) (v := 2) (t + 2) rfl rfl (hi 2 (by decide)) (by decide) (fm_dec dtLa_9 15 rfl) (fm_dec dtLa_9 16 rfl) (fm_dec dtLa_9 17 rfl) (fm_dec dtLa_9 18 rfl) (fm_dec dtLa_9 19 rfl) ?_
  refine la_arg C (pc := 629) (v := 3) (t + 3) rfl rfl (hi 3 (by decide)) (by decide) (fm_dec dtLa_9 20 rfl) (fm_dec dtLa_9 21 rfl) (fm_dec dtLa_9 22 rfl) (fm_dec dtLa_9 23 rfl) (fm_dec dtLa_9 24 rfl) ?_
  refine la_arg C (pc := 635) (v := 4) (t + 4) rfl rfl (hi 4 (by decide)) (by decide) (fm_dec dtLa_9 25 rfl) (fm_dec dtLa_9 26 rfl) (fm_dec dtLa_9 27 rfl) (fm_dec dtLa_9 28 rfl) (fm_dec dtLa_9 29 rfl) ?_
  refine la_arg C (pc := 641) (v := 5) (t + 5) rfl rfl (hi 5 (by decide)) (by decide) (fm_dec dtLa_10 0 rfl) (fm_dec dtLa_10 1 rfl) (fm_dec dtLa_10 2 rfl) (fm_dec dtLa_10 3 rfl) (fm_dec dtLa_10 4 rfl) ?_
  have hcw := hcu1
  have hsw := hsu1
  refine z_perm (ws := (fmL Tx (g, G.2) M1 ++ ((o, .inl (G.2.2.1 1, 1, .inr (.inl f1))) :: fmL Tm (g2, G.2) M2))) (wpermW _ _ _) ?_
  refine la_ref C (pc := 647) (As := [.int (xs (t + 1)), .int (xs (t + 2)), .int (xs (t + 3)), .int (xs (t + 4)), .int (xs (t + 5))]) (st := []) cvL_170 (by decide +kernel) rfl rfl (Nat.le_of_ble_eq_true rfl) (by decide) hcw hsw (fm_dec dtLa_10 5 rfl) rfl hQ (fun r2 M3 h3 => ?_)
  obtain ⟨⟨v2, rfl⟩, hI3⟩ := h3
  refine z_then1 ?_
  refine z_istore C.1 (pc := 650) (i := 6) (by decide) rfl (fm_dec dtLa_10 6 rfl) ?_
  dsimp only [List.set_cons_zero, List.set_cons_succ]
  refine z_goto C.1 (pc := 652) 1940 (by decide) (fm_dec dtLa_10 7 rfl) ?_
  exact z_perm (wpermB _ _ _) (la_fgt (kk M1 f1 M3 hI3))
set_option maxRecDepth 20000 in
theorem la_c12 {p : Program} {l : Launch} {e : Env} {s : State} {m : MethodId} {below : List Frame} {meth : Method} {c : Code} {G : fmG} {b n : Nat} {xs : Nat → Int32} {I : fmM → fmM → Prop} (hS : laS_loss I) (C : laC p l s m meth c G b n xs) {g g2 : Nat → Nat} {M M2 : fmM} {f : Nat → Int64} {o t : Nat} {i : Int32} {cu su : Nat} (hi : laI n i t) (hcu : cu + 1 ≤ 601024) (hsu : su + 6 ≤ 7293034) (hcu1 : cu + 1 + 1 ≤ 601024) (hsu1 : su + 6 + 6 ≤ 7293034) (hI : I M M2) (kk : ∀ (M' : fmM) (f' : Nat → Int64) (M2' : fmM), I M' M2' → zEv p l e room_1 s m #[.ref b] below meth c G (fun q => s.heap.size ≤ q) 8 (lw_Z below #[.ref b] s) 1940 [some (.ref b), some (.ref (g 0)), some (.ref (g2 0)), some (.ref o), some (.int i), none, none, none] [] (fmL Tx (g, G.2) M' ++ ((o, .inl (G.2.2.1 1, 1, .inr (.inl f'))) :: fmL Tm (g2, G.2) M2')) (cu + 1) (su + 6)) : zEv p l e room_1 s m #[.ref b] below meth c G (fun q => s.heap.size ≤ q) 8 (lw_Z below #[.ref b] s) 655 [some (.ref b), some (.ref (g 0)), some (.ref (g2 0)), some (.ref o), some (.int i), none, none, none] [] (fmL Tx (g, G.2) M ++ ((o, .inl (G.2.2.1 1, 1, .inr (.inl f))) :: fmL Tm (g2, G.2) M2)) cu su := by
  have h0 := hS M M2 (xs (t + 1)) hI
  refine z_aloadn C.1 (pc := 655) (n := 1) 1 rfl rfl (fm_dec dtLa_10 8 rfl) ?_
  refine la_arg C (pc := 656) (v := 1) (t + 1) rfl rfl (hi 1 (by decide)) (by decide) (fm_dec dtLa_10 9 rfl) (fm_dec dtLa_10 10 rfl) (fm_dec dtLa_10 11 rfl) (fm_dec dtLa_10 12 rfl) (fm_dec dtLa_10 13 rfl) ?_
  refine z_aloadn C.1 (pc := 662) (n := 3) 3 rfl rfl (fm_dec dtLa_10 14 rfl) ?_
  have hw : pvGood Tx 250 qX10_loss [.ref 0, .int (xs (t + 1))] M (wJ f (fun (r : Int32) (u : fmM × (Nat → Int64)) => pvGood Tm 250 qX11_loss [.ref 0, .int (xs (t + 1))] M2 (fun r2 M2' => tJ r2 ∧ I u.1 M2')) (fun E M' => (E = fmIAE ∧ (fun (r : Int32) (u : fmM × (Nat → Int64)) => pvGood Tm 250 qX11_loss [.ref 0, .int (xs (t + 1))] M2 (fun r2 M2' => tJ r2 ∧ I u.1 M2')) 1 (M', f)))) := h0.imp (fun r9 M9 h9 => by
    obtain ⟨h8, h2⟩ := h9
    rcases h8 with ⟨v, rfl⟩ | ⟨h6, rfl⟩ | ⟨h6, rfl⟩
    · exact h2
    · exact ⟨rfl, h2⟩
    · exact absurd h6 (by decide))
  refine z_callW C.1 (y' := qL_loss) (hh := [(0, 8, 11, 13)]) (W0 := WX G g o (fmL Tm (g2, G.2) M2) (M, f)) (WW := WX G g o (fmL Tm (g2, G.2) M2)) (Q := fun (r : Int32) (u : fmM × (Nat → Int64)) => pvGood Tm 250 qX11_loss [.ref 0, .int (xs (t + 1))] M2 (fun r2 M2' => tJ r2 ∧ I u.1 M2')) (As := [.ref (g 0), .int (xs (t + 1)), .ref o]) (st := []) (pc := 663) (fm_c5 23 (by eq_refl) rfl) nst_L_loss niL nw_L_loss nd_L_loss rfl rfl (by decide) (show 311 ≤ room_1.frames by decide) (show 8 + (4 + 11) + 18200 ≤ room_1.locals by decide) (rm_c hcu) (rm_s hsu) (fm_dec dtLa_10 15 rfl) (w_loss C.2.2.2.2.2 hw) (fun r u hQ => ?_)
  obtain ⟨M1, f1⟩ := u
  refine z_istore C.1 (pc := 666) (i := 5) (by decide) rfl (fm_dec dtLa_10 16 rfl) ?_
  dsimp only [List.set_cons_zero, List.set_cons_succ]
  refine z_aloadn C.1 (pc := 668) (n := 2) 2 rfl rfl (fm_dec dtLa_10 17 rfl) ?_
  refine la_arg C (pc := 669) (v := 1) (t + 1) rfl rfl (hi 1 (by decide)) (by decide) (fm_dec dtLa_10 18 rfl) (fm_dec dtLa_10 19 rfl) (fm_dec dtLa_10 20 rfl) (fm_dec dtLa_10 21 rfl) (fm_dec dtLa_10 22 rfl) ?_
  have hcw := hcu1
  have hsw := hsu1
  refine z_perm (ws := (fmL Tx (g, G.2) M1 ++ ((o, .inl (G.2.2.1 1, 1, .inr (.inl f1))) :: fmL Tm (g2, G.2) M2))) (wpermW _ _ _) ?_
  refine la_ref C (pc := 675) (As := [.int (xs (t + 1))]) (st := []) cvL_173 (by decide +kernel) rfl rfl (Nat.le_of_ble_eq_true rfl) (by decide) hcw hsw (fm_dec dtLa_10 23 rfl) rfl hQ (fun r2 M3 h3 => ?_)
  obtain ⟨⟨v2, rfl⟩, hI3⟩ := h3
  refine z_then1 ?_
  refine z_lstore C.1 (pc := 678) (i := 6) (by decide) rfl (fm_dec dtLa_10 24 rfl) ?_
  dsimp only [List.set_cons_zero, List.set_cons_succ]
  refine z_goto C.1 (pc := 680) 1940 (by decide) (fm_dec dtLa_10 25 rfl) ?_
  exact z_perm (wpermB _ _ _) (la_fgt (kk M1 f1 M3 hI3))
set_option maxRecDepth 20000 in
theorem la_c13 {p : Program} {l : Launch} {e : Env} {s : State} {m : MethodId} {below : List Frame} {meth : Method} {c : Code} {G : fmG} {b n : Nat} {xs : Nat → Int32} {I : fmM → fmM → Prop} (hS : laS_cost I) (C : laC p l s m meth c G b n xs) {g g2 : Nat → Nat} {M M2 : fmM} {f : Nat → Int64} {o t : Nat} {i : Int32} {cu su : Nat} (hi : laI n i t) (hcu : cu + 1 ≤ 601024) (hsu : su + 6 ≤ 7293034) (hcu1 : cu + 1 + 1 ≤ 601024) (hsu1 : su + 6 + 6 ≤ 7293034) (hI : I M M2) (kk : ∀ (M' : fmM) (f' : Nat → Int64) (M2' : fmM), I M' M2' → zEv p l e room_1 s m #[.ref b] below meth c G (fun q => s.heap.size ≤ q) 8 (lw_Z below #[.ref b] s) 1940 [some (.ref b), some (.ref (g 0)), some (.ref (g2 0)), some (.ref o), some (.int i), none, none, none] [] (fmL Tx (g, G.2) M' ++ ((o, .inl (G.2.2.1 1, 1, .inr (.inl f'))) :: fmL Tm (g2, G.2) M2')) (cu + 1) (su + 6)) : zEv p l e room_1 s m #[.ref b] below meth c G (fun q => s.heap.size ≤ q) 8 (lw_Z below #[.ref b] s) 683 [some (.ref b), some (.ref (g 0)), some (.ref (g2 0)), some (.ref o), some (.int i), none, none, none] [] (fmL Tx (g, G.2) M ++ ((o, .inl (G.2.2.1 1, 1, .inr (.inl f))) :: fmL Tm (g2, G.2) M2)) cu su := by
  have h0 := hS M M2 (xs (t + 1)) (xs (t + 2)) hI
  refine z_aloadn C.1 (pc := 683) (n := 1) 1 rfl rfl (fm_dec dtLa_10 26 rfl) ?_
  refine la_arg C (pc := 684) (v := 1) (t + 1) rfl rfl (hi 1 (by decide)) (by decide) (fm_dec dtLa_10 27 rfl) (fm_dec dtLa_10 28 rfl) (fm_dec dtLa_10 29 rfl) (fm_dec dtLa_11 0 rfl) (fm_dec dtLa_11 1 rfl) ?_
  refine la_arg C (pc := 690) (v := 2) (t + 2) rfl rfl (hi 2 (by decide)) (by decide) (fm_dec dtLa_11 2 rfl) (fm_dec dtLa_11 3 rfl) (fm_dec dtLa_11 4 rfl) (fm_dec dtLa_11 5 rfl) (fm_dec dtLa_11 6 rfl) ?_
  refine z_aloadn C.1 (pc := 696) (n := 3) 3 rfl rfl (fm_dec dtLa_11 7 rfl) ?_
  have hw : pvGood Tx 250 qX10_cost [.ref 0, .int (xs (t + 1)), .int (xs (t + 2))] M (wJ f (fun (r : Int32) (u : fmM × (Nat → Int64)) => pvGood Tm 250 qX11_cost [.ref 0, .int (xs (t + 1)), .int (xs (t + 2))] M2 (fun r2 M2' => tJ r2 ∧ I u.1 M2')) (fun E M' => (E = fmNSE ∧ (fun (r : Int32) (u : fmM × (Nat → Int64)) => pvGood Tm 250 qX11_cost [.ref 0, .int (xs (t + 1)), .int (xs (t + 2))] M2 (fun r2 M2' => tJ r2 ∧ I u.1 M2')) 1 (M', f)) ∨ (E = fmIAE ∧ (fun (r : Int32) (u : fmM × (Nat → Int64)) => pvGood Tm 250 qX11_cost [.ref 0, .int (xs (t + 1)), .int (xs (t + 2))] M2 (fun r2 M2' => tJ r2 ∧ I u.1 M2')) 2 (M', f)))) := h0.imp (fun r9 M9 h9 => by
    obtain ⟨h8, h2⟩ := h9
    rcases h8 with ⟨v, rfl⟩ | ⟨-, rfl⟩ | ⟨-, rfl⟩
    · exact h2
    · exact Or.inr ⟨rfl, h2⟩
    · exact Or.inl ⟨rfl, h2⟩)
  refine z_callW C.1 (y' := qL_cost) (hh := [(0, 9, 12, 31), (0, 9, 16, 13)]) (W0 := WX G g o (fmL Tm (g2, G.2) M2) (M, f)) (WW := WX G g o (fmL Tm (g2, G.2) M2)) (Q := fun (r : Int32) (u : fmM × (Nat → Int64)) => pvGood Tm 250 qX11_cost [.ref 0, .int (xs (t + 1)), .int (xs (t + 2))] M2 (fun r2 M2' => tJ r2 ∧ I u.1 M2')) (As := [.ref (g 0), .int (xs (t + 1)), .int (xs (t + 2)), .ref o]) (st := []) (pc := 697) (fm_c5 38 (by eq_refl) rfl) nst_L_cost niL nw_L_cost nd_L_cost rfl rfl (by decide) (show 311 ≤ room_1.frames by decide) (show 8 + (5 + 11) + 18200 ≤ room_1.locals by decide) (rm_c hcu) (rm_s hsu) (fm_dec dtLa_11 8 rfl) (w_cost C.2.2.2.2.2 hw) (fun r u hQ => ?_)
  obtain ⟨M1, f1⟩ := u
  refine z_istore C.1 (pc := 700) (i := 5) (by decide) rfl (fm_dec dtLa_11 9 rfl) ?_
  dsimp only [List.set_cons_zero, List.set_cons_succ]
  refine z_aloadn C.1 (pc := 702) (n := 2) 2 rfl rfl (fm_dec dtLa_11 10 rfl) ?_
  refine la_arg C (pc := 703) (v := 1) (t + 1) rfl rfl (hi 1 (by decide)) (by decide) (fm_dec dtLa_11 11 rfl) (fm_dec dtLa_11 12 rfl) (fm_dec dtLa_11 13 rfl) (fm_dec dtLa_11 14 rfl) (fm_dec dtLa_11 15 rfl) ?_
  refine la_arg C (pc := 709) (v := 2) (t + 2) rfl rfl (hi 2 (by decide)) (by decide) (fm_dec dtLa_11 16 rfl) (fm_dec dtLa_11 17 rfl) (fm_dec dtLa_11 18 rfl) (fm_dec dtLa_11 19 rfl) (fm_dec dtLa_11 20 rfl) ?_
  have hcw := hcu1
  have hsw := hsu1
  refine z_perm (ws := (fmL Tx (g, G.2) M1 ++ ((o, .inl (G.2.2.1 1, 1, .inr (.inl f1))) :: fmL Tm (g2, G.2) M2))) (wpermW _ _ _) ?_
  refine la_ref C (pc := 715) (As := [.int (xs (t + 1)), .int (xs (t + 2))]) (st := []) cvL_176 (by decide +kernel) rfl rfl (Nat.le_of_ble_eq_true rfl) (by decide) hcw hsw (fm_dec dtLa_11 21 rfl) rfl hQ (fun r2 M3 h3 => ?_)
  obtain ⟨⟨v2, rfl⟩, hI3⟩ := h3
  refine z_then1 ?_
  refine z_lstore C.1 (pc := 718) (i := 6) (by decide) rfl (fm_dec dtLa_11 22 rfl) ?_
  dsimp only [List.set_cons_zero, List.set_cons_succ]
  refine z_goto C.1 (pc := 720) 1940 (by decide) (fm_dec dtLa_11 23 rfl) ?_
  exact z_perm (wpermB _ _ _) (la_fgt (kk M1 f1 M3 hI3))
set_option maxRecDepth 20000 in
theorem la_c14 {p : Program} {l : Launch} {e : Env} {s : State} {m : MethodId} {below : List Frame} {meth : Method} {c : Code} {G : fmG} {b n : Nat} {xs : Nat → Int32} {I : fmM → fmM → Prop} (hS : laS_risk I) (C : laC p l s m meth c G b n xs) {g g2 : Nat → Nat} {M M2 : fmM} {f : Nat → Int64} {o t : Nat} {i : Int32} {cu su : Nat} (hi : laI n i t) (hcu : cu + 1 ≤ 601024) (hsu : su + 6 ≤ 7293034) (hcu1 : cu + 1 + 1 ≤ 601024) (hsu1 : su + 6 + 6 ≤ 7293034) (hI : I M M2) (kk : ∀ (M' : fmM) (f' : Nat → Int64) (M2' : fmM), I M' M2' → zEv p l e room_1 s m #[.ref b] below meth c G (fun q => s.heap.size ≤ q) 8 (lw_Z below #[.ref b] s) 1940 [some (.ref b), some (.ref (g 0)), some (.ref (g2 0)), some (.ref o), some (.int i), none, none, none] [] (fmL Tx (g, G.2) M' ++ ((o, .inl (G.2.2.1 1, 1, .inr (.inl f'))) :: fmL Tm (g2, G.2) M2')) (cu + 1) (su + 6)) : zEv p l e room_1 s m #[.ref b] below meth c G (fun q => s.heap.size ≤ q) 8 (lw_Z below #[.ref b] s) 723 [some (.ref b), some (.ref (g 0)), some (.ref (g2 0)), some (.ref o), some (.int i), none, none, none] [] (fmL Tx (g, G.2) M ++ ((o, .inl (G.2.2.1 1, 1, .inr (.inl f))) :: fmL Tm (g2, G.2) M2)) cu su := by
  have h0 := hS M M2 (xs (t + 1)) hI
  refine z_aloadn C.1 (pc := 723) (n := 1) 1 rfl rfl (fm_dec dtLa_11 24 rfl) ?_
  refine la_arg C (pc := 724) (v := 1) (t + 1) rfl rfl (hi 1 (by decide)) (by decide) (fm_dec dtLa_11 25 rfl) (fm_dec dtLa_11 26 rfl) (fm_dec dtLa_11 27 rfl) (fm_dec dtLa_11 28 rfl) (fm_dec dtLa_11 29 rfl) ?_
  refine z_aloadn C.1 (pc := 730) (n := 3) 3 rfl rfl (fm_dec dtLa_12 0 rfl) ?_
  have hw : pvGood Tx 250 qX10_risk [.ref 0, .int (xs (t + 1))] M (wJ f (fun (r : Int32) (u : fmM × (Nat → Int64)) => pvGood Tm 250 qX11_risk [.ref 0, .int (xs (t + 1))] M2 (fun r2 M2' => tJ r2 ∧ I u.1 M2')) (fun E M' => (E = fmIAE ∧ (fun (r : Int32) (u : fmM × (Nat → Int64)) => pvGood Tm 250 qX11_risk [.ref 0, .int (xs (t + 1))] M2 (fun r2 M2' => tJ r2 ∧ I u.1 M2')) 1 (M', f)))) := h0.imp (fun r9 M9 h9 => by
    obtain ⟨h8, h2⟩ := h9
    rcases h8 with ⟨v, rfl⟩ | ⟨h6, rfl⟩ | ⟨h6, rfl⟩
    · exact h2
    · exact ⟨rfl, h2⟩
    · exact absurd h6 (by decide))
  refine z_callW C.1 (y' := qL_risk) (hh := [(0, 8, 11, 13)]) (W0 := WX G g o (fmL Tm (g2, G.2) M2) (M, f)) (WW := WX G g o (fmL Tm (g2, G.2) M2)) (Q := fun (r : Int32) (u : fmM × (Nat → Int64)) => pvGood Tm 250 qX11_risk [.ref 0, .int (xs (t + 1))] M2 (fun r2 M2' => tJ r2 ∧ I u.1 M2')) (As := [.ref (g 0), .int (xs (t + 1)), .ref o]) (st := []) (pc := 731) (fm_c5 46 (by eq_refl) rfl) nst_L_risk niL nw_L_risk nd_L_risk rfl rfl (by decide) (show 311 ≤ room_1.frames by decide) (show 8 + (4 + 11) + 18200 ≤ room_1.locals by decide) (rm_c hcu) (rm_s hsu) (fm_dec dtLa_12 1 rfl) (w_risk C.2.2.2.2.2 hw) (fun r u hQ => ?_)
  obtain ⟨M1, f1⟩ := u
  refine z_istore C.1 (pc := 734) (i := 5) (by decide) rfl (fm_dec dtLa_12 2 rfl) ?_
  dsimp only [List.set_cons_zero, List.set_cons_succ]
  refine z_aloadn C.1 (pc := 736) (n := 2) 2 rfl rfl (fm_dec dtLa_12 3 rfl) ?_
  refine la_arg C (pc := 737) (v := 1) (t + 1) rfl rfl (hi 1 (by decide)) (by decide) (fm_dec dtLa_12 4 rfl) (fm_dec dtLa_12 5 rfl) (fm_dec dtLa_12 6 rfl) (fm_dec dtLa_12 7 rfl) (fm_dec dtLa_12 8 rfl) ?_
  have hcw := hcu1
  have hsw := hsu1
  refine z_perm (ws := (fmL Tx (g, G.2) M1 ++ ((o, .inl (G.2.2.1 1, 1, .inr (.inl f1))) :: fmL Tm (g2, G.2) M2))) (wpermW _ _ _) ?_
  refine la_ref C (pc := 743) (As := [.int (xs (t + 1))]) (st := []) cvL_179 (by decide +kernel) rfl rfl (Nat.le_of_ble_eq_true rfl) (by decide) hcw hsw (fm_dec dtLa_12 9 rfl) rfl hQ (fun r2 M3 h3 => ?_)
  obtain ⟨⟨v2, rfl⟩, hI3⟩ := h3
  refine z_then1 ?_
  refine z_lstore C.1 (pc := 746) (i := 6) (by decide) rfl (fm_dec dtLa_12 10 rfl) ?_
  dsimp only [List.set_cons_zero, List.set_cons_succ]
  refine z_goto C.1 (pc := 748) 1940 (by decide) (fm_dec dtLa_12 11 rfl) ?_
  exact z_perm (wpermB _ _ _) (la_fgt (kk M1 f1 M3 hI3))
set_option maxRecDepth 20000 in
theorem la_c15 {p : Program} {l : Launch} {e : Env} {s : State} {m : MethodId} {below : List Frame} {meth : Method} {c : Code} {G : fmG} {b n : Nat} {xs : Nat → Int32} {I : fmM → fmM → Prop} (hS : laS_saves I) (C : laC p l s m meth c G b n xs) {g g2 : Nat → Nat} {M M2 : fmM} {f : Nat → Int64} {o t : Nat} {i : Int32} {cu su : Nat} (hi : laI n i t) (hcu : cu + 1 ≤ 601024) (hsu : su + 6 ≤ 7293034) (hcu1 : cu + 1 + 1 ≤ 601024) (hsu1 : su + 6 + 6 ≤ 7293034) (hI : I M M2) (kk : ∀ (M' : fmM) (f' : Nat → Int64) (M2' : fmM), I M' M2' → zEv p l e room_1 s m #[.ref b] below meth c G (fun q => s.heap.size ≤ q) 8 (lw_Z below #[.ref b] s) 1940 [some (.ref b), some (.ref (g 0)), some (.ref (g2 0)), some (.ref o), some (.int i), none, none, none] [] (fmL Tx (g, G.2) M' ++ ((o, .inl (G.2.2.1 1, 1, .inr (.inl f'))) :: fmL Tm (g2, G.2) M2')) (cu + 1) (su + 6)) : zEv p l e room_1 s m #[.ref b] below meth c G (fun q => s.heap.size ≤ q) 8 (lw_Z below #[.ref b] s) 751 [some (.ref b), some (.ref (g 0)), some (.ref (g2 0)), some (.ref o), some (.int i), none, none, none] [] (fmL Tx (g, G.2) M ++ ((o, .inl (G.2.2.1 1, 1, .inr (.inl f))) :: fmL Tm (g2, G.2) M2)) cu su := by
  have h0 := hS M M2 (xs (t + 1)) (xs (t + 2)) hI
  refine z_aloadn C.1 (pc := 751) (n := 1) 1 rfl rfl (fm_dec dtLa_12 12 rfl) ?_
  refine la_arg C (pc := 752) (v := 1) (t + 1) rfl rfl (hi 1 (by decide)) (by decide) (fm_dec dtLa_12 13 rfl) (fm_dec dtLa_12 14 rfl) (fm_dec dtLa_12 15 rfl) (fm_dec dtLa_12 16 rfl) (fm_dec dtLa_12 17 rfl) ?_
  refine la_arg C (pc := 758) (v := 2) (t + 2) rfl rfl (hi 2 (by decide)) (by decide) (fm_dec dtLa_12 18 rfl) (fm_dec dtLa_12 19 rfl) (fm_dec dtLa_12 20 rfl) (fm_dec dtLa_12 21 rfl) (fm_dec dtLa_12 22 rfl) ?_
  refine z_aloadn C.1 (pc := 764) (n := 3) 3 rfl rfl (fm_dec dtLa_12 23 rfl) ?_
  have hw : pvGood Tx 250 qX10_saves [.ref 0, .int (xs (t + 1)), .int (xs (t + 2))] M (wJ f (fun (r : Int32) (u : fmM × (Nat → Int64)) => pvGood Tm 250 qX11_saves [.ref 0, .int (xs (t + 1)), .int (xs (t + 2))] M2 (fun r2 M2' => tJ r2 ∧ I u.1 M2')) (fun E M' => (E = fmNSE ∧ (fun (r : Int32) (u : fmM × (Nat → Int64)) => pvGood Tm 250 qX11_saves [.ref 0, .int (xs (t + 1)), .int (xs (t + 2))] M2 (fun r2 M2' => tJ r2 ∧ I u.1 M2')) 1 (M', f)) ∨ (E = fmIAE ∧ (fun (r : Int32) (u : fmM × (Nat → Int64)) => pvGood Tm 250 qX11_saves [.ref 0, .int (xs (t + 1)), .int (xs (t + 2))] M2 (fun r2 M2' => tJ r2 ∧ I u.1 M2')) 2 (M', f)))) := h0.imp (fun r9 M9 h9 => by
    obtain ⟨h8, h2⟩ := h9
    rcases h8 with ⟨v, rfl⟩ | ⟨-, rfl⟩ | ⟨-, rfl⟩
    · exact h2
    · exact Or.inr ⟨rfl, h2⟩
    · exact Or.inl ⟨rfl, h2⟩)
  refine z_callW C.1 (y' := qL_saves) (hh := [(0, 9, 12, 31), (0, 9, 16, 13)]) (W0 := WX G g o (fmL Tm (g2, G.2) M2) (M, f)) (WW := WX G g o (fmL Tm (g2, G.2) M2)) (Q := fun (r : Int32) (u : fmM × (Nat → Int64)) => pvGood Tm 250 qX11_saves [.ref 0, .int (xs (t + 1)), .int (xs (t + 2))] M2 (fun r2 M2' => tJ r2 ∧ I u.1 M2')) (As := [.ref (g 0), .int (xs (t + 1)), .int (xs (t + 2)), .ref o]) (st := []) (pc := 765) (fm_c5 54 (by eq_refl) rfl) nst_L_saves niL nw_L_saves nd_L_saves rfl rfl (by decide) (show 311 ≤ room_1.frames by decide) (show 8 + (5 + 11) + 18200 ≤ room_1.locals by decide) (rm_c hcu) (rm_s hsu) (fm_dec dtLa_12 24 rfl) (w_saves C.2.2.2.2.2 hw) (fun r u hQ => ?_)
  obtain ⟨M1, f1⟩ := u
  refine z_istore C.1 (pc := 768) (i := 5) (by decide) rfl (fm_dec dtLa_12 25 rfl) ?_
  dsimp only [List.set_cons_zero, List.set_cons_succ]
  refine z_aloadn C.1 (pc := 770) (n := 2) 2 rfl rfl (fm_dec dtLa_12 26 rfl) ?_
  refine la_arg C (pc := 771) (v := 1) (t + 1) rfl rfl (hi 1 (by decide)) (by decide) (fm_dec dtLa_12 27 rfl) (fm_dec dtLa_12 28 rfl) (fm_dec dtLa_12 29 rfl) (fm_dec dtLa_13 0 rfl) (fm_dec dtLa_13 1 rfl) ?_
  refine la_arg C (pc := 777) (v := 2) (t + 2) rfl rfl (hi 2 (by decide)) (by decide) (fm_dec dtLa_13 2 rfl) (fm_dec dtLa_13 3 rfl) (fm_dec dtLa_13 4 rfl) (fm_dec dtLa_13 5 rfl) (fm_dec dtLa_13 6 rfl) ?_
  have hcw := hcu1
  have hsw := hsu1
  refine z_perm (ws := (fmL Tx (g, G.2) M1 ++ ((o, .inl (G.2.2.1 1, 1, .inr (.inl f1))) :: fmL Tm (g2, G.2) M2))) (wpermW _ _ _) ?_
  refine la_ref C (pc := 783) (As := [.int (xs (t + 1)), .int (xs (t + 2))]) (st := []) cvL_182 (by decide +kernel) rfl rfl (Nat.le_of_ble_eq_true rfl) (by decide) hcw hsw (fm_dec dtLa_13 7 rfl) rfl hQ (fun r2 M3 h3 => ?_)
  obtain ⟨⟨v2, rfl⟩, hI3⟩ := h3
  refine z_then1 ?_
  refine z_lstore C.1 (pc := 786) (i := 6) (by decide) rfl (fm_dec dtLa_13 8 rfl) ?_
  dsimp only [List.set_cons_zero, List.set_cons_succ]
  refine z_goto C.1 (pc := 788) 1940 (by decide) (fm_dec dtLa_13 9 rfl) ?_
  exact z_perm (wpermB _ _ _) (la_fgt (kk M1 f1 M3 hI3))
end
-- P 15c
section
set_option maxRecDepth 20000 in
theorem la_c16 {p : Program} {l : Launch} {e : Env} {s : State} {m : MethodId} {below : List Frame} {meth : Method} {c : Code} {G : fmG} {b n : Nat} {xs : Nat → Int32} {I : fmM → fmM → Prop} (hS : laS_first I) (C : laC p l s m meth c G b n xs) {g g2 : Nat → Nat} {M M2 : fmM} {f : Nat → Int64} {o t : Nat} {i : Int32} {cu su : Nat} (hi : laI n i t) (hcu : cu + 1 ≤ 601024) (hsu : su + 6 ≤ 7293034) (hcu1 : cu + 1 + 1 ≤ 601024) (hsu1 : su + 6 + 6 ≤ 7293034) (hI : I M M2) (kk : ∀ (M' : fmM) (f' : Nat → Int64) (M2' : fmM), I M' M2' → zEv p l e room_1 s m #[.ref b] below meth c G (fun q => s.heap.size ≤ q) 8 (lw_Z below #[.ref b] s) 1940 [some (.ref b), some (.ref (g 0)), some (.ref (g2 0)), some (.ref o), some (.int i), none, none, none] [] (fmL Tx (g, G.2) M' ++ ((o, .inl (G.2.2.1 1, 1, .inr (.inl f'))) :: fmL Tm (g2, G.2) M2')) (cu + 1) (su + 6)) : zEv p l e room_1 s m #[.ref b] below meth c G (fun q => s.heap.size ≤ q) 8 (lw_Z below #[.ref b] s) 791 [some (.ref b), some (.ref (g 0)), some (.ref (g2 0)), some (.ref o), some (.int i), none, none, none] [] (fmL Tx (g, G.2) M ++ ((o, .inl (G.2.2.1 1, 1, .inr (.inl f))) :: fmL Tm (g2, G.2) M2)) cu su := by
  have h0 := hS M M2 hI
  refine z_aloadn C.1 (pc := 791) (n := 1) 1 rfl rfl (fm_dec dtLa_13 10 rfl) ?_
  refine z_callX C.1 (T := Tx) (g := g) (M := M) (rest := (o, .inl (G.2.2.1 1, 1, .inr (.inl f))) :: fmL Tm (g2, G.2) M2) (k := 0) (ci := 10) (d' := 250) (pc := 792) (As := []) (st := []) cvL_183 (by decide) rfl rfl rfl (by decide) (rm_fr (by decide)) (rm_lo (by decide) (by decide)) (rm_c hcu) (rm_s hsu) (fm_dec dtLa_13 11 rfl) ?_
  refine fmGood.imp (pvGood.fm C.2.2.2.2.2 (by decide) (by decide +kernel) h0) (fun o9 M1 h9 => ?_)
  obtain ⟨o', rfl, h8, h2⟩ := h9
  rcases h8 with ⟨v, rfl⟩ | ⟨h8, -⟩ | ⟨h8, -⟩
  · refine z_then1 ?_
    refine z_pop C.1 (pc := 795) rfl (fm_dec dtLa_13 12 rfl) ?_
    refine z_aloadn C.1 (pc := 796) (n := 2) 2 rfl rfl (fm_dec dtLa_13 13 rfl) ?_
    have hcw := hcu
    have hsw := hsu
    refine z_perm (ws := (fmL Tx (g, G.2) M1 ++ ((o, .inl (G.2.2.1 1, 1, .inr (.inl f))) :: fmL Tm (g2, G.2) M2))) (wpermW _ _ _) ?_
    refine la_ref C (pc := 797) (As := []) (st := []) cvL_186 (by decide +kernel) rfl rfl (Nat.le_of_ble_eq_true rfl) (by decide) hcw hsw (fm_dec dtLa_13 14 rfl) rfl h2 (fun r2 M3 h3 => ?_)
    obtain ⟨⟨v2, rfl⟩, hI3⟩ := h3
    refine z_then1 ?_
    refine z_pop C.1 (pc := 800) rfl (fm_dec dtLa_13 15 rfl) ?_
    refine z_goto C.1 (pc := 801) 1940 (by decide) (fm_dec dtLa_13 16 rfl) ?_
    refine z_more (Nat.le_succ _) (Nat.le_add_right _ 6) ?_
    exact z_perm (wpermB _ _ _) (la_fgt (kk M1 f M3 hI3))
  · cases h8
  · cases h8
set_option maxRecDepth 20000 in
theorem la_c17 {p : Program} {l : Launch} {e : Env} {s : State} {m : MethodId} {below : List Frame} {meth : Method} {c : Code} {G : fmG} {b n : Nat} {xs : Nat → Int32} {I : fmM → fmM → Prop} (hS : laS_lacking I) (C : laC p l s m meth c G b n xs) {g g2 : Nat → Nat} {M M2 : fmM} {f : Nat → Int64} {o t : Nat} {i : Int32} {cu su : Nat} (hi : laI n i t) (hcu : cu + 1 ≤ 601024) (hsu : su + 6 ≤ 7293034) (hcu1 : cu + 1 + 1 ≤ 601024) (hsu1 : su + 6 + 6 ≤ 7293034) (hI : I M M2) (kk : ∀ (M' : fmM) (f' : Nat → Int64) (M2' : fmM), I M' M2' → zEv p l e room_1 s m #[.ref b] below meth c G (fun q => s.heap.size ≤ q) 8 (lw_Z below #[.ref b] s) 1940 [some (.ref b), some (.ref (g 0)), some (.ref (g2 0)), some (.ref o), some (.int i), none, none, none] [] (fmL Tx (g, G.2) M' ++ ((o, .inl (G.2.2.1 1, 1, .inr (.inl f'))) :: fmL Tm (g2, G.2) M2')) (cu + 1) (su + 6)) : zEv p l e room_1 s m #[.ref b] below meth c G (fun q => s.heap.size ≤ q) 8 (lw_Z below #[.ref b] s) 804 [some (.ref b), some (.ref (g 0)), some (.ref (g2 0)), some (.ref o), some (.int i), none, none, none] [] (fmL Tx (g, G.2) M ++ ((o, .inl (G.2.2.1 1, 1, .inr (.inl f))) :: fmL Tm (g2, G.2) M2)) cu su := by
  have h0 := hS M M2 hI
  refine z_aloadn C.1 (pc := 804) (n := 1) 1 rfl rfl (fm_dec dtLa_13 17 rfl) ?_
  refine z_callX C.1 (T := Tx) (g := g) (M := M) (rest := (o, .inl (G.2.2.1 1, 1, .inr (.inl f))) :: fmL Tm (g2, G.2) M2) (k := 0) (ci := 10) (d' := 250) (pc := 805) (As := []) (st := []) cvL_187 (by decide) rfl rfl rfl (by decide) (rm_fr (by decide)) (rm_lo (by decide) (by decide)) (rm_c hcu) (rm_s hsu) (fm_dec dtLa_13 18 rfl) ?_
  refine fmGood.imp (pvGood.fm C.2.2.2.2.2 (by decide) (by decide +kernel) h0) (fun o9 M1 h9 => ?_)
  obtain ⟨o', rfl, h8, h2⟩ := h9
  rcases h8 with ⟨v, rfl⟩ | ⟨h8, -⟩ | ⟨h8, -⟩
  · refine z_then1 ?_
    refine z_pop C.1 (pc := 808) rfl (fm_dec dtLa_13 19 rfl) ?_
    refine z_aloadn C.1 (pc := 809) (n := 2) 2 rfl rfl (fm_dec dtLa_13 20 rfl) ?_
    have hcw := hcu
    have hsw := hsu
    refine z_perm (ws := (fmL Tx (g, G.2) M1 ++ ((o, .inl (G.2.2.1 1, 1, .inr (.inl f))) :: fmL Tm (g2, G.2) M2))) (wpermW _ _ _) ?_
    refine la_ref C (pc := 810) (As := []) (st := []) cvL_190 (by decide +kernel) rfl rfl (Nat.le_of_ble_eq_true rfl) (by decide) hcw hsw (fm_dec dtLa_13 21 rfl) rfl h2 (fun r2 M3 h3 => ?_)
    obtain ⟨⟨v2, rfl⟩, hI3⟩ := h3
    refine z_then1 ?_
    refine z_pop C.1 (pc := 813) rfl (fm_dec dtLa_13 22 rfl) ?_
    refine z_goto C.1 (pc := 814) 1940 (by decide) (fm_dec dtLa_13 23 rfl) ?_
    refine z_more (Nat.le_succ _) (Nat.le_add_right _ 6) ?_
    exact z_perm (wpermB _ _ _) (la_fgt (kk M1 f M3 hI3))
  · cases h8
  · cases h8
set_option maxRecDepth 20000 in
theorem la_c18 {p : Program} {l : Launch} {e : Env} {s : State} {m : MethodId} {below : List Frame} {meth : Method} {c : Code} {G : fmG} {b n : Nat} {xs : Nat → Int32} {I : fmM → fmM → Prop} (hS : laS_signed I) (C : laC p l s m meth c G b n xs) {g g2 : Nat → Nat} {M M2 : fmM} {f : Nat → Int64} {o t : Nat} {i : Int32} {cu su : Nat} (hi : laI n i t) (hcu : cu + 1 ≤ 601024) (hsu : su + 6 ≤ 7293034) (hcu1 : cu + 1 + 1 ≤ 601024) (hsu1 : su + 6 + 6 ≤ 7293034) (hI : I M M2) (kk : ∀ (M' : fmM) (f' : Nat → Int64) (M2' : fmM), I M' M2' → zEv p l e room_1 s m #[.ref b] below meth c G (fun q => s.heap.size ≤ q) 8 (lw_Z below #[.ref b] s) 1940 [some (.ref b), some (.ref (g 0)), some (.ref (g2 0)), some (.ref o), some (.int i), none, none, none] [] (fmL Tx (g, G.2) M' ++ ((o, .inl (G.2.2.1 1, 1, .inr (.inl f'))) :: fmL Tm (g2, G.2) M2')) (cu + 1) (su + 6)) : zEv p l e room_1 s m #[.ref b] below meth c G (fun q => s.heap.size ≤ q) 8 (lw_Z below #[.ref b] s) 817 [some (.ref b), some (.ref (g 0)), some (.ref (g2 0)), some (.ref o), some (.int i), none, none, none] [] (fmL Tx (g, G.2) M ++ ((o, .inl (G.2.2.1 1, 1, .inr (.inl f))) :: fmL Tm (g2, G.2) M2)) cu su := by
  have h0 := hS M M2 hI
  refine z_aloadn C.1 (pc := 817) (n := 1) 1 rfl rfl (fm_dec dtLa_13 24 rfl) ?_
  refine z_callX C.1 (T := Tx) (g := g) (M := M) (rest := (o, .inl (G.2.2.1 1, 1, .inr (.inl f))) :: fmL Tm (g2, G.2) M2) (k := 0) (ci := 10) (d' := 250) (pc := 818) (As := []) (st := []) cvL_191 (by decide) rfl rfl rfl (by decide) (rm_fr (by decide)) (rm_lo (by decide) (by decide)) (rm_c hcu) (rm_s hsu) (fm_dec dtLa_13 25 rfl) ?_
  refine fmGood.imp (pvGood.fm C.2.2.2.2.2 (by decide) (by decide +kernel) h0) (fun o9 M1 h9 => ?_)
  obtain ⟨o', rfl, h8, h2⟩ := h9
  rcases h8 with ⟨v, rfl⟩ | ⟨h8, -⟩ | ⟨h8, -⟩
  · refine z_then1 ?_
    refine z_pop C.1 (pc := 821) rfl (fm_dec dtLa_13 26 rfl) ?_
    refine z_aloadn C.1 (pc := 822) (n := 2) 2 rfl rfl (fm_dec dtLa_13 27 rfl) ?_
    have hcw := hcu
    have hsw := hsu
    refine z_perm (ws := (fmL Tx (g, G.2) M1 ++ ((o, .inl (G.2.2.1 1, 1, .inr (.inl f))) :: fmL Tm (g2, G.2) M2))) (wpermW _ _ _) ?_
    refine la_ref C (pc := 823) (As := []) (st := []) cvL_194 (by decide +kernel) rfl rfl (Nat.le_of_ble_eq_true rfl) (by decide) hcw hsw (fm_dec dtLa_13 28 rfl) rfl h2 (fun r2 M3 h3 => ?_)
    obtain ⟨⟨v2, rfl⟩, hI3⟩ := h3
    refine z_then1 ?_
    refine z_pop C.1 (pc := 826) rfl (fm_dec dtLa_13 29 rfl) ?_
    refine z_goto C.1 (pc := 827) 1940 (by decide) (fm_dec dtLa_14 0 rfl) ?_
    refine z_more (Nat.le_succ _) (Nat.le_add_right _ 6) ?_
    exact z_perm (wpermB _ _ _) (la_fgt (kk M1 f M3 hI3))
  · cases h8
  · cases h8
set_option maxRecDepth 20000 in
theorem la_c19 {p : Program} {l : Launch} {e : Env} {s : State} {m : MethodId} {below : List Frame} {meth : Method} {c : Code} {G : fmG} {b n : Nat} {xs : Nat → Int32} {I : fmM → fmM → Prop} (hS : laS_stale I) (C : laC p l s m meth c G b n xs) {g g2 : Nat → Nat} {M M2 : fmM} {f : Nat → Int64} {o t : Nat} {i : Int32} {cu su : Nat} (hi : laI n i t) (hcu : cu + 1 ≤ 601024) (hsu : su + 6 ≤ 7293034) (hcu1 : cu + 1 + 1 ≤ 601024) (hsu1 : su + 6 + 6 ≤ 7293034) (hI : I M M2) (kk : ∀ (M' : fmM) (f' : Nat → Int64) (M2' : fmM), I M' M2' → zEv p l e room_1 s m #[.ref b] below meth c G (fun q => s.heap.size ≤ q) 8 (lw_Z below #[.ref b] s) 1940 [some (.ref b), some (.ref (g 0)), some (.ref (g2 0)), some (.ref o), some (.int i), none, none, none] [] (fmL Tx (g, G.2) M' ++ ((o, .inl (G.2.2.1 1, 1, .inr (.inl f'))) :: fmL Tm (g2, G.2) M2')) (cu + 1) (su + 6)) : zEv p l e room_1 s m #[.ref b] below meth c G (fun q => s.heap.size ≤ q) 8 (lw_Z below #[.ref b] s) 830 [some (.ref b), some (.ref (g 0)), some (.ref (g2 0)), some (.ref o), some (.int i), none, none, none] [] (fmL Tx (g, G.2) M ++ ((o, .inl (G.2.2.1 1, 1, .inr (.inl f))) :: fmL Tm (g2, G.2) M2)) cu su := by
  have h0 := hS M M2 (xs (t + 1)) hI
  refine z_aloadn C.1 (pc := 830) (n := 1) 1 rfl rfl (fm_dec dtLa_14 1 rfl) ?_
  refine la_arg C (pc := 831) (v := 1) (t + 1) rfl rfl (hi 1 (by decide)) (by decide) (fm_dec dtLa_14 2 rfl) (fm_dec dtLa_14 3 rfl) (fm_dec dtLa_14 4 rfl) (fm_dec dtLa_14 5 rfl) (fm_dec dtLa_14 6 rfl) ?_
  refine z_aloadn C.1 (pc := 837) (n := 3) 3 rfl rfl (fm_dec dtLa_14 7 rfl) ?_
  have hw : pvGood Tx 250 qX10_stale [.ref 0, .int (xs (t + 1))] M (wI f (fun (r : Int32) (u : fmM × (Nat → Int64)) => pvGood Tm 250 qX11_stale [.ref 0, .int (xs (t + 1))] M2 (fun r2 M2' => tI r2 ∧ I u.1 M2')) (fun E M' => (E = fmIAE ∧ (fun (r : Int32) (u : fmM × (Nat → Int64)) => pvGood Tm 250 qX11_stale [.ref 0, .int (xs (t + 1))] M2 (fun r2 M2' => tI r2 ∧ I u.1 M2')) 1 (M', f)))) := h0.imp (fun r9 M9 h9 => by
    obtain ⟨h8, h2⟩ := h9
    rcases h8 with ⟨v, rfl⟩ | ⟨h6, rfl⟩ | ⟨h6, rfl⟩
    · exact h2
    · exact ⟨rfl, h2⟩
    · exact absurd h6 (by decide))
  refine z_callW C.1 (y' := qL_stale) (hh := [(0, 9, 12, 13)]) (W0 := WX G g o (fmL Tm (g2, G.2) M2) (M, f)) (WW := WX G g o (fmL Tm (g2, G.2) M2)) (Q := fun (r : Int32) (u : fmM × (Nat → Int64)) => pvGood Tm 250 qX11_stale [.ref 0, .int (xs (t + 1))] M2 (fun r2 M2' => tI r2 ∧ I u.1 M2')) (As := [.ref (g 0), .int (xs (t + 1)), .ref o]) (st := []) (pc := 838) (fm_c5 63 (by eq_refl) rfl) nst_L_stale niL nw_L_stale nd_L_stale rfl rfl (by decide) (show 311 ≤ room_1.frames by decide) (show 8 + (4 + 11) + 18200 ≤ room_1.locals by decide) (rm_c hcu) (rm_s hsu) (fm_dec dtLa_14 8 rfl) (w_stale C.2.2.2.2.2 hw) (fun r u hQ => ?_)
  obtain ⟨M1, f1⟩ := u
  refine z_istore C.1 (pc := 841) (i := 5) (by decide) rfl (fm_dec dtLa_14 9 rfl) ?_
  dsimp only [List.set_cons_zero, List.set_cons_succ]
  refine z_aloadn C.1 (pc := 843) (n := 2) 2 rfl rfl (fm_dec dtLa_14 10 rfl) ?_
  refine la_arg C (pc := 844) (v := 1) (t + 1) rfl rfl (hi 1 (by decide)) (by decide) (fm_dec dtLa_14 11 rfl) (fm_dec dtLa_14 12 rfl) (fm_dec dtLa_14 13 rfl) (fm_dec dtLa_14 14 rfl) (fm_dec dtLa_14 15 rfl) ?_
  have hcw := hcu1
  have hsw := hsu1
  refine z_perm (ws := (fmL Tx (g, G.2) M1 ++ ((o, .inl (G.2.2.1 1, 1, .inr (.inl f1))) :: fmL Tm (g2, G.2) M2))) (wpermW _ _ _) ?_
  refine la_ref C (pc := 850) (As := [.int (xs (t + 1))]) (st := []) cvL_197 (by decide +kernel) rfl rfl (Nat.le_of_ble_eq_true rfl) (by decide) hcw hsw (fm_dec dtLa_14 16 rfl) rfl hQ (fun r2 M3 h3 => ?_)
  obtain ⟨⟨v2, rfl⟩, hI3⟩ := h3
  refine z_then1 ?_
  refine z_istore C.1 (pc := 853) (i := 6) (by decide) rfl (fm_dec dtLa_14 17 rfl) ?_
  dsimp only [List.set_cons_zero, List.set_cons_succ]
  refine z_goto C.1 (pc := 855) 1940 (by decide) (fm_dec dtLa_14 18 rfl) ?_
  exact z_perm (wpermB _ _ _) (la_fgt (kk M1 f1 M3 hI3))
set_option maxRecDepth 20000 in
theorem la_c20 {p : Program} {l : Launch} {e : Env} {s : State} {m : MethodId} {below : List Frame} {meth : Method} {c : Code} {G : fmG} {b n : Nat} {xs : Nat → Int32} {I : fmM → fmM → Prop} (hS : laS_best I) (C : laC p l s m meth c G b n xs) {g g2 : Nat → Nat} {M M2 : fmM} {f : Nat → Int64} {o t : Nat} {i : Int32} {cu su : Nat} (hi : laI n i t) (hcu : cu + 1 ≤ 601024) (hsu : su + 6 ≤ 7293034) (hcu1 : cu + 1 + 1 ≤ 601024) (hsu1 : su + 6 + 6 ≤ 7293034) (hI : I M M2) (kk : ∀ (M' : fmM) (f' : Nat → Int64) (M2' : fmM), I M' M2' → zEv p l e room_1 s m #[.ref b] below meth c G (fun q => s.heap.size ≤ q) 8 (lw_Z below #[.ref b] s) 1940 [some (.ref b), some (.ref (g 0)), some (.ref (g2 0)), some (.ref o), some (.int i), none, none, none] [] (fmL Tx (g, G.2) M' ++ ((o, .inl (G.2.2.1 1, 1, .inr (.inl f'))) :: fmL Tm (g2, G.2) M2')) (cu + 1) (su + 6)) : zEv p l e room_1 s m #[.ref b] below meth c G (fun q => s.heap.size ≤ q) 8 (lw_Z below #[.ref b] s) 858 [some (.ref b), some (.ref (g 0)), some (.ref (g2 0)), some (.ref o), some (.int i), none, none, none] [] (fmL Tx (g, G.2) M ++ ((o, .inl (G.2.2.1 1, 1, .inr (.inl f))) :: fmL Tm (g2, G.2) M2)) cu su := by
  have h0 := hS M M2 (xs (t + 1)) (xs (t + 2)) hI
  refine z_aloadn C.1 (pc := 858) (n := 1) 1 rfl rfl (fm_dec dtLa_14 19 rfl) ?_
  refine la_arg C (pc := 859) (v := 1) (t + 1) rfl rfl (hi 1 (by decide)) (by decide) (fm_dec dtLa_14 20 rfl) (fm_dec dtLa_14 21 rfl) (fm_dec dtLa_14 22 rfl) (fm_dec dtLa_14 23 rfl) (fm_dec dtLa_14 24 rfl) ?_
  refine la_arg C (pc := 865) (v := 2) (t + 2) rfl rfl (hi 2 (by decide)) (by decide) (fm_dec dtLa_14 25 rfl) (fm_dec dtLa_14 26 rfl) (fm_dec dtLa_14 27 rfl) (fm_dec dtLa_14 28 rfl) (fm_dec dtLa_14 29 rfl) ?_
  refine z_aloadn C.1 (pc := 871) (n := 3) 3 rfl rfl (fm_dec dtLa_15 0 rfl) ?_
  have hw : pvGood Tx 250 qX10_best [.ref 0, .int (xs (t + 1)), .int (xs (t + 2))] M (wJ f (fun (r : Int32) (u : fmM × (Nat → Int64)) => pvGood Tm 250 qX11_best [.ref 0, .int (xs (t + 1)), .int (xs (t + 2))] M2 (fun r2 M2' => tJ r2 ∧ I u.1 M2')) (fun E M' => (E = fmIAE ∧ (fun (r : Int32) (u : fmM × (Nat → Int64)) => pvGood Tm 250 qX11_best [.ref 0, .int (xs (t + 1)), .int (xs (t + 2))] M2 (fun r2 M2' => tJ r2 ∧ I u.1 M2')) 1 (M', f)))) := h0.imp (fun r9 M9 h9 => by
    obtain ⟨h8, h2⟩ := h9
    rcases h8 with ⟨v, rfl⟩ | ⟨h6, rfl⟩ | ⟨h6, rfl⟩
    · exact h2
    · exact ⟨rfl, h2⟩
    · exact absurd h6 (by decide))
  refine z_callW C.1 (y' := qL_best) (hh := [(0, 9, 12, 13)]) (W0 := WX G g o (fmL Tm (g2, G.2) M2) (M, f)) (WW := WX G g o (fmL Tm (g2, G.2) M2)) (Q := fun (r : Int32) (u : fmM × (Nat → Int64)) => pvGood Tm 250 qX11_best [.ref 0, .int (xs (t + 1)), .int (xs (t + 2))] M2 (fun r2 M2' => tJ r2 ∧ I u.1 M2')) (As := [.ref (g 0), .int (xs (t + 1)), .int (xs (t + 2)), .ref o]) (st := []) (pc := 872) (fm_c5 74 (by eq_refl) rfl) nst_L_best niL nw_L_best nd_L_best rfl rfl (by decide) (show 311 ≤ room_1.frames by decide) (show 8 + (5 + 11) + 18200 ≤ room_1.locals by decide) (rm_c hcu) (rm_s hsu) (fm_dec dtLa_15 1 rfl) (w_best C.2.2.2.2.2 hw) (fun r u hQ => ?_)
  obtain ⟨M1, f1⟩ := u
  refine z_istore C.1 (pc := 875) (i := 5) (by decide) rfl (fm_dec dtLa_15 2 rfl) ?_
  dsimp only [List.set_cons_zero, List.set_cons_succ]
  refine z_aloadn C.1 (pc := 877) (n := 2) 2 rfl rfl (fm_dec dtLa_15 3 rfl) ?_
  refine la_arg C (pc := 878) (v := 1) (t + 1) rfl rfl (hi 1 (by decide)) (by decide) (fm_dec dtLa_15 4 rfl) (fm_dec dtLa_15 5 rfl) (fm_dec dtLa_15 6 rfl) (fm_dec dtLa_15 7 rfl) (fm_dec dtLa_15 8 rfl) ?_
  refine la_arg C (pc := 884) (v := 2) (t + 2) rfl rfl (hi 2 (by decide)) (by decide) (fm_dec dtLa_15 9 rfl) (fm_dec dtLa_15 10 rfl) (fm_dec dtLa_15 11 rfl) (fm_dec dtLa_15 12 rfl) (fm_dec dtLa_15 13 rfl) ?_
  have hcw := hcu1
  have hsw := hsu1
  refine z_perm (ws := (fmL Tx (g, G.2) M1 ++ ((o, .inl (G.2.2.1 1, 1, .inr (.inl f1))) :: fmL Tm (g2, G.2) M2))) (wpermW _ _ _) ?_
  refine la_ref C (pc := 890) (As := [.int (xs (t + 1)), .int (xs (t + 2))]) (st := []) cvL_200 (by decide +kernel) rfl rfl (Nat.le_of_ble_eq_true rfl) (by decide) hcw hsw (fm_dec dtLa_15 14 rfl) rfl hQ (fun r2 M3 h3 => ?_)
  obtain ⟨⟨v2, rfl⟩, hI3⟩ := h3
  refine z_then1 ?_
  refine z_lstore C.1 (pc := 893) (i := 6) (by decide) rfl (fm_dec dtLa_15 15 rfl) ?_
  dsimp only [List.set_cons_zero, List.set_cons_succ]
  refine z_goto C.1 (pc := 895) 1940 (by decide) (fm_dec dtLa_15 16 rfl) ?_
  exact z_perm (wpermB _ _ _) (la_fgt (kk M1 f1 M3 hI3))
set_option maxRecDepth 20000 in
theorem la_c21 {p : Program} {l : Launch} {e : Env} {s : State} {m : MethodId} {below : List Frame} {meth : Method} {c : Code} {G : fmG} {b n : Nat} {xs : Nat → Int32} {I : fmM → fmM → Prop} (hS : laS_bestIn I) (C : laC p l s m meth c G b n xs) {g g2 : Nat → Nat} {M M2 : fmM} {f : Nat → Int64} {o t : Nat} {i : Int32} {cu su : Nat} (hi : laI n i t) (hcu : cu + 1 ≤ 601024) (hsu : su + 6 ≤ 7293034) (hcu1 : cu + 1 + 1 ≤ 601024) (hsu1 : su + 6 + 6 ≤ 7293034) (hI : I M M2) (kk : ∀ (M' : fmM) (f' : Nat → Int64) (M2' : fmM), I M' M2' → zEv p l e room_1 s m #[.ref b] below meth c G (fun q => s.heap.size ≤ q) 8 (lw_Z below #[.ref b] s) 1940 [some (.ref b), some (.ref (g 0)), some (.ref (g2 0)), some (.ref o), some (.int i), none, none, none] [] (fmL Tx (g, G.2) M' ++ ((o, .inl (G.2.2.1 1, 1, .inr (.inl f'))) :: fmL Tm (g2, G.2) M2')) (cu + 1) (su + 6)) : zEv p l e room_1 s m #[.ref b] below meth c G (fun q => s.heap.size ≤ q) 8 (lw_Z below #[.ref b] s) 898 [some (.ref b), some (.ref (g 0)), some (.ref (g2 0)), some (.ref o), some (.int i), none, none, none] [] (fmL Tx (g, G.2) M ++ ((o, .inl (G.2.2.1 1, 1, .inr (.inl f))) :: fmL Tm (g2, G.2) M2)) cu su := by
  have h0 := hS M M2 (xs (t + 1)) (xs (t + 2)) hI
  refine z_aloadn C.1 (pc := 898) (n := 1) 1 rfl rfl (fm_dec dtLa_15 17 rfl) ?_
  refine la_arg C (pc := 899) (v := 1) (t + 1) rfl rfl (hi 1 (by decide)) (by decide) (fm_dec dtLa_15 18 rfl) (fm_dec dtLa_15 19 rfl) (fm_dec dtLa_15 20 rfl) (fm_dec dtLa_15 21 rfl) (fm_dec dtLa_15 22 rfl) ?_
  refine la_arg C (pc := 905) (v := 2) (t + 2) rfl rfl (hi 2 (by decide)) (by decide) (fm_dec dtLa_15 23 rfl) (fm_dec dtLa_15 24 rfl) (fm_dec dtLa_15 25 rfl) (fm_dec dtLa_15 26 rfl) (fm_dec dtLa_15 27 rfl) ?_
  refine z_aloadn C.1 (pc := 911) (n := 3) 3 rfl rfl (fm_dec dtLa_15 28 rfl) ?_
  have hw : pvGood Tx 250 qX10_bestIn [.ref 0, .int (xs (t + 1)), .int (xs (t + 2))] M (wI f (fun (r : Int32) (u : fmM × (Nat → Int64)) => pvGood Tm 250 qX11_bestIn [.ref 0, .int (xs (t + 1)), .int (xs (t + 2))] M2 (fun r2 M2' => tI r2 ∧ I u.1 M2')) (fun E M' => (E = fmIAE ∧ (fun (r : Int32) (u : fmM × (Nat → Int64)) => pvGood Tm 250 qX11_bestIn [.ref 0, .int (xs (t + 1)), .int (xs (t + 2))] M2 (fun r2 M2' => tI r2 ∧ I u.1 M2')) 1 (M', f)))) := h0.imp (fun r9 M9 h9 => by
    obtain ⟨h8, h2⟩ := h9
    rcases h8 with ⟨v, rfl⟩ | ⟨h6, rfl⟩ | ⟨h6, rfl⟩
    · exact h2
    · exact ⟨rfl, h2⟩
    · exact absurd h6 (by decide))
  refine z_callW C.1 (y' := qL_bestIn) (hh := [(0, 10, 13, 13)]) (W0 := WX G g o (fmL Tm (g2, G.2) M2) (M, f)) (WW := WX G g o (fmL Tm (g2, G.2) M2)) (Q := fun (r : Int32) (u : fmM × (Nat → Int64)) => pvGood Tm 250 qX11_bestIn [.ref 0, .int (xs (t + 1)), .int (xs (t + 2))] M2 (fun r2 M2' => tI r2 ∧ I u.1 M2')) (As := [.ref (g 0), .int (xs (t + 1)), .int (xs (t + 2)), .ref o]) (st := []) (pc := 912) (fm_c5 125 (by eq_refl) rfl) nst_L_bestIn niL nw_L_bestIn nd_L_bestIn rfl rfl (by decide) (show 311 ≤ room_1.frames by decide) (show 8 + (5 + 11) + 18200 ≤ room_1.locals by decide) (rm_c hcu) (rm_s hsu) (fm_dec dtLa_15 29 rfl) (w_bestIn C.2.2.2.2.2 hw) (fun r u hQ => ?_)
  obtain ⟨M1, f1⟩ := u
  refine z_istore C.1 (pc := 915) (i := 5) (by decide) rfl (fm_dec dtLa_16 0 rfl) ?_
  dsimp only [List.set_cons_zero, List.set_cons_succ]
  refine z_aloadn C.1 (pc := 917) (n := 2) 2 rfl rfl (fm_dec dtLa_16 1 rfl) ?_
  refine la_arg C (pc := 918) (v := 1) (t + 1) rfl rfl (hi 1 (by decide)) (by decide) (fm_dec dtLa_16 2 rfl) (fm_dec dtLa_16 3 rfl) (fm_dec dtLa_16 4 rfl) (fm_dec dtLa_16 5 rfl) (fm_dec dtLa_16 6 rfl) ?_
  refine la_arg C (pc := 924) (v := 2) (t + 2) rfl rfl (hi 2 (by decide)) (by decide) (fm_dec dtLa_16 7 rfl) (fm_dec dtLa_16 8 rfl) (fm_dec dtLa_16 9 rfl) (fm_dec dtLa_16 10 rfl) (fm_dec dtLa_16 11 rfl) ?_
  have hcw := hcu1
  have hsw := hsu1
  refine z_perm (ws := (fmL Tx (g, G.2) M1 ++ ((o, .inl (G.2.2.1 1, 1, .inr (.inl f1))) :: fmL Tm (g2, G.2) M2))) (wpermW _ _ _) ?_
  refine la_ref C (pc := 930) (As := [.int (xs (t + 1)), .int (xs (t + 2))]) (st := []) cvL_203 (by decide +kernel) rfl rfl (Nat.le_of_ble_eq_true rfl) (by decide) hcw hsw (fm_dec dtLa_16 12 rfl) rfl hQ (fun r2 M3 h3 => ?_)
  obtain ⟨⟨v2, rfl⟩, hI3⟩ := h3
  refine z_then1 ?_
  refine z_istore C.1 (pc := 933) (i := 6) (by decide) rfl (fm_dec dtLa_16 13 rfl) ?_
  dsimp only [List.set_cons_zero, List.set_cons_succ]
  refine z_goto C.1 (pc := 935) 1940 (by decide) (fm_dec dtLa_16 14 rfl) ?_
  exact z_perm (wpermB _ _ _) (la_fgt (kk M1 f1 M3 hI3))
set_option maxRecDepth 20000 in
theorem la_c22 {p : Program} {l : Launch} {e : Env} {s : State} {m : MethodId} {below : List Frame} {meth : Method} {c : Code} {G : fmG} {b n : Nat} {xs : Nat → Int32} {I : fmM → fmM → Prop} (hS : laS_often I) (C : laC p l s m meth c G b n xs) {g g2 : Nat → Nat} {M M2 : fmM} {f : Nat → Int64} {o t : Nat} {i : Int32} {cu su : Nat} (hi : laI n i t) (hcu : cu + 1 ≤ 601024) (hsu : su + 6 ≤ 7293034) (hcu1 : cu + 1 + 1 ≤ 601024) (hsu1 : su + 6 + 6 ≤ 7293034) (hI : I M M2) (kk : ∀ (M' : fmM) (f' : Nat → Int64) (M2' : fmM), I M' M2' → zEv p l e room_1 s m #[.ref b] below meth c G (fun q => s.heap.size ≤ q) 8 (lw_Z below #[.ref b] s) 1940 [some (.ref b), some (.ref (g 0)), some (.ref (g2 0)), some (.ref o), some (.int i), none, none, none] [] (fmL Tx (g, G.2) M' ++ ((o, .inl (G.2.2.1 1, 1, .inr (.inl f'))) :: fmL Tm (g2, G.2) M2')) (cu + 1) (su + 6)) : zEv p l e room_1 s m #[.ref b] below meth c G (fun q => s.heap.size ≤ q) 8 (lw_Z below #[.ref b] s) 938 [some (.ref b), some (.ref (g 0)), some (.ref (g2 0)), some (.ref o), some (.int i), none, none, none] [] (fmL Tx (g, G.2) M ++ ((o, .inl (G.2.2.1 1, 1, .inr (.inl f))) :: fmL Tm (g2, G.2) M2)) cu su := by
  have h0 := hS M M2 (xs (t + 1)) (xs (t + 2)) hI
  refine z_aloadn C.1 (pc := 938) (n := 1) 1 rfl rfl (fm_dec dtLa_16 15 rfl) ?_
  refine la_arg C (pc := 939) (v := 1) (t + 1) rfl rfl (hi 1 (by decide)) (by decide) (fm_dec dtLa_16 16 rfl) (fm_dec dtLa_16 17 rfl) (fm_dec dtLa_16 18 rfl) (fm_dec dtLa_16 19 rfl) (fm_dec dtLa_16 20 rfl) ?_
  refine la_arg C (pc := 945) (v := 2) (t + 2) rfl rfl (hi 2 (by decide)) (by decide) (fm_dec dtLa_16 21 rfl) (fm_dec dtLa_16 22 rfl) (fm_dec dtLa_16 23 rfl) (fm_dec dtLa_16 24 rfl) (fm_dec dtLa_16 25 rfl) ?_
  refine z_aloadn C.1 (pc := 951) (n := 3) 3 rfl rfl (fm_dec dtLa_16 26 rfl) ?_
  have hw : pvGood Tx 250 qX10_often [.ref 0, .int (xs (t + 1)), .int (xs (t + 2))] M (wI f (fun (r : Int32) (u : fmM × (Nat → Int64)) => pvGood Tm 250 qX11_often [.ref 0, .int (xs (t + 1)), .int (xs (t + 2))] M2 (fun r2 M2' => tI r2 ∧ I u.1 M2')) (fun E M' => (E = fmNSE ∧ (fun (r : Int32) (u : fmM × (Nat → Int64)) => pvGood Tm 250 qX11_often [.ref 0, .int (xs (t + 1)), .int (xs (t + 2))] M2 (fun r2 M2' => tI r2 ∧ I u.1 M2')) 1 (M', f)) ∨ (E = fmIAE ∧ (fun (r : Int32) (u : fmM × (Nat → Int64)) => pvGood Tm 250 qX11_often [.ref 0, .int (xs (t + 1)), .int (xs (t + 2))] M2 (fun r2 M2' => tI r2 ∧ I u.1 M2')) 2 (M', f)))) := h0.imp (fun r9 M9 h9 => by
    obtain ⟨h8, h2⟩ := h9
    rcases h8 with ⟨v, rfl⟩ | ⟨-, rfl⟩ | ⟨-, rfl⟩
    · exact h2
    · exact Or.inr ⟨rfl, h2⟩
    · exact Or.inl ⟨rfl, h2⟩)
  refine z_callW C.1 (y' := qL_often) (hh := [(0, 10, 13, 31), (0, 10, 17, 13)]) (W0 := WX G g o (fmL Tm (g2, G.2) M2) (M, f)) (WW := WX G g o (fmL Tm (g2, G.2) M2)) (Q := fun (r : Int32) (u : fmM × (Nat → Int64)) => pvGood Tm 250 qX11_often [.ref 0, .int (xs (t + 1)), .int (xs (t + 2))] M2 (fun r2 M2' => tI r2 ∧ I u.1 M2')) (As := [.ref (g 0), .int (xs (t + 1)), .int (xs (t + 2)), .ref o]) (st := []) (pc := 952) (fm_c5 136 (by eq_refl) rfl) nst_L_often niL nw_L_often nd_L_often rfl rfl (by decide) (show 311 ≤ room_1.frames by decide) (show 8 + (5 + 11) + 18200 ≤ room_1.locals by decide) (rm_c hcu) (rm_s hsu) (fm_dec dtLa_16 27 rfl) (w_often C.2.2.2.2.2 hw) (fun r u hQ => ?_)
  obtain ⟨M1, f1⟩ := u
  refine z_istore C.1 (pc := 955) (i := 5) (by decide) rfl (fm_dec dtLa_16 28 rfl) ?_
  dsimp only [List.set_cons_zero, List.set_cons_succ]
  refine z_aloadn C.1 (pc := 957) (n := 2) 2 rfl rfl (fm_dec dtLa_16 29 rfl) ?_
  refine la_arg C (pc := 958) (v := 1) (t + 1) rfl rfl (hi 1 (by decide)) (by decide) (fm_dec dtLa_17 0 rfl) (fm_dec dtLa_17 1 rfl) (fm_dec dtLa_17 2 rfl) (fm_dec dtLa_17 3 rfl) (fm_dec dtLa_17 4 rfl) ?_
  refine la_arg C (pc := 964) (v := 2) (t + 2) rfl rfl (hi 2 (by decide)) (by decide) (fm_dec dtLa_17 5 rfl) (fm_dec dtLa_17 6 rfl) (fm_dec dtLa_17 7 rfl) (fm_dec dtLa_17 8 rfl) (fm_dec dtLa_17 9 rfl) ?_
  have hcw := hcu1
  have hsw := hsu1
  refine z_perm (ws := (fmL Tx (g, G.2) M1 ++ ((o, .inl (G.2.2.1 1, 1, .inr (.inl f1))) :: fmL Tm (g2, G.2) M2))) (wpermW _ _ _) ?_
  refine la_ref C (pc := 970) (As := [.int (xs (t + 1)), .int (xs (t + 2))]) (st := []) cvL_206 (by decide +kernel) rfl rfl (Nat.le_of_ble_eq_true rfl) (by decide) hcw hsw (fm_dec dtLa_17 10 rfl) rfl hQ (fun r2 M3 h3 => ?_)
  obtain ⟨⟨v2, rfl⟩, hI3⟩ := h3
  refine z_then1 ?_
  refine z_istore C.1 (pc := 973) (i := 6) (by decide) rfl (fm_dec dtLa_17 11 rfl) ?_
  dsimp only [List.set_cons_zero, List.set_cons_succ]
  refine z_goto C.1 (pc := 975) 1940 (by decide) (fm_dec dtLa_17 12 rfl) ?_
  exact z_perm (wpermB _ _ _) (la_fgt (kk M1 f1 M3 hI3))
set_option maxRecDepth 20000 in
theorem la_c23 {p : Program} {l : Launch} {e : Env} {s : State} {m : MethodId} {below : List Frame} {meth : Method} {c : Code} {G : fmG} {b n : Nat} {xs : Nat → Int32} {I : fmM → fmM → Prop} (hS : laS_yearly I) (C : laC p l s m meth c G b n xs) {g g2 : Nat → Nat} {M M2 : fmM} {f : Nat → Int64} {o t : Nat} {i : Int32} {cu su : Nat} (hi : laI n i t) (hcu : cu + 1 ≤ 601024) (hsu : su + 6 ≤ 7293034) (hcu1 : cu + 1 + 1 ≤ 601024) (hsu1 : su + 6 + 6 ≤ 7293034) (hI : I M M2) (kk : ∀ (M' : fmM) (f' : Nat → Int64) (M2' : fmM), I M' M2' → zEv p l e room_1 s m #[.ref b] below meth c G (fun q => s.heap.size ≤ q) 8 (lw_Z below #[.ref b] s) 1940 [some (.ref b), some (.ref (g 0)), some (.ref (g2 0)), some (.ref o), some (.int i), none, none, none] [] (fmL Tx (g, G.2) M' ++ ((o, .inl (G.2.2.1 1, 1, .inr (.inl f'))) :: fmL Tm (g2, G.2) M2')) (cu + 1) (su + 6)) : zEv p l e room_1 s m #[.ref b] below meth c G (fun q => s.heap.size ≤ q) 8 (lw_Z below #[.ref b] s) 978 [some (.ref b), some (.ref (g 0)), some (.ref (g2 0)), some (.ref o), some (.int i), none, none, none] [] (fmL Tx (g, G.2) M ++ ((o, .inl (G.2.2.1 1, 1, .inr (.inl f))) :: fmL Tm (g2, G.2) M2)) cu su := by
  have h0 := hS M M2 (xs (t + 1)) (xs (t + 2)) (xs (t + 3)) (xs (t + 4)) hI
  refine z_aloadn C.1 (pc := 978) (n := 1) 1 rfl rfl (fm_dec dtLa_17 13 rfl) ?_
  refine la_arg C (pc := 979) (v := 1) (t + 1) rfl rfl (hi 1 (by decide)) (by decide) (fm_dec dtLa_17 14 rfl) (fm_dec dtLa_17 15 rfl) (fm_dec dtLa_17 16 rfl) (fm_dec dtLa_17 17 rfl) (fm_dec dtLa_17 18 rfl) ?_
  refine la_arg C (pc := 985) (v := 2) (t + 2) rfl rfl (hi 2 (by decide)) (by decide) (fm_dec dtLa_17 19 rfl) (fm_dec dtLa_17 20 rfl) (fm_dec dtLa_17 21 rfl) (fm_dec dtLa_17 22 rfl) (fm_dec dtLa_17 23 rfl) ?_
  refine la_arg C (pc := 991) (v := 3) (t + 3) rfl rfl (hi 3 (by decide)) (by decide) (fm_dec dtLa_17 24 rfl) (fm_dec dtLa_17 25 rfl) (fm_dec dtLa_17 26 rfl) (fm_dec dtLa_17 27 rfl) (fm_dec dtLa_17 28 rfl) ?_
  refine la_arg C (pc := 997) (v := 4) (t + 4) rfl rfl (hi 4 (by decide)) (by decide) (fm_dec dtLa_17 29 rfl) (fm_dec dtLa_18 0 rfl) (fm_dec dtLa_18 1 rfl) (fm_dec dtLa_18 2 rfl) (fm_dec dtLa_18 3 rfl) ?_
  refine z_aloadn C.1 (pc := 1003) (n := 3) 3 rfl rfl (fm_dec dtLa_18 4 rfl) ?_
  have hw : pvGood Tx 250 qX10_yearly [.ref 0, .int (xs (t + 1)), .int (xs (t + 2)), .int (xs (t + 3)), .int (xs (t + 4))] M (wJ f (fun (r : Int32) (u : fmM × (Nat → Int64)) => pvGood Tm 250 qX11_yearly [.ref 0, .int (xs (t + 1)), .int (xs (t + 2)), .int (xs (t + 3)), .int (xs (t + 4))] M2 (fun r2 M2' => tJ r2 ∧ I u.1 M2')) (fun E M' => (E = fmNSE ∧ (fun (r : Int32) (u : fmM × (Nat → Int64)) => pvGood Tm 250 qX11_yearly [.ref 0, .int (xs (t + 1)), .int (xs (t + 2)), .int (xs (t + 3)), .int (xs (t + 4))] M2 (fun r2 M2' => tJ r2 ∧ I u.1 M2')) 1 (M', f)) ∨ (E = fmIAE ∧ (fun (r : Int32) (u : fmM × (Nat → Int64)) => pvGood Tm 250 qX11_yearly [.ref 0, .int (xs (t + 1)), .int (xs (t + 2)), .int (xs (t + 3)), .int (xs (t + 4))] M2 (fun r2 M2' => tJ r2 ∧ I u.1 M2')) 2 (M', f)))) := h0.imp (fun r9 M9 h9 => by
    obtain ⟨h8, h2⟩ := h9
    rcases h8 with ⟨v, rfl⟩ | ⟨-, rfl⟩ | ⟨-, rfl⟩
    · exact h2
    · exact Or.inr ⟨rfl, h2⟩
    · exact Or.inl ⟨rfl, h2⟩)
  refine z_callW C.1 (y' := qL_yearly) (hh := [(0, 13, 16, 31), (0, 13, 20, 13)]) (W0 := WX G g o (fmL Tm (g2, G.2) M2) (M, f)) (WW := WX G g o (fmL Tm (g2, G.2) M2)) (Q := fun (r : Int32) (u : fmM × (Nat → Int64)) => pvGood Tm 250 qX11_yearly [.ref 0, .int (xs (t + 1)), .int (xs (t + 2)), .int (xs (t + 3)), .int (xs (t + 4))] M2 (fun r2 M2' => tJ r2 ∧ I u.1 M2')) (As := [.ref (g 0), .int (xs (t + 1)), .int (xs (t + 2)), .int (xs (t + 3)), .int (xs (t + 4)), .ref o]) (st := []) (pc := 1004) (fm_c5 151 (by eq_refl) rfl) nst_L_yearly niL nw_L_yearly nd_L_yearly rfl rfl (by decide) (show 311 ≤ room_1.frames by decide) (show 8 + (7 + 11) + 18200 ≤ room_1.locals by decide) (rm_c hcu) (rm_s hsu) (fm_dec dtLa_18 5 rfl) (w_yearly C.2.2.2.2.2 hw) (fun r u hQ => ?_)
  obtain ⟨M1, f1⟩ := u
  refine z_istore C.1 (pc := 1007) (i := 5) (by decide) rfl (fm_dec dtLa_18 6 rfl) ?_
  dsimp only [List.set_cons_zero, List.set_cons_succ]
  refine z_aloadn C.1 (pc := 1009) (n := 2) 2 rfl rfl (fm_dec dtLa_18 7 rfl) ?_
  refine la_arg C (pc := 1010) (v := 1) (t + 1) rfl rfl (hi 1 (by decide)) (by decide) (fm_dec dtLa_18 8 rfl) (fm_dec dtLa_18 9 rfl) (fm_dec dtLa_18 10 rfl) (fm_dec dtLa_18 11 rfl) (fm_dec dtLa_18 12 rfl) ?_
  refine la_arg C (pc := 1016) (v := 2) (t + 2) rfl rfl (hi 2 (by decide)) (by decide) (fm_dec dtLa_18 13 rfl) (fm_dec dtLa_18 14 rfl) (fm_dec dtLa_18 15 rfl) (fm_dec dtLa_18 16 rfl) (fm_dec dtLa_18 17 rfl) ?_
  refine la_arg C (pc := 1022) (v := 3) (t + 3) rfl rfl (hi 3 (by decide)) (by decide) (fm_dec dtLa_18 18 rfl) (fm_dec dtLa_18 19 rfl) (fm_dec dtLa_18 20 rfl) (fm_dec dtLa_18 21 rfl) (fm_dec dtLa_18 22 rfl) ?_
  refine la_arg C (pc := 1028) (v := 4) (t + 4) rfl rfl (hi 4 (by decide)) (by decide) (fm_dec dtLa_18 23 rfl) (fm_dec dtLa_18 24 rfl) (fm_dec dtLa_18 25 rfl) (fm_dec dtLa_18 26 rfl) (fm_dec dtLa_18 27 rfl) ?_
  have hcw := hcu1
  have hsw := hsu1
  refine z_perm (ws := (fmL Tx (g, G.2) M1 ++ ((o, .inl (G.2.2.1 1, 1, .inr (.inl f1))) :: fmL Tm (g2, G.2) M2))) (wpermW _ _ _) ?_
  refine la_ref C (pc := 1034) (As := [.int (xs (t + 1)), .int (xs (t + 2)), .int (xs (t + 3)), .int (xs (t + 4))]) (st := []) cvL_210 (by decide +kernel) rfl rfl (Nat.le_of_ble_eq_true rfl) (by decide) hcw hsw (fm_dec dtLa_18 28 rfl) rfl hQ (fun r2 M3 h3 => ?_)
  obtain ⟨⟨v2, rfl⟩, hI3⟩ := h3
  refine z_then1 ?_
  refine z_lstore C.1 (pc := 1037) (i := 6) (by decide) rfl (fm_dec dtLa_18 29 rfl) ?_
  dsimp only [List.set_cons_zero, List.set_cons_succ]
  refine z_goto C.1 (pc := 1039) 1940 (by decide) (fm_dec dtLa_19 0 rfl) ?_
  exact z_perm (wpermB _ _ _) (la_fgt (kk M1 f1 M3 hI3))
set_option maxRecDepth 20000 in
theorem la_c24 {p : Program} {l : Launch} {e : Env} {s : State} {m : MethodId} {below : List Frame} {meth : Method} {c : Code} {G : fmG} {b n : Nat} {xs : Nat → Int32} {I : fmM → fmM → Prop} (hS : laS_brings I) (C : laC p l s m meth c G b n xs) {g g2 : Nat → Nat} {M M2 : fmM} {f : Nat → Int64} {o t : Nat} {i : Int32} {cu su : Nat} (hi : laI n i t) (hcu : cu + 1 ≤ 601024) (hsu : su + 6 ≤ 7293034) (hcu1 : cu + 1 + 1 ≤ 601024) (hsu1 : su + 6 + 6 ≤ 7293034) (hI : I M M2) (kk : ∀ (M' : fmM) (f' : Nat → Int64) (M2' : fmM), I M' M2' → zEv p l e room_1 s m #[.ref b] below meth c G (fun q => s.heap.size ≤ q) 8 (lw_Z below #[.ref b] s) 1940 [some (.ref b), some (.ref (g 0)), some (.ref (g2 0)), some (.ref o), some (.int i), none, none, none] [] (fmL Tx (g, G.2) M' ++ ((o, .inl (G.2.2.1 1, 1, .inr (.inl f'))) :: fmL Tm (g2, G.2) M2')) (cu + 1) (su + 6)) : zEv p l e room_1 s m #[.ref b] below meth c G (fun q => s.heap.size ≤ q) 8 (lw_Z below #[.ref b] s) 1042 [some (.ref b), some (.ref (g 0)), some (.ref (g2 0)), some (.ref o), some (.int i), none, none, none] [] (fmL Tx (g, G.2) M ++ ((o, .inl (G.2.2.1 1, 1, .inr (.inl f))) :: fmL Tm (g2, G.2) M2)) cu su := by
  have h0 := hS M M2 (xs (t + 1)) (xs (t + 2)) (xs (t + 3)) (xs (t + 4)) (xs (t + 5)) (xs (t + 6)) hI
  refine z_aloadn C.1 (pc := 1042) (n := 1) 1 rfl rfl (fm_dec dtLa_19 1 rfl) ?_
  refine la_arg C (pc := 1043) (v := 1) (t + 1) rfl rfl (hi 1 (by decide)) (by decide) (fm_dec dtLa_19 2 rfl) (fm_dec dtLa_19 3 rfl) (fm_dec dtLa_19 4 rfl) (fm_dec dtLa_19 5 rfl) (fm_dec dtLa_19 6 rfl) ?_
  refine la_arg C (pc := 1049) (v := 2) (t + 2) rfl rfl (hi 2 (by decide)) (by decide) (fm_dec dtLa_19 7 rfl) (fm_dec dtLa_19 8 rfl) (fm_dec dtLa_19 9 rfl) (fm_dec dtLa_19 10 rfl) (fm_dec dtLa_19 11 rfl) ?_
  refine la_arg C (pc := 1055) (v := 3) (t + 3) rfl rfl (hi 3 (by decide)) (by decide) (fm_dec dtLa_19 12 rfl) (fm_dec dtLa_19 13 rfl) (fm_dec dtLa_19 14 rfl) (fm_dec dtLa_19 15 rfl) (fm_dec dtLa_19 16 rfl) ?_
  refine la_arg C (pc := 1061) (v := 4) (t + 4) rfl rfl (hi 4 (by decide)) (by decide) (fm_dec dtLa_19 17 rfl) (fm_dec dtLa_19 18 rfl) (fm_dec dtLa_19 19 rfl) (fm_dec dtLa_19 20 rfl) (fm_dec dtLa_19 21 rfl) ?_
  refine la_arg C (pc := 1067) (v := 5) (t + 5) rfl rfl (hi 5 (by decide)) (by decide) (fm_dec dtLa_19 22 rfl) (fm_dec dtLa_19 23 rfl) (fm_dec dtLa_19 24 rfl) (fm_dec dtLa_19 25 rfl) (fm_dec dtLa_19 26 rfl) ?_
  refine la_arg6 C (pc := 1073) (v := 6) (t + 6) rfl rfl (hi 6 (by decide)) (by decide) (fm_dec dtLa_19 27 rfl) (fm_dec dtLa_19 28 rfl) (fm_dec dtLa_19 29 rfl) (fm_dec dtLa_20 0 rfl) (fm_dec dtLa_20 1 rfl) ?_
  refine z_aloadn C.1 (pc := 1080) (n := 3) 3 rfl rfl (fm_dec dtLa_20 2 rfl) ?_
  have hw : pvGood Tx 250 qX10_brings [.ref 0, .int (xs (t + 1)), .int (xs (t + 2)), .int (xs (t + 3)), .int (xs (t + 4)), .int (xs (t + 5)), .int (xs (t + 6))] M (wI f (fun (r : Int32) (u : fmM × (Nat → Int64)) => pvGood Tm 250 qX11_brings [.ref 0, .int (xs (t + 1)), .int (xs (t + 2)), .int (xs (t + 3)), .int (xs (t + 4)), .int (xs (t + 5)), .int (xs (t + 6))] M2 (fun r2 M2' => tI r2 ∧ I u.1 M2')) (fun E M' => (E = fmIAE ∧ (fun (r : Int32) (u : fmM × (Nat → Int64)) => pvGood Tm 250 qX11_brings [.ref 0, .int (xs (t + 1)), .int (xs (t + 2)), .int (xs (t + 3)), .int (xs (t + 4)), .int (xs (t + 5)), .int (xs (t + 6))] M2 (fun r2 M2' => tI r2 ∧ I u.1 M2')) 1 (M', f)))) := h0.imp (fun r9 M9 h9 => by
    obtain ⟨h8, h2⟩ := h9
    rcases h8 with ⟨v, rfl⟩ | ⟨h6, rfl⟩ | ⟨h6, rfl⟩
    · exact h2
    · exact ⟨rfl, h2⟩
    · exact absurd h6 (by decide))
  refine z_callW C.1 (y' := qL_brings) (hh := [(0, 18, 21, 13)]) (W0 := WX G g o (fmL Tm (g2, G.2) M2) (M, f)) (WW := WX G g o (fmL Tm (g2, G.2) M2)) (Q := fun (r : Int32) (u : fmM × (Nat → Int64)) => pvGood Tm 250 qX11_brings [.ref 0, .int (xs (t + 1)), .int (xs (t + 2)), .int (xs (t + 3)), .int (xs (t + 4)), .int (xs (t + 5)), .int (xs (t + 6))] M2 (fun r2 M2' => tI r2 ∧ I u.1 M2')) (As := [.ref (g 0), .int (xs (t + 1)), .int (xs (t + 2)), .int (xs (t + 3)), .int (xs (t + 4)), .int (xs (t + 5)), .int (xs (t + 6)), .ref o]) (st := []) (pc := 1081) (fm_c5 158 (by eq_refl) rfl) nst_L_brings niL nw_L_brings nd_L_brings rfl rfl (by decide) (show 311 ≤ room_1.frames by decide) (show 8 + (9 + 11) + 18200 ≤ room_1.locals by decide) (rm_c hcu) (rm_s hsu) (fm_dec dtLa_20 3 rfl) (w_brings C.2.2.2.2.2 hw) (fun r u hQ => ?_)
  obtain ⟨M1, f1⟩ := u
  refine z_istore C.1 (pc := 1084) (i := 5) (by decide) rfl (fm_dec dtLa_20 4 rfl) ?_
  dsimp only [List.set_cons_zero, List.set_cons_succ]
  refine z_aloadn C.1 (pc := 1086) (n := 2) 2 rfl rfl (fm_dec dtLa_20 5 rfl) ?_
  refine la_arg C (pc := 1087) (v := 1) (t + 1) rfl rfl (hi 1 (by decide)) (by decide) (fm_dec dtLa_20 6 rfl) (fm_dec dtLa_20 7 rfl) (fm_dec dtLa_20 8 rfl) (fm_dec dtLa_20 9 rfl) (fm_dec dtLa_20 10 rfl) ?_
  refine la_arg C (pc := 1093) (v := 2) (t + 2) rfl rfl (hi 2 (by decide)) (by decide) (fm_dec dtLa_20 11 rfl) (fm_dec dtLa_20 12 rfl) (fm_dec dtLa_20 13 rfl) (fm_dec dtLa_20 14 rfl) (fm_dec dtLa_20 15 rfl) ?_
  refine la_arg C (pc := 1099) (v := 3) (t + 3) rfl rfl (hi 3 (by decide)) (by decide) (fm_dec dtLa_20 16 rfl) (fm_dec dtLa_20 17 rfl) (fm_dec dtLa_20 18 rfl) (fm_dec dtLa_20 19 rfl) (fm_dec dtLa_20 20 rfl) ?_
  refine la_arg C (pc := 1105) (v := 4) (t + 4) rfl rfl (hi 4 (by decide)) (by decide) (fm_dec dtLa_20 21 rfl) (fm_dec dtLa_20 22 rfl) (fm_dec dtLa_20 23 rfl) (fm_dec dtLa_20 24 rfl) (fm_dec dtLa_20 25 rfl) ?_
  refine la_arg C (pc := 1111) (v := 5) (t + 5) rfl rfl (hi 5 (by decide)) (by decide) (fm_dec dtLa_20 26 rfl) (fm_dec dtLa_20 27 rfl) (fm_dec dtLa_20 28 rfl) (fm_dec dtLa_20 29 rfl) (fm_dec dtLa_21 0 rfl) ?_
  refine la_arg6 C (pc := 1117) (v := 6) (t + 6) rfl rfl (hi 6 (by decide)) (by decide) (fm_dec dtLa_21 1 rfl) (fm_dec dtLa_21 2 rfl) (fm_dec dtLa_21 3 rfl) (fm_dec dtLa_21 4 rfl) (fm_dec dtLa_21 5 rfl) ?_
  have hcw := hcu1
  have hsw := hsu1
  refine z_perm (ws := (fmL Tx (g, G.2) M1 ++ ((o, .inl (G.2.2.1 1, 1, .inr (.inl f1))) :: fmL Tm (g2, G.2) M2))) (wpermW _ _ _) ?_
  refine la_ref C (pc := 1124) (As := [.int (xs (t + 1)), .int (xs (t + 2)), .int (xs (t + 3)), .int (xs (t + 4)), .int (xs (t + 5)), .int (xs (t + 6))]) (st := []) cvL_214 (by decide +kernel) rfl rfl (Nat.le_of_ble_eq_true rfl) (by decide) hcw hsw (fm_dec dtLa_21 6 rfl) rfl hQ (fun r2 M3 h3 => ?_)
  obtain ⟨⟨v2, rfl⟩, hI3⟩ := h3
  refine z_then1 ?_
  refine z_istore C.1 (pc := 1127) (i := 6) (by decide) rfl (fm_dec dtLa_21 7 rfl) ?_
  dsimp only [List.set_cons_zero, List.set_cons_succ]
  refine z_goto C.1 (pc := 1129) 1940 (by decide) (fm_dec dtLa_21 8 rfl) ?_
  exact z_perm (wpermB _ _ _) (la_fgt (kk M1 f1 M3 hI3))
set_option maxRecDepth 20000 in
theorem la_c25 {p : Program} {l : Launch} {e : Env} {s : State} {m : MethodId} {below : List Frame} {meth : Method} {c : Code} {G : fmG} {b n : Nat} {xs : Nat → Int32} {I : fmM → fmM → Prop} (hS : laS_says I) (C : laC p l s m meth c G b n xs) {g g2 : Nat → Nat} {M M2 : fmM} {f : Nat → Int64} {o t : Nat} {i : Int32} {cu su : Nat} (hi : laI n i t) (hcu : cu + 1 ≤ 601024) (hsu : su + 6 ≤ 7293034) (hcu1 : cu + 1 + 1 ≤ 601024) (hsu1 : su + 6 + 6 ≤ 7293034) (hI : I M M2) (kk : ∀ (M' : fmM) (f' : Nat → Int64) (M2' : fmM), I M' M2' → zEv p l e room_1 s m #[.ref b] below meth c G (fun q => s.heap.size ≤ q) 8 (lw_Z below #[.ref b] s) 1940 [some (.ref b), some (.ref (g 0)), some (.ref (g2 0)), some (.ref o), some (.int i), none, none, none] [] (fmL Tx (g, G.2) M' ++ ((o, .inl (G.2.2.1 1, 1, .inr (.inl f'))) :: fmL Tm (g2, G.2) M2')) (cu + 1) (su + 6)) : zEv p l e room_1 s m #[.ref b] below meth c G (fun q => s.heap.size ≤ q) 8 (lw_Z below #[.ref b] s) 1132 [some (.ref b), some (.ref (g 0)), some (.ref (g2 0)), some (.ref o), some (.int i), none, none, none] [] (fmL Tx (g, G.2) M ++ ((o, .inl (G.2.2.1 1, 1, .inr (.inl f))) :: fmL Tm (g2, G.2) M2)) cu su := by
  have h0 := hS M M2 (xs (t + 1)) (xs (t + 2)) (xs (t + 3)) (xs (t + 4)) (xs (t + 5)) hI
  refine z_aloadn C.1 (pc := 1132) (n := 1) 1 rfl rfl (fm_dec dtLa_21 9 rfl) ?_
  refine la_arg C (pc := 1133) (v := 1) (t + 1) rfl rfl (hi 1 (by decide)) (by decide) (fm_dec dtLa_21 10 rfl) (fm_dec dtLa_21 11 rfl) (fm_dec dtLa_21 12 rfl) (fm_dec dtLa_21 13 rfl) (fm_dec dtLa_21 14 rfl) ?_
  refine la_arg C (pc := 1139) (v := 2) (t + 2) rfl rfl (hi 2 (by decide)) (by decide) (fm_dec dtLa_21 15 rfl) (fm_dec dtLa_21 16 rfl) (fm_dec dtLa_21 17 rfl) (fm_dec dtLa_21 18 rfl) (fm_dec dtLa_21 19 rfl) ?_
  refine la_arg C (pc := 1145) (v := 3) (t + 3) rfl rfl (hi 3 (by decide)) (by decide) (fm_dec dtLa_21 20 rfl) (fm_dec dtLa_21 21 rfl) (fm_dec dtLa_21 22 rfl) (fm_dec dtLa_21 23 rfl) (fm_dec dtLa_21 24 rfl) ?_
  refine la_arg C (pc := 1151) (v := 4) (t + 4) rfl rfl (hi 4 (by decide)) (by decide) (fm_dec dtLa_21 25 rfl) (fm_dec dtLa_21 26 rfl) (fm_dec dtLa_21 27 rfl) (fm_dec dtLa_21 28 rfl) (fm_dec dtLa_21 29 rfl) ?_
  refine la_arg C (pc := 1157) (v := 5) (t + 5) rfl rfl (hi 5 (by decide)) (by decide) (fm_dec dtLa_22 0 rfl) (fm_dec dtLa_22 1 rfl) (fm_dec dtLa_22 2 rfl) (fm_dec dtLa_22 3 rfl) (fm_dec dtLa_22 4 rfl) ?_
  refine z_aloadn C.1 (pc := 1163) (n := 3) 3 rfl rfl (fm_dec dtLa_22 5 rfl) ?_
  have hw : pvGood Tx 250 qX10_says [.ref 0, .int (xs (t + 1)), .int (xs (t + 2)), .int (xs (t + 3)), .int (xs (t + 4)), .int (xs (t + 5))] M (wI f (fun (r : Int32) (u : fmM × (Nat → Int64)) => pvGood Tm 250 qX11_says [.ref 0, .int (xs (t + 1)), .int (xs (t + 2)), .int (xs (t + 3)), .int (xs (t + 4)), .int (xs (t + 5))] M2 (fun r2 M2' => tI r2 ∧ I u.1 M2')) (fun E M' => (E = fmIAE ∧ (fun (r : Int32) (u : fmM × (Nat → Int64)) => pvGood Tm 250 qX11_says [.ref 0, .int (xs (t + 1)), .int (xs (t + 2)), .int (xs (t + 3)), .int (xs (t + 4)), .int (xs (t + 5))] M2 (fun r2 M2' => tI r2 ∧ I u.1 M2')) 1 (M', f)))) := h0.imp (fun r9 M9 h9 => by
    obtain ⟨h8, h2⟩ := h9
    rcases h8 with ⟨v, rfl⟩ | ⟨h6, rfl⟩ | ⟨h6, rfl⟩
    · exact h2
    · exact ⟨rfl, h2⟩
    · exact absurd h6 (by decide))
  refine z_callW C.1 (y' := qL_says) (hh := [(0, 16, 19, 13)]) (W0 := WX G g o (fmL Tm (g2, G.2) M2) (M, f)) (WW := WX G g o (fmL Tm (g2, G.2) M2)) (Q := fun (r : Int32) (u : fmM × (Nat → Int64)) => pvGood Tm 250 qX11_says [.ref 0, .int (xs (t + 1)), .int (xs (t + 2)), .int (xs (t + 3)), .int (xs (t + 4)), .int (xs (t + 5))] M2 (fun r2 M2' => tI r2 ∧ I u.1 M2')) (As := [.ref (g 0), .int (xs (t + 1)), .int (xs (t + 2)), .int (xs (t + 3)), .int (xs (t + 4)), .int (xs (t + 5)), .ref o]) (st := []) (pc := 1164) (fm_c5 172 (by eq_refl) rfl) nst_L_says niL nw_L_says nd_L_says rfl rfl (by decide) (show 311 ≤ room_1.frames by decide) (show 8 + (8 + 11) + 18200 ≤ room_1.locals by decide) (rm_c hcu) (rm_s hsu) (fm_dec dtLa_22 6 rfl) (w_says C.2.2.2.2.2 hw) (fun r u hQ => ?_)
  obtain ⟨M1, f1⟩ := u
  refine z_istore C.1 (pc := 1167) (i := 5) (by decide) rfl (fm_dec dtLa_22 7 rfl) ?_
  dsimp only [List.set_cons_zero, List.set_cons_succ]
  refine z_aloadn C.1 (pc := 1169) (n := 2) 2 rfl rfl (fm_dec dtLa_22 8 rfl) ?_
  refine la_arg C (pc := 1170) (v := 1) (t + 1) rfl rfl (hi 1 (by decide)) (by decide) (fm_dec dtLa_22 9 rfl) (fm_dec dtLa_22 10 rfl) (fm_dec dtLa_22 11 rfl) (fm_dec dtLa_22 12 rfl) (fm_dec dtLa_22 13 rfl) ?_
  refine la_arg C (pc := 1176) (v := 2) (t + 2) rfl rfl (hi 2 (by decide)) (by decide) (fm_dec dtLa_22 14 rfl) (fm_dec dtLa_22 15 rfl) (fm_dec dtLa_22 16 rfl) (fm_dec dtLa_22 17 rfl) (fm_dec dtLa_22 18 rfl) ?_
  refine la_arg C (pc := 1182) (v := 3) (t + 3) rfl rfl (hi 3 (by decide)) (by decide) (fm_dec dtLa_22 19 rfl) (fm_dec dtLa_22 20 rfl) (fm_dec dtLa_22 21 rfl) (fm_dec dtLa_22 22 rfl) (fm_dec dtLa_22 23 rfl) ?_
  refine la_arg C (pc := 1188) (v := 4) (t + 4) rfl rfl (hi 4 (by decide)) (by decide) (fm_dec dtLa_22 24 rfl) (fm_dec dtLa_22 25 rfl) (fm_dec dtLa_22 26 rfl) (fm_dec dtLa_22 27 rfl) (fm_dec dtLa_22 28 rfl) ?_
  refine la_arg C (pc := 1194) (v := 5) (t + 5) rfl rfl (hi 5 (by decide)) (by decide) (fm_dec dtLa_22 29 rfl) (fm_dec dtLa_23 0 rfl) (fm_dec dtLa_23 1 rfl) (fm_dec dtLa_23 2 rfl) (fm_dec dtLa_23 3 rfl) ?_
  have hcw := hcu1
  have hsw := hsu1
  refine z_perm (ws := (fmL Tx (g, G.2) M1 ++ ((o, .inl (G.2.2.1 1, 1, .inr (.inl f1))) :: fmL Tm (g2, G.2) M2))) (wpermW _ _ _) ?_
  refine la_ref C (pc := 1200) (As := [.int (xs (t + 1)), .int (xs (t + 2)), .int (xs (t + 3)), .int (xs (t + 4)), .int (xs (t + 5))]) (st := []) cvL_217 (by decide +kernel) rfl rfl (Nat.le_of_ble_eq_true rfl) (by decide) hcw hsw (fm_dec dtLa_23 4 rfl) rfl hQ (fun r2 M3 h3 => ?_)
  obtain ⟨⟨v2, rfl⟩, hI3⟩ := h3
  refine z_then1 ?_
  refine z_istore C.1 (pc := 1203) (i := 6) (by decide) rfl (fm_dec dtLa_23 5 rfl) ?_
  dsimp only [List.set_cons_zero, List.set_cons_succ]
  refine z_goto C.1 (pc := 1205) 1940 (by decide) (fm_dec dtLa_23 6 rfl) ?_
  exact z_perm (wpermB _ _ _) (la_fgt (kk M1 f1 M3 hI3))
set_option maxRecDepth 20000 in
theorem la_c26 {p : Program} {l : Launch} {e : Env} {s : State} {m : MethodId} {below : List Frame} {meth : Method} {c : Code} {G : fmG} {b n : Nat} {xs : Nat → Int32} {I : fmM → fmM → Prop} (hS : laS_line I) (C : laC p l s m meth c G b n xs) {g g2 : Nat → Nat} {M M2 : fmM} {f : Nat → Int64} {o t : Nat} {i : Int32} {cu su : Nat} (hi : laI n i t) (hcu : cu + 1 ≤ 601024) (hsu : su + 6 ≤ 7293034) (hcu1 : cu + 1 + 1 ≤ 601024) (hsu1 : su + 6 + 6 ≤ 7293034) (hI : I M M2) (kk : ∀ (M' : fmM) (f' : Nat → Int64) (M2' : fmM), I M' M2' → zEv p l e room_1 s m #[.ref b] below meth c G (fun q => s.heap.size ≤ q) 8 (lw_Z below #[.ref b] s) 1940 [some (.ref b), some (.ref (g 0)), some (.ref (g2 0)), some (.ref o), some (.int i), none, none, none] [] (fmL Tx (g, G.2) M' ++ ((o, .inl (G.2.2.1 1, 1, .inr (.inl f'))) :: fmL Tm (g2, G.2) M2')) (cu + 1) (su + 6)) : zEv p l e room_1 s m #[.ref b] below meth c G (fun q => s.heap.size ≤ q) 8 (lw_Z below #[.ref b] s) 1208 [some (.ref b), some (.ref (g 0)), some (.ref (g2 0)), some (.ref o), some (.int i), none, none, none] [] (fmL Tx (g, G.2) M ++ ((o, .inl (G.2.2.1 1, 1, .inr (.inl f))) :: fmL Tm (g2, G.2) M2)) cu su := by
  have h0 := hS M M2 (xs (t + 1)) (xs (t + 2)) (xs (t + 3)) (xs (t + 4)) hI
  refine z_aloadn C.1 (pc := 1208) (n := 1) 1 rfl rfl (fm_dec dtLa_23 7 rfl) ?_
  refine la_arg C (pc := 1209) (v := 1) (t + 1) rfl rfl (hi 1 (by decide)) (by decide) (fm_dec dtLa_23 8 rfl) (fm_dec dtLa_23 9 rfl) (fm_dec dtLa_23 10 rfl) (fm_dec dtLa_23 11 rfl) (fm_dec dtLa_23 12 rfl) ?_
  refine la_arg C (pc := 1215) (v := 2) (t + 2) rfl rfl (hi 2 (by decide)) (by decide) (fm_dec dtLa_23 13 rfl) (fm_dec dtLa_23 14 rfl) (fm_dec dtLa_23 15 rfl) (fm_dec dtLa_23 16 rfl) (fm_dec dtLa_23 17 rfl) ?_
  refine la_arg C (pc := 1221) (v := 3) (t + 3) rfl rfl (hi 3 (by decide)) (by decide) (fm_dec dtLa_23 18 rfl) (fm_dec dtLa_23 19 rfl) (fm_dec dtLa_23 20 rfl) (fm_dec dtLa_23 21 rfl) (fm_dec dtLa_23 22 rfl) ?_
  refine la_arg C (pc := 1227) (v := 4) (t + 4) rfl rfl (hi 4 (by decide)) (by decide) (fm_dec dtLa_23 23 rfl) (fm_dec dtLa_23 24 rfl) (fm_dec dtLa_23 25 rfl) (fm_dec dtLa_23 26 rfl) (fm_dec dtLa_23 27 rfl) ?_
  refine z_aloadn C.1 (pc := 1233) (n := 3) 3 rfl rfl (fm_dec dtLa_23 28 rfl) ?_
  have hw : pvGood Tx 250 qX10_line [.ref 0, .int (xs (t + 1)), .int (xs (t + 2)), .int (xs (t + 3)), .int (xs (t + 4))] M (wI f (fun (r : Int32) (u : fmM × (Nat → Int64)) => pvGood Tm 250 qX11_line [.ref 0, .int (xs (t + 1)), .int (xs (t + 2)), .int (xs (t + 3)), .int (xs (t + 4))] M2 (fun r2 M2' => tI r2 ∧ I u.1 M2')) (fun E M' => (E = fmIAE ∧ (fun (r : Int32) (u : fmM × (Nat → Int64)) => pvGood Tm 250 qX11_line [.ref 0, .int (xs (t + 1)), .int (xs (t + 2)), .int (xs (t + 3)), .int (xs (t + 4))] M2 (fun r2 M2' => tI r2 ∧ I u.1 M2')) 1 (M', f)))) := h0.imp (fun r9 M9 h9 => by
    obtain ⟨h8, h2⟩ := h9
    rcases h8 with ⟨v, rfl⟩ | ⟨h6, rfl⟩ | ⟨h6, rfl⟩
    · exact h2
    · exact ⟨rfl, h2⟩
    · exact absurd h6 (by decide))
  refine z_callW C.1 (y' := qL_line) (hh := [(0, 14, 17, 13)]) (W0 := WX G g o (fmL Tm (g2, G.2) M2) (M, f)) (WW := WX G g o (fmL Tm (g2, G.2) M2)) (Q := fun (r : Int32) (u : fmM × (Nat → Int64)) => pvGood Tm 250 qX11_line [.ref 0, .int (xs (t + 1)), .int (xs (t + 2)), .int (xs (t + 3)), .int (xs (t + 4))] M2 (fun r2 M2' => tI r2 ∧ I u.1 M2')) (As := [.ref (g 0), .int (xs (t + 1)), .int (xs (t + 2)), .int (xs (t + 3)), .int (xs (t + 4)), .ref o]) (st := []) (pc := 1234) (fm_c5 182 (by eq_refl) rfl) nst_L_line niL nw_L_line nd_L_line rfl rfl (by decide) (show 311 ≤ room_1.frames by decide) (show 8 + (7 + 11) + 18200 ≤ room_1.locals by decide) (rm_c hcu) (rm_s hsu) (fm_dec dtLa_23 29 rfl) (w_line C.2.2.2.2.2 hw) (fun r u hQ => ?_)
  obtain ⟨M1, f1⟩ := u
  refine z_istore C.1 (pc := 1237) (i := 5) (by decide) rfl (fm_dec dtLa_24 0 rfl) ?_
  dsimp only [List.set_cons_zero, List.set_cons_succ]
  refine z_aloadn C.1 (pc := 1239) (n := 2) 2 rfl rfl (fm_dec dtLa_24 1 rfl) ?_
  refine la_arg C (pc := 1240) (v := 1) (t + 1) rfl rfl (hi 1 (by decide)) (by decide) (fm_dec dtLa_24 2 rfl) (fm_dec dtLa_24 3 rfl) (fm_dec dtLa_24 4 rfl) (fm_dec dtLa_24 5 rfl) (fm_dec dtLa_24 6 rfl) ?_
  refine la_arg C (pc := 1246) (v := 2) (t + 2) rfl rfl (hi 2 (by decide)) (by decide) (fm_dec dtLa_24 7 rfl) (fm_dec dtLa_24 8 rfl) (fm_dec dtLa_24 9 rfl) (fm_dec dtLa_24 10 rfl) (fm_dec dtLa_24 11 rfl) ?_
  refine la_arg C (pc := 1252) (v := 3) (t + 3) rfl rfl (hi 3 (by decide)) (by decide) (fm_dec dtLa_24 12 rfl) (fm_dec dtLa_24 13 rfl) (fm_dec dtLa_24 14 rfl) (fm_dec dtLa_24 15 rfl) (fm_dec dtLa_24 16 rfl) ?_
  refine la_arg C (pc := 1258) (v := 4) (t + 4) rfl rfl (hi 4 (by decide)) (by decide) (fm_dec dtLa_24 17 rfl) (fm_dec dtLa_24 18 rfl) (fm_dec dtLa_24 19 rfl) (fm_dec dtLa_24 20 rfl) (fm_dec dtLa_24 21 rfl) ?_
  have hcw := hcu1
  have hsw := hsu1
  refine z_perm (ws := (fmL Tx (g, G.2) M1 ++ ((o, .inl (G.2.2.1 1, 1, .inr (.inl f1))) :: fmL Tm (g2, G.2) M2))) (wpermW _ _ _) ?_
  refine la_ref C (pc := 1264) (As := [.int (xs (t + 1)), .int (xs (t + 2)), .int (xs (t + 3)), .int (xs (t + 4))]) (st := []) cvL_220 (by decide +kernel) rfl rfl (Nat.le_of_ble_eq_true rfl) (by decide) hcw hsw (fm_dec dtLa_24 22 rfl) rfl hQ (fun r2 M3 h3 => ?_)
  obtain ⟨⟨v2, rfl⟩, hI3⟩ := h3
  refine z_then1 ?_
  refine z_istore C.1 (pc := 1267) (i := 6) (by decide) rfl (fm_dec dtLa_24 23 rfl) ?_
  dsimp only [List.set_cons_zero, List.set_cons_succ]
  refine z_goto C.1 (pc := 1269) 1940 (by decide) (fm_dec dtLa_24 24 rfl) ?_
  exact z_perm (wpermB _ _ _) (la_fgt (kk M1 f1 M3 hI3))
set_option maxRecDepth 20000 in
theorem la_c27 {p : Program} {l : Launch} {e : Env} {s : State} {m : MethodId} {below : List Frame} {meth : Method} {c : Code} {G : fmG} {b n : Nat} {xs : Nat → Int32} {I : fmM → fmM → Prop} (hS : laS_room I) (C : laC p l s m meth c G b n xs) {g g2 : Nat → Nat} {M M2 : fmM} {f : Nat → Int64} {o t : Nat} {i : Int32} {cu su : Nat} (hi : laI n i t) (hcu : cu + 1 ≤ 601024) (hsu : su + 6 ≤ 7293034) (hcu1 : cu + 1 + 1 ≤ 601024) (hsu1 : su + 6 + 6 ≤ 7293034) (hI : I M M2) (kk : ∀ (M' : fmM) (f' : Nat → Int64) (M2' : fmM), I M' M2' → zEv p l e room_1 s m #[.ref b] below meth c G (fun q => s.heap.size ≤ q) 8 (lw_Z below #[.ref b] s) 1940 [some (.ref b), some (.ref (g 0)), some (.ref (g2 0)), some (.ref o), some (.int i), none, none, none] [] (fmL Tx (g, G.2) M' ++ ((o, .inl (G.2.2.1 1, 1, .inr (.inl f'))) :: fmL Tm (g2, G.2) M2')) (cu + 1) (su + 6)) : zEv p l e room_1 s m #[.ref b] below meth c G (fun q => s.heap.size ≤ q) 8 (lw_Z below #[.ref b] s) 1272 [some (.ref b), some (.ref (g 0)), some (.ref (g2 0)), some (.ref o), some (.int i), none, none, none] [] (fmL Tx (g, G.2) M ++ ((o, .inl (G.2.2.1 1, 1, .inr (.inl f))) :: fmL Tm (g2, G.2) M2)) cu su := by
  have h0 := hS M M2 (xs (t + 1)) (xs (t + 2)) hI
  refine z_aloadn C.1 (pc := 1272) (n := 1) 1 rfl rfl (fm_dec dtLa_24 25 rfl) ?_
  refine la_arg C (pc := 1273) (v := 1) (t + 1) rfl rfl (hi 1 (by decide)) (by decide) (fm_dec dtLa_24 26 rfl) (fm_dec dtLa_24 27 rfl) (fm_dec dtLa_24 28 rfl) (fm_dec dtLa_24 29 rfl) (fm_dec dtLa_25 0 rfl) ?_
  refine la_arg C (pc := 1279) (v := 2) (t + 2) rfl rfl (hi 2 (by decide)) (by decide) (fm_dec dtLa_25 1 rfl) (fm_dec dtLa_25 2 rfl) (fm_dec dtLa_25 3 rfl) (fm_dec dtLa_25 4 rfl) (fm_dec dtLa_25 5 rfl) ?_
  refine z_aloadn C.1 (pc := 1285) (n := 3) 3 rfl rfl (fm_dec dtLa_25 6 rfl) ?_
  have hw : pvGood Tx 250 qX10_room [.ref 0, .int (xs (t + 1)), .int (xs (t + 2))] M (wI f (fun (r : Int32) (u : fmM × (Nat → Int64)) => pvGood Tm 250 qX11_room [.ref 0, .int (xs (t + 1)), .int (xs (t + 2))] M2 (fun r2 M2' => tI r2 ∧ I u.1 M2')) (fun E M' => (E = fmIAE ∧ (fun (r : Int32) (u : fmM × (Nat → Int64)) => pvGood Tm 250 qX11_room [.ref 0, .int (xs (t + 1)), .int (xs (t + 2))] M2 (fun r2 M2' => tI r2 ∧ I u.1 M2')) 1 (M', f)))) := h0.imp (fun r9 M9 h9 => by
    obtain ⟨h8, h2⟩ := h9
    rcases h8 with ⟨v, rfl⟩ | ⟨h6, rfl⟩ | ⟨h6, rfl⟩
    · exact h2
    · exact ⟨rfl, h2⟩
    · exact absurd h6 (by decide))
  refine z_callW C.1 (y' := qL_room) (hh := [(0, 10, 13, 13)]) (W0 := WX G g o (fmL Tm (g2, G.2) M2) (M, f)) (WW := WX G g o (fmL Tm (g2, G.2) M2)) (Q := fun (r : Int32) (u : fmM × (Nat → Int64)) => pvGood Tm 250 qX11_room [.ref 0, .int (xs (t + 1)), .int (xs (t + 2))] M2 (fun r2 M2' => tI r2 ∧ I u.1 M2')) (As := [.ref (g 0), .int (xs (t + 1)), .int (xs (t + 2)), .ref o]) (st := []) (pc := 1286) (fm_c5 189 (by eq_refl) rfl) nst_L_room niL nw_L_room nd_L_room rfl rfl (by decide) (show 311 ≤ room_1.frames by decide) (show 8 + (5 + 11) + 18200 ≤ room_1.locals by decide) (rm_c hcu) (rm_s hsu) (fm_dec dtLa_25 7 rfl) (w_room C.2.2.2.2.2 hw) (fun r u hQ => ?_)
  obtain ⟨M1, f1⟩ := u
  refine z_istore C.1 (pc := 1289) (i := 5) (by decide) rfl (fm_dec dtLa_25 8 rfl) ?_
  dsimp only [List.set_cons_zero, List.set_cons_succ]
  refine z_aloadn C.1 (pc := 1291) (n := 2) 2 rfl rfl (fm_dec dtLa_25 9 rfl) ?_
  refine la_arg C (pc := 1292) (v := 1) (t + 1) rfl rfl (hi 1 (by decide)) (by decide) (fm_dec dtLa_25 10 rfl) (fm_dec dtLa_25 11 rfl) (fm_dec dtLa_25 12 rfl) (fm_dec dtLa_25 13 rfl) (fm_dec dtLa_25 14 rfl) ?_
  refine la_arg C (pc := 1298) (v := 2) (t + 2) rfl rfl (hi 2 (by decide)) (by decide) (fm_dec dtLa_25 15 rfl) (fm_dec dtLa_25 16 rfl) (fm_dec dtLa_25 17 rfl) (fm_dec dtLa_25 18 rfl) (fm_dec dtLa_25 19 rfl) ?_
  have hcw := hcu1
  have hsw := hsu1
  refine z_perm (ws := (fmL Tx (g, G.2) M1 ++ ((o, .inl (G.2.2.1 1, 1, .inr (.inl f1))) :: fmL Tm (g2, G.2) M2))) (wpermW _ _ _) ?_
  refine la_ref C (pc := 1304) (As := [.int (xs (t + 1)), .int (xs (t + 2))]) (st := []) cvL_223 (by decide +kernel) rfl rfl (Nat.le_of_ble_eq_true rfl) (by decide) hcw hsw (fm_dec dtLa_25 20 rfl) rfl hQ (fun r2 M3 h3 => ?_)
  obtain ⟨⟨v2, rfl⟩, hI3⟩ := h3
  refine z_then1 ?_
  refine z_istore C.1 (pc := 1307) (i := 6) (by decide) rfl (fm_dec dtLa_25 21 rfl) ?_
  dsimp only [List.set_cons_zero, List.set_cons_succ]
  refine z_goto C.1 (pc := 1309) 1940 (by decide) (fm_dec dtLa_25 22 rfl) ?_
  exact z_perm (wpermB _ _ _) (la_fgt (kk M1 f1 M3 hI3))
set_option maxRecDepth 20000 in
theorem la_c28 {p : Program} {l : Launch} {e : Env} {s : State} {m : MethodId} {below : List Frame} {meth : Method} {c : Code} {G : fmG} {b n : Nat} {xs : Nat → Int32} {I : fmM → fmM → Prop} (hS : laS_lines I) (C : laC p l s m meth c G b n xs) {g g2 : Nat → Nat} {M M2 : fmM} {f : Nat → Int64} {o t : Nat} {i : Int32} {cu su : Nat} (hi : laI n i t) (hcu : cu + 1 ≤ 601024) (hsu : su + 6 ≤ 7293034) (hcu1 : cu + 1 + 1 ≤ 601024) (hsu1 : su + 6 + 6 ≤ 7293034) (hI : I M M2) (kk : ∀ (M' : fmM) (f' : Nat → Int64) (M2' : fmM), I M' M2' → zEv p l e room_1 s m #[.ref b] below meth c G (fun q => s.heap.size ≤ q) 8 (lw_Z below #[.ref b] s) 1940 [some (.ref b), some (.ref (g 0)), some (.ref (g2 0)), some (.ref o), some (.int i), none, none, none] [] (fmL Tx (g, G.2) M' ++ ((o, .inl (G.2.2.1 1, 1, .inr (.inl f'))) :: fmL Tm (g2, G.2) M2')) (cu + 1) (su + 6)) : zEv p l e room_1 s m #[.ref b] below meth c G (fun q => s.heap.size ≤ q) 8 (lw_Z below #[.ref b] s) 1312 [some (.ref b), some (.ref (g 0)), some (.ref (g2 0)), some (.ref o), some (.int i), none, none, none] [] (fmL Tx (g, G.2) M ++ ((o, .inl (G.2.2.1 1, 1, .inr (.inl f))) :: fmL Tm (g2, G.2) M2)) cu su := by
  have h0 := hS M M2 (xs (t + 1)) (xs (t + 2)) (xs (t + 3)) hI
  refine z_aloadn C.1 (pc := 1312) (n := 1) 1 rfl rfl (fm_dec dtLa_25 23 rfl) ?_
  refine la_arg C (pc := 1313) (v := 1) (t + 1) rfl rfl (hi 1 (by decide)) (by decide) (fm_dec dtLa_25 24 rfl) (fm_dec dtLa_25 25 rfl) (fm_dec dtLa_25 26 rfl) (fm_dec dtLa_25 27 rfl) (fm_dec dtLa_25 28 rfl) ?_
  refine la_arg C (pc := 1319) (v := 2) (t + 2) rfl rfl (hi 2 (by decide)) (by decide) (fm_dec dtLa_25 29 rfl) (fm_dec dtLa_26 0 rfl) (fm_dec dtLa_26 1 rfl) (fm_dec dtLa_26 2 rfl) (fm_dec dtLa_26 3 rfl) ?_
  refine la_arg C (pc := 1325) (v := 3) (t + 3) rfl rfl (hi 3 (by decide)) (by decide) (fm_dec dtLa_26 4 rfl) (fm_dec dtLa_26 5 rfl) (fm_dec dtLa_26 6 rfl) (fm_dec dtLa_26 7 rfl) (fm_dec dtLa_26 8 rfl) ?_
  refine z_aloadn C.1 (pc := 1331) (n := 3) 3 rfl rfl (fm_dec dtLa_26 9 rfl) ?_
  have hw : pvGood Tx 250 qX10_lines [.ref 0, .int (xs (t + 1)), .int (xs (t + 2)), .int (xs (t + 3))] M (wI f (fun (r : Int32) (u : fmM × (Nat → Int64)) => pvGood Tm 250 qX11_lines [.ref 0, .int (xs (t + 1)), .int (xs (t + 2)), .int (xs (t + 3))] M2 (fun r2 M2' => tI r2 ∧ I u.1 M2')) (fun E M' => (E = fmNSE ∧ (fun (r : Int32) (u : fmM × (Nat → Int64)) => pvGood Tm 250 qX11_lines [.ref 0, .int (xs (t + 1)), .int (xs (t + 2)), .int (xs (t + 3))] M2 (fun r2 M2' => tI r2 ∧ I u.1 M2')) 1 (M', f)) ∨ (E = fmIAE ∧ (fun (r : Int32) (u : fmM × (Nat → Int64)) => pvGood Tm 250 qX11_lines [.ref 0, .int (xs (t + 1)), .int (xs (t + 2)), .int (xs (t + 3))] M2 (fun r2 M2' => tI r2 ∧ I u.1 M2')) 2 (M', f)))) := h0.imp (fun r9 M9 h9 => by
    obtain ⟨h8, h2⟩ := h9
    rcases h8 with ⟨v, rfl⟩ | ⟨-, rfl⟩ | ⟨-, rfl⟩
    · exact h2
    · exact Or.inr ⟨rfl, h2⟩
    · exact Or.inl ⟨rfl, h2⟩)
  refine z_callW C.1 (y' := qL_lines) (hh := [(0, 12, 15, 31), (0, 12, 19, 13)]) (W0 := WX G g o (fmL Tm (g2, G.2) M2) (M, f)) (WW := WX G g o (fmL Tm (g2, G.2) M2)) (Q := fun (r : Int32) (u : fmM × (Nat → Int64)) => pvGood Tm 250 qX11_lines [.ref 0, .int (xs (t + 1)), .int (xs (t + 2)), .int (xs (t + 3))] M2 (fun r2 M2' => tI r2 ∧ I u.1 M2')) (As := [.ref (g 0), .int (xs (t + 1)), .int (xs (t + 2)), .int (xs (t + 3)), .ref o]) (st := []) (pc := 1332) (fm_c5 219 (by eq_refl) rfl) nst_L_lines niL nw_L_lines nd_L_lines rfl rfl (by decide) (show 311 ≤ room_1.frames by decide) (show 8 + (6 + 11) + 18200 ≤ room_1.locals by decide) (rm_c hcu) (rm_s hsu) (fm_dec dtLa_26 10 rfl) (w_lines C.2.2.2.2.2 hw) (fun r u hQ => ?_)
  obtain ⟨M1, f1⟩ := u
  refine z_istore C.1 (pc := 1335) (i := 5) (by decide) rfl (fm_dec dtLa_26 11 rfl) ?_
  dsimp only [List.set_cons_zero, List.set_cons_succ]
  refine z_aloadn C.1 (pc := 1337) (n := 2) 2 rfl rfl (fm_dec dtLa_26 12 rfl) ?_
  refine la_arg C (pc := 1338) (v := 1) (t + 1) rfl rfl (hi 1 (by decide)) (by decide) (fm_dec dtLa_26 13 rfl) (fm_dec dtLa_26 14 rfl) (fm_dec dtLa_26 15 rfl) (fm_dec dtLa_26 16 rfl) (fm_dec dtLa_26 17 rfl) ?_
  refine la_arg C (pc := 1344) (v := 2) (t + 2) rfl rfl (hi 2 (by decide)) (by decide) (fm_dec dtLa_26 18 rfl) (fm_dec dtLa_26 19 rfl) (fm_dec dtLa_26 20 rfl) (fm_dec dtLa_26 21 rfl) (fm_dec dtLa_26 22 rfl) ?_
  refine la_arg C (pc := 1350) (v := 3) (t + 3) rfl rfl (hi 3 (by decide)) (by decide) (fm_dec dtLa_26 23 rfl) (fm_dec dtLa_26 24 rfl) (fm_dec dtLa_26 25 rfl) (fm_dec dtLa_26 26 rfl) (fm_dec dtLa_26 27 rfl) ?_
  have hcw := hcu1
  have hsw := hsu1
  refine z_perm (ws := (fmL Tx (g, G.2) M1 ++ ((o, .inl (G.2.2.1 1, 1, .inr (.inl f1))) :: fmL Tm (g2, G.2) M2))) (wpermW _ _ _) ?_
  refine la_ref C (pc := 1356) (As := [.int (xs (t + 1)), .int (xs (t + 2)), .int (xs (t + 3))]) (st := []) cvL_227 (by decide +kernel) rfl rfl (Nat.le_of_ble_eq_true rfl) (by decide) hcw hsw (fm_dec dtLa_26 28 rfl) rfl hQ (fun r2 M3 h3 => ?_)
  obtain ⟨⟨v2, rfl⟩, hI3⟩ := h3
  refine z_then1 ?_
  refine z_istore C.1 (pc := 1359) (i := 6) (by decide) rfl (fm_dec dtLa_26 29 rfl) ?_
  dsimp only [List.set_cons_zero, List.set_cons_succ]
  refine z_goto C.1 (pc := 1361) 1940 (by decide) (fm_dec dtLa_27 0 rfl) ?_
  exact z_perm (wpermB _ _ _) (la_fgt (kk M1 f1 M3 hI3))
set_option maxRecDepth 20000 in
theorem la_c29 {p : Program} {l : Launch} {e : Env} {s : State} {m : MethodId} {below : List Frame} {meth : Method} {c : Code} {G : fmG} {b n : Nat} {xs : Nat → Int32} {I : fmM → fmM → Prop} (hS : laS_apart I) (C : laC p l s m meth c G b n xs) {g g2 : Nat → Nat} {M M2 : fmM} {f : Nat → Int64} {o t : Nat} {i : Int32} {cu su : Nat} (hi : laI n i t) (hcu : cu + 1 ≤ 601024) (hsu : su + 6 ≤ 7293034) (hcu1 : cu + 1 + 1 ≤ 601024) (hsu1 : su + 6 + 6 ≤ 7293034) (hI : I M M2) (kk : ∀ (M' : fmM) (f' : Nat → Int64) (M2' : fmM), I M' M2' → zEv p l e room_1 s m #[.ref b] below meth c G (fun q => s.heap.size ≤ q) 8 (lw_Z below #[.ref b] s) 1940 [some (.ref b), some (.ref (g 0)), some (.ref (g2 0)), some (.ref o), some (.int i), none, none, none] [] (fmL Tx (g, G.2) M' ++ ((o, .inl (G.2.2.1 1, 1, .inr (.inl f'))) :: fmL Tm (g2, G.2) M2')) (cu + 1) (su + 6)) : zEv p l e room_1 s m #[.ref b] below meth c G (fun q => s.heap.size ≤ q) 8 (lw_Z below #[.ref b] s) 1364 [some (.ref b), some (.ref (g 0)), some (.ref (g2 0)), some (.ref o), some (.int i), none, none, none] [] (fmL Tx (g, G.2) M ++ ((o, .inl (G.2.2.1 1, 1, .inr (.inl f))) :: fmL Tm (g2, G.2) M2)) cu su := by
  have h0 := hS M M2 (xs (t + 1)) (xs (t + 2)) hI
  refine z_aloadn C.1 (pc := 1364) (n := 1) 1 rfl rfl (fm_dec dtLa_27 1 rfl) ?_
  refine la_arg C (pc := 1365) (v := 1) (t + 1) rfl rfl (hi 1 (by decide)) (by decide) (fm_dec dtLa_27 2 rfl) (fm_dec dtLa_27 3 rfl) (fm_dec dtLa_27 4 rfl) (fm_dec dtLa_27 5 rfl) (fm_dec dtLa_27 6 rfl) ?_
  refine la_arg C (pc := 1371) (v := 2) (t + 2) rfl rfl (hi 2 (by decide)) (by decide) (fm_dec dtLa_27 7 rfl) (fm_dec dtLa_27 8 rfl) (fm_dec dtLa_27 9 rfl) (fm_dec dtLa_27 10 rfl) (fm_dec dtLa_27 11 rfl) ?_
  refine z_aloadn C.1 (pc := 1377) (n := 3) 3 rfl rfl (fm_dec dtLa_27 12 rfl) ?_
  have hw : pvGood Tx 250 qX10_apart [.ref 0, .int (xs (t + 1)), .int (xs (t + 2))] M (wI f (fun (r : Int32) (u : fmM × (Nat → Int64)) => pvGood Tm 250 qX11_apart [.ref 0, .int (xs (t + 1)), .int (xs (t + 2))] M2 (fun r2 M2' => tI r2 ∧ I u.1 M2')) (fun E M' => (E = fmIAE ∧ (fun (r : Int32) (u : fmM × (Nat → Int64)) => pvGood Tm 250 qX11_apart [.ref 0, .int (xs (t + 1)), .int (xs (t + 2))] M2 (fun r2 M2' => tI r2 ∧ I u.1 M2')) 1 (M', f)))) := h0.imp (fun r9 M9 h9 => by
    obtain ⟨h8, h2⟩ := h9
    rcases h8 with ⟨v, rfl⟩ | ⟨h6, rfl⟩ | ⟨h6, rfl⟩
    · exact h2
    · exact ⟨rfl, h2⟩
    · exact absurd h6 (by decide))
  refine z_callW C.1 (y' := qL_apart) (hh := [(0, 10, 13, 13)]) (W0 := WX G g o (fmL Tm (g2, G.2) M2) (M, f)) (WW := WX G g o (fmL Tm (g2, G.2) M2)) (Q := fun (r : Int32) (u : fmM × (Nat → Int64)) => pvGood Tm 250 qX11_apart [.ref 0, .int (xs (t + 1)), .int (xs (t + 2))] M2 (fun r2 M2' => tI r2 ∧ I u.1 M2')) (As := [.ref (g 0), .int (xs (t + 1)), .int (xs (t + 2)), .ref o]) (st := []) (pc := 1378) (fm_c5 226 (by eq_refl) rfl) nst_L_apart niL nw_L_apart nd_L_apart rfl rfl (by decide) (show 311 ≤ room_1.frames by decide) (show 8 + (5 + 11) + 18200 ≤ room_1.locals by decide) (rm_c hcu) (rm_s hsu) (fm_dec dtLa_27 13 rfl) (w_apart C.2.2.2.2.2 hw) (fun r u hQ => ?_)
  obtain ⟨M1, f1⟩ := u
  refine z_istore C.1 (pc := 1381) (i := 5) (by decide) rfl (fm_dec dtLa_27 14 rfl) ?_
  dsimp only [List.set_cons_zero, List.set_cons_succ]
  refine z_aloadn C.1 (pc := 1383) (n := 2) 2 rfl rfl (fm_dec dtLa_27 15 rfl) ?_
  refine la_arg C (pc := 1384) (v := 1) (t + 1) rfl rfl (hi 1 (by decide)) (by decide) (fm_dec dtLa_27 16 rfl) (fm_dec dtLa_27 17 rfl) (fm_dec dtLa_27 18 rfl) (fm_dec dtLa_27 19 rfl) (fm_dec dtLa_27 20 rfl) ?_
  refine la_arg C (pc := 1390) (v := 2) (t + 2) rfl rfl (hi 2 (by decide)) (by decide) (fm_dec dtLa_27 21 rfl) (fm_dec dtLa_27 22 rfl) (fm_dec dtLa_27 23 rfl) (fm_dec dtLa_27 24 rfl) (fm_dec dtLa_27 25 rfl) ?_
  have hcw := hcu1
  have hsw := hsu1
  refine z_perm (ws := (fmL Tx (g, G.2) M1 ++ ((o, .inl (G.2.2.1 1, 1, .inr (.inl f1))) :: fmL Tm (g2, G.2) M2))) (wpermW _ _ _) ?_
  refine la_ref C (pc := 1396) (As := [.int (xs (t + 1)), .int (xs (t + 2))]) (st := []) cvL_230 (by decide +kernel) rfl rfl (Nat.le_of_ble_eq_true rfl) (by decide) hcw hsw (fm_dec dtLa_27 26 rfl) rfl hQ (fun r2 M3 h3 => ?_)
  obtain ⟨⟨v2, rfl⟩, hI3⟩ := h3
  refine z_then1 ?_
  refine z_istore C.1 (pc := 1399) (i := 6) (by decide) rfl (fm_dec dtLa_27 27 rfl) ?_
  dsimp only [List.set_cons_zero, List.set_cons_succ]
  refine z_goto C.1 (pc := 1401) 1940 (by decide) (fm_dec dtLa_27 28 rfl) ?_
  exact z_perm (wpermB _ _ _) (la_fgt (kk M1 f1 M3 hI3))
set_option maxRecDepth 20000 in
theorem la_c30 {p : Program} {l : Launch} {e : Env} {s : State} {m : MethodId} {below : List Frame} {meth : Method} {c : Code} {G : fmG} {b n : Nat} {xs : Nat → Int32} {I : fmM → fmM → Prop} (hS : laS_twins I) (C : laC p l s m meth c G b n xs) {g g2 : Nat → Nat} {M M2 : fmM} {f : Nat → Int64} {o t : Nat} {i : Int32} {cu su : Nat} (hi : laI n i t) (hcu : cu + 1 ≤ 601024) (hsu : su + 6 ≤ 7293034) (hcu1 : cu + 1 + 1 ≤ 601024) (hsu1 : su + 6 + 6 ≤ 7293034) (hI : I M M2) (kk : ∀ (M' : fmM) (f' : Nat → Int64) (M2' : fmM), I M' M2' → zEv p l e room_1 s m #[.ref b] below meth c G (fun q => s.heap.size ≤ q) 8 (lw_Z below #[.ref b] s) 1940 [some (.ref b), some (.ref (g 0)), some (.ref (g2 0)), some (.ref o), some (.int i), none, none, none] [] (fmL Tx (g, G.2) M' ++ ((o, .inl (G.2.2.1 1, 1, .inr (.inl f'))) :: fmL Tm (g2, G.2) M2')) (cu + 1) (su + 6)) : zEv p l e room_1 s m #[.ref b] below meth c G (fun q => s.heap.size ≤ q) 8 (lw_Z below #[.ref b] s) 1404 [some (.ref b), some (.ref (g 0)), some (.ref (g2 0)), some (.ref o), some (.int i), none, none, none] [] (fmL Tx (g, G.2) M ++ ((o, .inl (G.2.2.1 1, 1, .inr (.inl f))) :: fmL Tm (g2, G.2) M2)) cu su := by
  have h0 := hS M M2 hI
  refine z_aloadn C.1 (pc := 1404) (n := 1) 1 rfl rfl (fm_dec dtLa_27 29 rfl) ?_
  refine z_callX C.1 (T := Tx) (g := g) (M := M) (rest := (o, .inl (G.2.2.1 1, 1, .inr (.inl f))) :: fmL Tm (g2, G.2) M2) (k := 0) (ci := 10) (d' := 250) (pc := 1405) (As := []) (st := []) cvL_231 (by decide) rfl rfl rfl (by decide) (rm_fr (by decide)) (rm_lo (by decide) (by decide)) (rm_c hcu) (rm_s hsu) (fm_dec dtLa_28 0 rfl) ?_
  refine fmGood.imp (pvGood.fm C.2.2.2.2.2 (by decide) (by decide +kernel) h0) (fun o9 M1 h9 => ?_)
  obtain ⟨o', rfl, h8, h2⟩ := h9
  rcases h8 with ⟨v, rfl⟩ | ⟨h8, -⟩ | ⟨h8, -⟩
  · refine z_then1 ?_
    refine z_pop C.1 (pc := 1408) rfl (fm_dec dtLa_28 1 rfl) ?_
    refine z_aloadn C.1 (pc := 1409) (n := 2) 2 rfl rfl (fm_dec dtLa_28 2 rfl) ?_
    have hcw := hcu
    have hsw := hsu
    refine z_perm (ws := (fmL Tx (g, G.2) M1 ++ ((o, .inl (G.2.2.1 1, 1, .inr (.inl f))) :: fmL Tm (g2, G.2) M2))) (wpermW _ _ _) ?_
    refine la_ref C (pc := 1410) (As := []) (st := []) cvL_234 (by decide +kernel) rfl rfl (Nat.le_of_ble_eq_true rfl) (by decide) hcw hsw (fm_dec dtLa_28 3 rfl) rfl h2 (fun r2 M3 h3 => ?_)
    obtain ⟨⟨v2, rfl⟩, hI3⟩ := h3
    refine z_then1 ?_
    refine z_pop C.1 (pc := 1413) rfl (fm_dec dtLa_28 4 rfl) ?_
    refine z_goto C.1 (pc := 1414) 1940 (by decide) (fm_dec dtLa_28 5 rfl) ?_
    refine z_more (Nat.le_succ _) (Nat.le_add_right _ 6) ?_
    exact z_perm (wpermB _ _ _) (la_fgt (kk M1 f M3 hI3))
  · cases h8
  · cases h8
set_option maxRecDepth 20000 in
theorem la_c31 {p : Program} {l : Launch} {e : Env} {s : State} {m : MethodId} {below : List Frame} {meth : Method} {c : Code} {G : fmG} {b n : Nat} {xs : Nat → Int32} {I : fmM → fmM → Prop} (hS : laS_written I) (C : laC p l s m meth c G b n xs) {g g2 : Nat → Nat} {M M2 : fmM} {f : Nat → Int64} {o t : Nat} {i : Int32} {cu su : Nat} (hi : laI n i t) (hcu : cu + 1 ≤ 601024) (hsu : su + 6 ≤ 7293034) (hcu1 : cu + 1 + 1 ≤ 601024) (hsu1 : su + 6 + 6 ≤ 7293034) (hI : I M M2) (kk : ∀ (M' : fmM) (f' : Nat → Int64) (M2' : fmM), I M' M2' → zEv p l e room_1 s m #[.ref b] below meth c G (fun q => s.heap.size ≤ q) 8 (lw_Z below #[.ref b] s) 1940 [some (.ref b), some (.ref (g 0)), some (.ref (g2 0)), some (.ref o), some (.int i), none, none, none] [] (fmL Tx (g, G.2) M' ++ ((o, .inl (G.2.2.1 1, 1, .inr (.inl f'))) :: fmL Tm (g2, G.2) M2')) (cu + 1) (su + 6)) : zEv p l e room_1 s m #[.ref b] below meth c G (fun q => s.heap.size ≤ q) 8 (lw_Z below #[.ref b] s) 1417 [some (.ref b), some (.ref (g 0)), some (.ref (g2 0)), some (.ref o), some (.int i), none, none, none] [] (fmL Tx (g, G.2) M ++ ((o, .inl (G.2.2.1 1, 1, .inr (.inl f))) :: fmL Tm (g2, G.2) M2)) cu su := by
  have h0 := hS M M2 (xs (t + 1)) hI
  refine z_aloadn C.1 (pc := 1417) (n := 1) 1 rfl rfl (fm_dec dtLa_28 6 rfl) ?_
  refine la_arg C (pc := 1418) (v := 1) (t + 1) rfl rfl (hi 1 (by decide)) (by decide) (fm_dec dtLa_28 7 rfl) (fm_dec dtLa_28 8 rfl) (fm_dec dtLa_28 9 rfl) (fm_dec dtLa_28 10 rfl) (fm_dec dtLa_28 11 rfl) ?_
  refine z_aloadn C.1 (pc := 1424) (n := 3) 3 rfl rfl (fm_dec dtLa_28 12 rfl) ?_
  have hw : pvGood Tx 250 qX10_written [.ref 0, .int (xs (t + 1))] M (wJ f (fun (r : Int32) (u : fmM × (Nat → Int64)) => pvGood Tm 250 qX11_written [.ref 0, .int (xs (t + 1))] M2 (fun r2 M2' => tJ r2 ∧ I u.1 M2')) (fun E M' => (E = fmNSE ∧ (fun (r : Int32) (u : fmM × (Nat → Int64)) => pvGood Tm 250 qX11_written [.ref 0, .int (xs (t + 1))] M2 (fun r2 M2' => tJ r2 ∧ I u.1 M2')) 1 (M', f)))) := h0.imp (fun r9 M9 h9 => by
    obtain ⟨h8, h2⟩ := h9
    rcases h8 with ⟨v, rfl⟩ | ⟨h6, rfl⟩ | ⟨h6, rfl⟩
    · exact h2
    · exact absurd h6 (by decide)
    · exact ⟨rfl, h2⟩)
  refine z_callW C.1 (y' := qL_written) (hh := [(0, 8, 11, 31)]) (W0 := WX G g o (fmL Tm (g2, G.2) M2) (M, f)) (WW := WX G g o (fmL Tm (g2, G.2) M2)) (Q := fun (r : Int32) (u : fmM × (Nat → Int64)) => pvGood Tm 250 qX11_written [.ref 0, .int (xs (t + 1))] M2 (fun r2 M2' => tJ r2 ∧ I u.1 M2')) (As := [.ref (g 0), .int (xs (t + 1)), .ref o]) (st := []) (pc := 1425) (fm_c5 237 (by eq_refl) rfl) nst_L_written niL nw_L_written nd_L_written rfl rfl (by decide) (show 311 ≤ room_1.frames by decide) (show 8 + (4 + 11) + 18200 ≤ room_1.locals by decide) (rm_c hcu) (rm_s hsu) (fm_dec dtLa_28 13 rfl) (w_written C.2.2.2.2.2 hw) (fun r u hQ => ?_)
  obtain ⟨M1, f1⟩ := u
  refine z_istore C.1 (pc := 1428) (i := 5) (by decide) rfl (fm_dec dtLa_28 14 rfl) ?_
  dsimp only [List.set_cons_zero, List.set_cons_succ]
  refine z_aloadn C.1 (pc := 1430) (n := 2) 2 rfl rfl (fm_dec dtLa_28 15 rfl) ?_
  refine la_arg C (pc := 1431) (v := 1) (t + 1) rfl rfl (hi 1 (by decide)) (by decide) (fm_dec dtLa_28 16 rfl) (fm_dec dtLa_28 17 rfl) (fm_dec dtLa_28 18 rfl) (fm_dec dtLa_28 19 rfl) (fm_dec dtLa_28 20 rfl) ?_
  have hcw := hcu1
  have hsw := hsu1
  refine z_perm (ws := (fmL Tx (g, G.2) M1 ++ ((o, .inl (G.2.2.1 1, 1, .inr (.inl f1))) :: fmL Tm (g2, G.2) M2))) (wpermW _ _ _) ?_
  refine la_ref C (pc := 1437) (As := [.int (xs (t + 1))]) (st := []) cvL_237 (by decide +kernel) rfl rfl (Nat.le_of_ble_eq_true rfl) (by decide) hcw hsw (fm_dec dtLa_28 21 rfl) rfl hQ (fun r2 M3 h3 => ?_)
  obtain ⟨⟨v2, rfl⟩, hI3⟩ := h3
  refine z_then1 ?_
  refine z_lstore C.1 (pc := 1440) (i := 6) (by decide) rfl (fm_dec dtLa_28 22 rfl) ?_
  dsimp only [List.set_cons_zero, List.set_cons_succ]
  refine z_goto C.1 (pc := 1442) 1940 (by decide) (fm_dec dtLa_28 23 rfl) ?_
  exact z_perm (wpermB _ _ _) (la_fgt (kk M1 f1 M3 hI3))
end
-- P 15d
section
set_option maxRecDepth 20000 in
theorem la_c32 {p : Program} {l : Launch} {e : Env} {s : State} {m : MethodId} {below : List Frame} {meth : Method} {c : Code} {G : fmG} {b n : Nat} {xs : Nat → Int32} {I : fmM → fmM → Prop} (hS : laS_whose I) (C : laC p l s m meth c G b n xs) {g g2 : Nat → Nat} {M M2 : fmM} {f : Nat → Int64} {o t : Nat} {i : Int32} {cu su : Nat} (hi : laI n i t) (hcu : cu + 1 ≤ 601024) (hsu : su + 6 ≤ 7293034) (hcu1 : cu + 1 + 1 ≤ 601024) (hsu1 : su + 6 + 6 ≤ 7293034) (hI : I M M2) (kk : ∀ (M' : fmM) (f' : Nat → Int64) (M2' : fmM), I M' M2' → zEv p l e room_1 s m #[.ref b] below meth c G (fun q => s.heap.size ≤ q) 8 (lw_Z below #[.ref b] s) 1940 [some (.ref b), some (.ref (g 0)), some (.ref (g2 0)), some (.ref o), some (.int i), none, none, none] [] (fmL Tx (g, G.2) M' ++ ((o, .inl (G.2.2.1 1, 1, .inr (.inl f'))) :: fmL Tm (g2, G.2) M2')) (cu + 1) (su + 6)) : zEv p l e room_1 s m #[.ref b] below meth c G (fun q => s.heap.size ≤ q) 8 (lw_Z below #[.ref b] s) 1445 [some (.ref b), some (.ref (g 0)), some (.ref (g2 0)), some (.ref o), some (.int i), none, none, none] [] (fmL Tx (g, G.2) M ++ ((o, .inl (G.2.2.1 1, 1, .inr (.inl f))) :: fmL Tm (g2, G.2) M2)) cu su := by
  have h0 := hS M M2 hI
  refine z_aloadn C.1 (pc := 1445) (n := 1) 1 rfl rfl (fm_dec dtLa_28 24 rfl) ?_
  refine z_callX C.1 (T := Tx) (g := g) (M := M) (rest := (o, .inl (G.2.2.1 1, 1, .inr (.inl f))) :: fmL Tm (g2, G.2) M2) (k := 0) (ci := 10) (d' := 250) (pc := 1446) (As := []) (st := []) cvL_238 (by decide) rfl rfl rfl (by decide) (rm_fr (by decide)) (rm_lo (by decide) (by decide)) (rm_c hcu) (rm_s hsu) (fm_dec dtLa_28 25 rfl) ?_
  refine fmGood.imp (pvGood.fm C.2.2.2.2.2 (by decide) (by decide +kernel) h0) (fun o9 M1 h9 => ?_)
  obtain ⟨o', rfl, h8, h2⟩ := h9
  rcases h8 with ⟨v, rfl⟩ | ⟨h8, -⟩ | ⟨h8, -⟩
  · refine z_then1 ?_
    refine z_pop C.1 (pc := 1449) rfl (fm_dec dtLa_28 26 rfl) ?_
    refine z_aloadn C.1 (pc := 1450) (n := 2) 2 rfl rfl (fm_dec dtLa_28 27 rfl) ?_
    have hcw := hcu
    have hsw := hsu
    refine z_perm (ws := (fmL Tx (g, G.2) M1 ++ ((o, .inl (G.2.2.1 1, 1, .inr (.inl f))) :: fmL Tm (g2, G.2) M2))) (wpermW _ _ _) ?_
    refine la_ref C (pc := 1451) (As := []) (st := []) cvL_241 (by decide +kernel) rfl rfl (Nat.le_of_ble_eq_true rfl) (by decide) hcw hsw (fm_dec dtLa_28 28 rfl) rfl h2 (fun r2 M3 h3 => ?_)
    obtain ⟨⟨v2, rfl⟩, hI3⟩ := h3
    refine z_then1 ?_
    refine z_pop C.1 (pc := 1454) rfl (fm_dec dtLa_28 29 rfl) ?_
    refine z_goto C.1 (pc := 1455) 1940 (by decide) (fm_dec dtLa_29 0 rfl) ?_
    refine z_more (Nat.le_succ _) (Nat.le_add_right _ 6) ?_
    exact z_perm (wpermB _ _ _) (la_fgt (kk M1 f M3 hI3))
  · cases h8
  · cases h8
set_option maxRecDepth 20000 in
theorem la_c33 {p : Program} {l : Launch} {e : Env} {s : State} {m : MethodId} {below : List Frame} {meth : Method} {c : Code} {G : fmG} {b n : Nat} {xs : Nat → Int32} {I : fmM → fmM → Prop} (hS : laS_ahead I) (C : laC p l s m meth c G b n xs) {g g2 : Nat → Nat} {M M2 : fmM} {f : Nat → Int64} {o t : Nat} {i : Int32} {cu su : Nat} (hi : laI n i t) (hcu : cu + 1 ≤ 601024) (hsu : su + 6 ≤ 7293034) (hcu1 : cu + 1 + 1 ≤ 601024) (hsu1 : su + 6 + 6 ≤ 7293034) (hI : I M M2) (kk : ∀ (M' : fmM) (f' : Nat → Int64) (M2' : fmM), I M' M2' → zEv p l e room_1 s m #[.ref b] below meth c G (fun q => s.heap.size ≤ q) 8 (lw_Z below #[.ref b] s) 1940 [some (.ref b), some (.ref (g 0)), some (.ref (g2 0)), some (.ref o), some (.int i), none, none, none] [] (fmL Tx (g, G.2) M' ++ ((o, .inl (G.2.2.1 1, 1, .inr (.inl f'))) :: fmL Tm (g2, G.2) M2')) (cu + 1) (su + 6)) : zEv p l e room_1 s m #[.ref b] below meth c G (fun q => s.heap.size ≤ q) 8 (lw_Z below #[.ref b] s) 1458 [some (.ref b), some (.ref (g 0)), some (.ref (g2 0)), some (.ref o), some (.int i), none, none, none] [] (fmL Tx (g, G.2) M ++ ((o, .inl (G.2.2.1 1, 1, .inr (.inl f))) :: fmL Tm (g2, G.2) M2)) cu su := by
  have h0 := hS M M2 (xs (t + 1)) (xs (t + 2)) hI
  refine z_aloadn C.1 (pc := 1458) (n := 1) 1 rfl rfl (fm_dec dtLa_29 1 rfl) ?_
  refine la_arg C (pc := 1459) (v := 1) (t + 1) rfl rfl (hi 1 (by decide)) (by decide) (fm_dec dtLa_29 2 rfl) (fm_dec dtLa_29 3 rfl) (fm_dec dtLa_29 4 rfl) (fm_dec dtLa_29 5 rfl) (fm_dec dtLa_29 6 rfl) ?_
  refine la_arg C (pc := 1465) (v := 2) (t + 2) rfl rfl (hi 2 (by decide)) (by decide) (fm_dec dtLa_29 7 rfl) (fm_dec dtLa_29 8 rfl) (fm_dec dtLa_29 9 rfl) (fm_dec dtLa_29 10 rfl) (fm_dec dtLa_29 11 rfl) ?_
  refine z_aloadn C.1 (pc := 1471) (n := 3) 3 rfl rfl (fm_dec dtLa_29 12 rfl) ?_
  have hw : pvGood Tx 250 qX10_ahead [.ref 0, .int (xs (t + 1)), .int (xs (t + 2))] M (wJ f (fun (r : Int32) (u : fmM × (Nat → Int64)) => pvGood Tm 250 qX11_ahead [.ref 0, .int (xs (t + 1)), .int (xs (t + 2))] M2 (fun r2 M2' => tJ r2 ∧ I u.1 M2')) (fun E M' => (E = fmIAE ∧ (fun (r : Int32) (u : fmM × (Nat → Int64)) => pvGood Tm 250 qX11_ahead [.ref 0, .int (xs (t + 1)), .int (xs (t + 2))] M2 (fun r2 M2' => tJ r2 ∧ I u.1 M2')) 1 (M', f)))) := h0.imp (fun r9 M9 h9 => by
    obtain ⟨h8, h2⟩ := h9
    rcases h8 with ⟨v, rfl⟩ | ⟨h6, rfl⟩ | ⟨h6, rfl⟩
    · exact h2
    · exact ⟨rfl, h2⟩
    · exact absurd h6 (by decide))
  refine z_callW C.1 (y' := qL_ahead) (hh := [(0, 9, 12, 13)]) (W0 := WX G g o (fmL Tm (g2, G.2) M2) (M, f)) (WW := WX G g o (fmL Tm (g2, G.2) M2)) (Q := fun (r : Int32) (u : fmM × (Nat → Int64)) => pvGood Tm 250 qX11_ahead [.ref 0, .int (xs (t + 1)), .int (xs (t + 2))] M2 (fun r2 M2' => tJ r2 ∧ I u.1 M2')) (As := [.ref (g 0), .int (xs (t + 1)), .int (xs (t + 2)), .ref o]) (st := []) (pc := 1472) (fm_c6 4 (by eq_refl) rfl) nst_L_ahead niL nw_L_ahead nd_L_ahead rfl rfl (by decide) (show 311 ≤ room_1.frames by decide) (show 8 + (5 + 11) + 18200 ≤ room_1.locals by decide) (rm_c hcu) (rm_s hsu) (fm_dec dtLa_29 13 rfl) (w_ahead C.2.2.2.2.2 hw) (fun r u hQ => ?_)
  obtain ⟨M1, f1⟩ := u
  refine z_istore C.1 (pc := 1475) (i := 5) (by decide) rfl (fm_dec dtLa_29 14 rfl) ?_
  dsimp only [List.set_cons_zero, List.set_cons_succ]
  refine z_aloadn C.1 (pc := 1477) (n := 2) 2 rfl rfl (fm_dec dtLa_29 15 rfl) ?_
  refine la_arg C (pc := 1478) (v := 1) (t + 1) rfl rfl (hi 1 (by decide)) (by decide) (fm_dec dtLa_29 16 rfl) (fm_dec dtLa_29 17 rfl) (fm_dec dtLa_29 18 rfl) (fm_dec dtLa_29 19 rfl) (fm_dec dtLa_29 20 rfl) ?_
  refine la_arg C (pc := 1484) (v := 2) (t + 2) rfl rfl (hi 2 (by decide)) (by decide) (fm_dec dtLa_29 21 rfl) (fm_dec dtLa_29 22 rfl) (fm_dec dtLa_29 23 rfl) (fm_dec dtLa_29 24 rfl) (fm_dec dtLa_29 25 rfl) ?_
  have hcw := hcu1
  have hsw := hsu1
  refine z_perm (ws := (fmL Tx (g, G.2) M1 ++ ((o, .inl (G.2.2.1 1, 1, .inr (.inl f1))) :: fmL Tm (g2, G.2) M2))) (wpermW _ _ _) ?_
  refine la_ref C (pc := 1490) (As := [.int (xs (t + 1)), .int (xs (t + 2))]) (st := []) cvL_244 (by decide +kernel) rfl rfl (Nat.le_of_ble_eq_true rfl) (by decide) hcw hsw (fm_dec dtLa_29 26 rfl) rfl hQ (fun r2 M3 h3 => ?_)
  obtain ⟨⟨v2, rfl⟩, hI3⟩ := h3
  refine z_then1 ?_
  refine z_lstore C.1 (pc := 1493) (i := 6) (by decide) rfl (fm_dec dtLa_29 27 rfl) ?_
  dsimp only [List.set_cons_zero, List.set_cons_succ]
  refine z_goto C.1 (pc := 1495) 1940 (by decide) (fm_dec dtLa_29 28 rfl) ?_
  exact z_perm (wpermB _ _ _) (la_fgt (kk M1 f1 M3 hI3))
set_option maxRecDepth 20000 in
theorem la_c34 {p : Program} {l : Launch} {e : Env} {s : State} {m : MethodId} {below : List Frame} {meth : Method} {c : Code} {G : fmG} {b n : Nat} {xs : Nat → Int32} {I : fmM → fmM → Prop} (hS : laS_lives I) (C : laC p l s m meth c G b n xs) {g g2 : Nat → Nat} {M M2 : fmM} {f : Nat → Int64} {o t : Nat} {i : Int32} {cu su : Nat} (hi : laI n i t) (hcu : cu + 1 ≤ 601024) (hsu : su + 6 ≤ 7293034) (hcu1 : cu + 1 + 1 ≤ 601024) (hsu1 : su + 6 + 6 ≤ 7293034) (hI : I M M2) (kk : ∀ (M' : fmM) (f' : Nat → Int64) (M2' : fmM), I M' M2' → zEv p l e room_1 s m #[.ref b] below meth c G (fun q => s.heap.size ≤ q) 8 (lw_Z below #[.ref b] s) 1940 [some (.ref b), some (.ref (g 0)), some (.ref (g2 0)), some (.ref o), some (.int i), none, none, none] [] (fmL Tx (g, G.2) M' ++ ((o, .inl (G.2.2.1 1, 1, .inr (.inl f'))) :: fmL Tm (g2, G.2) M2')) (cu + 1) (su + 6)) : zEv p l e room_1 s m #[.ref b] below meth c G (fun q => s.heap.size ≤ q) 8 (lw_Z below #[.ref b] s) 1498 [some (.ref b), some (.ref (g 0)), some (.ref (g2 0)), some (.ref o), some (.int i), none, none, none] [] (fmL Tx (g, G.2) M ++ ((o, .inl (G.2.2.1 1, 1, .inr (.inl f))) :: fmL Tm (g2, G.2) M2)) cu su := by
  have h0 := hS M M2 (xs (t + 1)) (xs (t + 2)) (xs (t + 3)) hI
  refine z_aloadn C.1 (pc := 1498) (n := 1) 1 rfl rfl (fm_dec dtLa_29 29 rfl) ?_
  refine la_arg C (pc := 1499) (v := 1) (t + 1) rfl rfl (hi 1 (by decide)) (by decide) (fm_dec dtLa_30 0 rfl) (fm_dec dtLa_30 1 rfl) (fm_dec dtLa_30 2 rfl) (fm_dec dtLa_30 3 rfl) (fm_dec dtLa_30 4 rfl) ?_
  refine la_arg C (pc := 1505) (v := 2) (t + 2) rfl rfl (hi 2 (by decide)) (by decide) (fm_dec dtLa_30 5 rfl) (fm_dec dtLa_30 6 rfl) (fm_dec dtLa_30 7 rfl) (fm_dec dtLa_30 8 rfl) (fm_dec dtLa_30 9 rfl) ?_
  refine la_arg C (pc := 1511) (v := 3) (t + 3) rfl rfl (hi 3 (by decide)) (by decide) (fm_dec dtLa_30 10 rfl) (fm_dec dtLa_30 11 rfl) (fm_dec dtLa_30 12 rfl) (fm_dec dtLa_30 13 rfl) (fm_dec dtLa_30 14 rfl) ?_
  refine z_aloadn C.1 (pc := 1517) (n := 3) 3 rfl rfl (fm_dec dtLa_30 15 rfl) ?_
  have hw : pvGood Tx 250 qX10_lives [.ref 0, .int (xs (t + 1)), .int (xs (t + 2)), .int (xs (t + 3))] M (wJ f (fun (r : Int32) (u : fmM × (Nat → Int64)) => pvGood Tm 250 qX11_lives [.ref 0, .int (xs (t + 1)), .int (xs (t + 2)), .int (xs (t + 3))] M2 (fun r2 M2' => tJ r2 ∧ I u.1 M2')) (fun E M' => (E = fmNSE ∧ (fun (r : Int32) (u : fmM × (Nat → Int64)) => pvGood Tm 250 qX11_lives [.ref 0, .int (xs (t + 1)), .int (xs (t + 2)), .int (xs (t + 3))] M2 (fun r2 M2' => tJ r2 ∧ I u.1 M2')) 1 (M', f)) ∨ (E = fmIAE ∧ (fun (r : Int32) (u : fmM × (Nat → Int64)) => pvGood Tm 250 qX11_lives [.ref 0, .int (xs (t + 1)), .int (xs (t + 2)), .int (xs (t + 3))] M2 (fun r2 M2' => tJ r2 ∧ I u.1 M2')) 2 (M', f)))) := h0.imp (fun r9 M9 h9 => by
    obtain ⟨h8, h2⟩ := h9
    rcases h8 with ⟨v, rfl⟩ | ⟨-, rfl⟩ | ⟨-, rfl⟩
    · exact h2
    · exact Or.inr ⟨rfl, h2⟩
    · exact Or.inl ⟨rfl, h2⟩)
  refine z_callW C.1 (y' := qL_lives) (hh := [(0, 11, 14, 31), (0, 11, 18, 13)]) (W0 := WX G g o (fmL Tm (g2, G.2) M2) (M, f)) (WW := WX G g o (fmL Tm (g2, G.2) M2)) (Q := fun (r : Int32) (u : fmM × (Nat → Int64)) => pvGood Tm 250 qX11_lives [.ref 0, .int (xs (t + 1)), .int (xs (t + 2)), .int (xs (t + 3))] M2 (fun r2 M2' => tJ r2 ∧ I u.1 M2')) (As := [.ref (g 0), .int (xs (t + 1)), .int (xs (t + 2)), .int (xs (t + 3)), .ref o]) (st := []) (pc := 1518) (fm_c6 11 (by eq_refl) rfl) nst_L_lives niL nw_L_lives nd_L_lives rfl rfl (by decide) (show 311 ≤ room_1.frames by decide) (show 8 + (6 + 11) + 18200 ≤ room_1.locals by decide) (rm_c hcu) (rm_s hsu) (fm_dec dtLa_30 16 rfl) (w_lives C.2.2.2.2.2 hw) (fun r u hQ => ?_)
  obtain ⟨M1, f1⟩ := u
  refine z_istore C.1 (pc := 1521) (i := 5) (by decide) rfl (fm_dec dtLa_30 17 rfl) ?_
  dsimp only [List.set_cons_zero, List.set_cons_succ]
  refine z_aloadn C.1 (pc := 1523) (n := 2) 2 rfl rfl (fm_dec dtLa_30 18 rfl) ?_
  refine la_arg C (pc := 1524) (v := 1) (t + 1) rfl rfl (hi 1 (by decide)) (by decide) (fm_dec dtLa_30 19 rfl) (fm_dec dtLa_30 20 rfl) (fm_dec dtLa_30 21 rfl) (fm_dec dtLa_30 22 rfl) (fm_dec dtLa_30 23 rfl) ?_
  refine la_arg C (pc := 1530) (v := 2) (t + 2) rfl rfl (hi 2 (by decide)) (by decide) (fm_dec dtLa_30 24 rfl) (fm_dec dtLa_30 25 rfl) (fm_dec dtLa_30 26 rfl) (fm_dec dtLa_30 27 rfl) (fm_dec dtLa_30 28 rfl) ?_
  refine la_arg C (pc := 1536) (v := 3) (t + 3) rfl rfl (hi 3 (by decide)) (by decide) (fm_dec dtLa_30 29 rfl) (fm_dec dtLa_31 0 rfl) (fm_dec dtLa_31 1 rfl) (fm_dec dtLa_31 2 rfl) (fm_dec dtLa_31 3 rfl) ?_
  have hcw := hcu1
  have hsw := hsu1
  refine z_perm (ws := (fmL Tx (g, G.2) M1 ++ ((o, .inl (G.2.2.1 1, 1, .inr (.inl f1))) :: fmL Tm (g2, G.2) M2))) (wpermW _ _ _) ?_
  refine la_ref C (pc := 1542) (As := [.int (xs (t + 1)), .int (xs (t + 2)), .int (xs (t + 3))]) (st := []) cvL_247 (by decide +kernel) rfl rfl (Nat.le_of_ble_eq_true rfl) (by decide) hcw hsw (fm_dec dtLa_31 4 rfl) rfl hQ (fun r2 M3 h3 => ?_)
  obtain ⟨⟨v2, rfl⟩, hI3⟩ := h3
  refine z_then1 ?_
  refine z_lstore C.1 (pc := 1545) (i := 6) (by decide) rfl (fm_dec dtLa_31 5 rfl) ?_
  dsimp only [List.set_cons_zero, List.set_cons_succ]
  refine z_goto C.1 (pc := 1547) 1940 (by decide) (fm_dec dtLa_31 6 rfl) ?_
  exact z_perm (wpermB _ _ _) (la_fgt (kk M1 f1 M3 hI3))
set_option maxRecDepth 20000 in
theorem la_c35 {p : Program} {l : Launch} {e : Env} {s : State} {m : MethodId} {below : List Frame} {meth : Method} {c : Code} {G : fmG} {b n : Nat} {xs : Nat → Int32} {I : fmM → fmM → Prop} (hS : laS_oldest I) (C : laC p l s m meth c G b n xs) {g g2 : Nat → Nat} {M M2 : fmM} {f : Nat → Int64} {o t : Nat} {i : Int32} {cu su : Nat} (hi : laI n i t) (hcu : cu + 1 ≤ 601024) (hsu : su + 6 ≤ 7293034) (hcu1 : cu + 1 + 1 ≤ 601024) (hsu1 : su + 6 + 6 ≤ 7293034) (hI : I M M2) (kk : ∀ (M' : fmM) (f' : Nat → Int64) (M2' : fmM), I M' M2' → zEv p l e room_1 s m #[.ref b] below meth c G (fun q => s.heap.size ≤ q) 8 (lw_Z below #[.ref b] s) 1940 [some (.ref b), some (.ref (g 0)), some (.ref (g2 0)), some (.ref o), some (.int i), none, none, none] [] (fmL Tx (g, G.2) M' ++ ((o, .inl (G.2.2.1 1, 1, .inr (.inl f'))) :: fmL Tm (g2, G.2) M2')) (cu + 1) (su + 6)) : zEv p l e room_1 s m #[.ref b] below meth c G (fun q => s.heap.size ≤ q) 8 (lw_Z below #[.ref b] s) 1550 [some (.ref b), some (.ref (g 0)), some (.ref (g2 0)), some (.ref o), some (.int i), none, none, none] [] (fmL Tx (g, G.2) M ++ ((o, .inl (G.2.2.1 1, 1, .inr (.inl f))) :: fmL Tm (g2, G.2) M2)) cu su := by
  have h0 := hS M M2 hI
  refine z_aloadn C.1 (pc := 1550) (n := 1) 1 rfl rfl (fm_dec dtLa_31 7 rfl) ?_
  refine z_callX C.1 (T := Tx) (g := g) (M := M) (rest := (o, .inl (G.2.2.1 1, 1, .inr (.inl f))) :: fmL Tm (g2, G.2) M2) (k := 0) (ci := 10) (d' := 250) (pc := 1551) (As := []) (st := []) cvL_248 (by decide) rfl rfl rfl (by decide) (rm_fr (by decide)) (rm_lo (by decide) (by decide)) (rm_c hcu) (rm_s hsu) (fm_dec dtLa_31 8 rfl) ?_
  refine fmGood.imp (pvGood.fm C.2.2.2.2.2 (by decide) (by decide +kernel) h0) (fun o9 M1 h9 => ?_)
  obtain ⟨o', rfl, h8, h2⟩ := h9
  rcases h8 with ⟨v, rfl⟩ | ⟨h8, -⟩ | ⟨h8, -⟩
  · refine z_then1 ?_
    refine z_pop C.1 (pc := 1554) rfl (fm_dec dtLa_31 9 rfl) ?_
    refine z_aloadn C.1 (pc := 1555) (n := 2) 2 rfl rfl (fm_dec dtLa_31 10 rfl) ?_
    have hcw := hcu
    have hsw := hsu
    refine z_perm (ws := (fmL Tx (g, G.2) M1 ++ ((o, .inl (G.2.2.1 1, 1, .inr (.inl f))) :: fmL Tm (g2, G.2) M2))) (wpermW _ _ _) ?_
    refine la_ref C (pc := 1556) (As := []) (st := []) cvL_251 (by decide +kernel) rfl rfl (Nat.le_of_ble_eq_true rfl) (by decide) hcw hsw (fm_dec dtLa_31 11 rfl) rfl h2 (fun r2 M3 h3 => ?_)
    obtain ⟨⟨v2, rfl⟩, hI3⟩ := h3
    refine z_then1 ?_
    refine z_pop C.1 (pc := 1559) rfl (fm_dec dtLa_31 12 rfl) ?_
    refine z_goto C.1 (pc := 1560) 1940 (by decide) (fm_dec dtLa_31 13 rfl) ?_
    refine z_more (Nat.le_succ _) (Nat.le_add_right _ 6) ?_
    exact z_perm (wpermB _ _ _) (la_fgt (kk M1 f M3 hI3))
  · cases h8
  · cases h8
set_option maxRecDepth 20000 in
theorem la_c36 {p : Program} {l : Launch} {e : Env} {s : State} {m : MethodId} {below : List Frame} {meth : Method} {c : Code} {G : fmG} {b n : Nat} {xs : Nat → Int32} {I : fmM → fmM → Prop} (hS : laS_chain I) (C : laC p l s m meth c G b n xs) {g g2 : Nat → Nat} {M M2 : fmM} {f : Nat → Int64} {o t : Nat} {i : Int32} {cu su : Nat} (hi : laI n i t) (hcu : cu + 1 ≤ 601024) (hsu : su + 6 ≤ 7293034) (hcu1 : cu + 1 + 1 ≤ 601024) (hsu1 : su + 6 + 6 ≤ 7293034) (hI : I M M2) (kk : ∀ (M' : fmM) (f' : Nat → Int64) (M2' : fmM), I M' M2' → zEv p l e room_1 s m #[.ref b] below meth c G (fun q => s.heap.size ≤ q) 8 (lw_Z below #[.ref b] s) 1940 [some (.ref b), some (.ref (g 0)), some (.ref (g2 0)), some (.ref o), some (.int i), none, none, none] [] (fmL Tx (g, G.2) M' ++ ((o, .inl (G.2.2.1 1, 1, .inr (.inl f'))) :: fmL Tm (g2, G.2) M2')) (cu + 1) (su + 6)) : zEv p l e room_1 s m #[.ref b] below meth c G (fun q => s.heap.size ≤ q) 8 (lw_Z below #[.ref b] s) 1563 [some (.ref b), some (.ref (g 0)), some (.ref (g2 0)), some (.ref o), some (.int i), none, none, none] [] (fmL Tx (g, G.2) M ++ ((o, .inl (G.2.2.1 1, 1, .inr (.inl f))) :: fmL Tm (g2, G.2) M2)) cu su := by
  have h0 := hS M M2 (xs (t + 1)) (xs (t + 2)) hI
  refine z_aloadn C.1 (pc := 1563) (n := 1) 1 rfl rfl (fm_dec dtLa_31 14 rfl) ?_
  refine la_arg C (pc := 1564) (v := 1) (t + 1) rfl rfl (hi 1 (by decide)) (by decide) (fm_dec dtLa_31 15 rfl) (fm_dec dtLa_31 16 rfl) (fm_dec dtLa_31 17 rfl) (fm_dec dtLa_31 18 rfl) (fm_dec dtLa_31 19 rfl) ?_
  refine la_arg C (pc := 1570) (v := 2) (t + 2) rfl rfl (hi 2 (by decide)) (by decide) (fm_dec dtLa_31 20 rfl) (fm_dec dtLa_31 21 rfl) (fm_dec dtLa_31 22 rfl) (fm_dec dtLa_31 23 rfl) (fm_dec dtLa_31 24 rfl) ?_
  refine z_aloadn C.1 (pc := 1576) (n := 3) 3 rfl rfl (fm_dec dtLa_31 25 rfl) ?_
  have hw : pvGood Tx 250 qX10_chain [.ref 0, .int (xs (t + 1)), .int (xs (t + 2))] M (wI f (fun (r : Int32) (u : fmM × (Nat → Int64)) => pvGood Tm 250 qX11_chain [.ref 0, .int (xs (t + 1)), .int (xs (t + 2))] M2 (fun r2 M2' => tI r2 ∧ I u.1 M2')) (fun E M' => (E = fmNSE ∧ (fun (r : Int32) (u : fmM × (Nat → Int64)) => pvGood Tm 250 qX11_chain [.ref 0, .int (xs (t + 1)), .int (xs (t + 2))] M2 (fun r2 M2' => tI r2 ∧ I u.1 M2')) 1 (M', f)) ∨ (E = fmIAE ∧ (fun (r : Int32) (u : fmM × (Nat → Int64)) => pvGood Tm 250 qX11_chain [.ref 0, .int (xs (t + 1)), .int (xs (t + 2))] M2 (fun r2 M2' => tI r2 ∧ I u.1 M2')) 2 (M', f)))) := h0.imp (fun r9 M9 h9 => by
    obtain ⟨h8, h2⟩ := h9
    rcases h8 with ⟨v, rfl⟩ | ⟨-, rfl⟩ | ⟨-, rfl⟩
    · exact h2
    · exact Or.inr ⟨rfl, h2⟩
    · exact Or.inl ⟨rfl, h2⟩)
  refine z_callW C.1 (y' := qL_chain) (hh := [(0, 10, 13, 31), (0, 10, 17, 13)]) (W0 := WX G g o (fmL Tm (g2, G.2) M2) (M, f)) (WW := WX G g o (fmL Tm (g2, G.2) M2)) (Q := fun (r : Int32) (u : fmM × (Nat → Int64)) => pvGood Tm 250 qX11_chain [.ref 0, .int (xs (t + 1)), .int (xs (t + 2))] M2 (fun r2 M2' => tI r2 ∧ I u.1 M2')) (As := [.ref (g 0), .int (xs (t + 1)), .int (xs (t + 2)), .ref o]) (st := []) (pc := 1577) (fm_c6 18 (by eq_refl) rfl) nst_L_chain niL nw_L_chain nd_L_chain rfl rfl (by decide) (show 311 ≤ room_1.frames by decide) (show 8 + (5 + 11) + 18200 ≤ room_1.locals by decide) (rm_c hcu) (rm_s hsu) (fm_dec dtLa_31 26 rfl) (w_chain C.2.2.2.2.2 hw) (fun r u hQ => ?_)
  obtain ⟨M1, f1⟩ := u
  refine z_istore C.1 (pc := 1580) (i := 5) (by decide) rfl (fm_dec dtLa_31 27 rfl) ?_
  dsimp only [List.set_cons_zero, List.set_cons_succ]
  refine z_aloadn C.1 (pc := 1582) (n := 2) 2 rfl rfl (fm_dec dtLa_31 28 rfl) ?_
  refine la_arg C (pc := 1583) (v := 1) (t + 1) rfl rfl (hi 1 (by decide)) (by decide) (fm_dec dtLa_31 29 rfl) (fm_dec dtLa_32 0 rfl) (fm_dec dtLa_32 1 rfl) (fm_dec dtLa_32 2 rfl) (fm_dec dtLa_32 3 rfl) ?_
  refine la_arg C (pc := 1589) (v := 2) (t + 2) rfl rfl (hi 2 (by decide)) (by decide) (fm_dec dtLa_32 4 rfl) (fm_dec dtLa_32 5 rfl) (fm_dec dtLa_32 6 rfl) (fm_dec dtLa_32 7 rfl) (fm_dec dtLa_32 8 rfl) ?_
  have hcw := hcu1
  have hsw := hsu1
  refine z_perm (ws := (fmL Tx (g, G.2) M1 ++ ((o, .inl (G.2.2.1 1, 1, .inr (.inl f1))) :: fmL Tm (g2, G.2) M2))) (wpermW _ _ _) ?_
  refine la_ref C (pc := 1595) (As := [.int (xs (t + 1)), .int (xs (t + 2))]) (st := []) cvL_254 (by decide +kernel) rfl rfl (Nat.le_of_ble_eq_true rfl) (by decide) hcw hsw (fm_dec dtLa_32 9 rfl) rfl hQ (fun r2 M3 h3 => ?_)
  obtain ⟨⟨v2, rfl⟩, hI3⟩ := h3
  refine z_then1 ?_
  refine z_istore C.1 (pc := 1598) (i := 6) (by decide) rfl (fm_dec dtLa_32 10 rfl) ?_
  dsimp only [List.set_cons_zero, List.set_cons_succ]
  refine z_goto C.1 (pc := 1600) 1940 (by decide) (fm_dec dtLa_32 11 rfl) ?_
  exact z_perm (wpermB _ _ _) (la_fgt (kk M1 f1 M3 hI3))
set_option maxRecDepth 20000 in
theorem la_c37 {p : Program} {l : Launch} {e : Env} {s : State} {m : MethodId} {below : List Frame} {meth : Method} {c : Code} {G : fmG} {b n : Nat} {xs : Nat → Int32} {I : fmM → fmM → Prop} (hS : laS_due I) (C : laC p l s m meth c G b n xs) {g g2 : Nat → Nat} {M M2 : fmM} {f : Nat → Int64} {o t : Nat} {i : Int32} {cu su : Nat} (hi : laI n i t) (hcu : cu + 1 ≤ 601024) (hsu : su + 6 ≤ 7293034) (hcu1 : cu + 1 + 1 ≤ 601024) (hsu1 : su + 6 + 6 ≤ 7293034) (hI : I M M2) (kk : ∀ (M' : fmM) (f' : Nat → Int64) (M2' : fmM), I M' M2' → zEv p l e room_1 s m #[.ref b] below meth c G (fun q => s.heap.size ≤ q) 8 (lw_Z below #[.ref b] s) 1940 [some (.ref b), some (.ref (g 0)), some (.ref (g2 0)), some (.ref o), some (.int i), none, none, none] [] (fmL Tx (g, G.2) M' ++ ((o, .inl (G.2.2.1 1, 1, .inr (.inl f'))) :: fmL Tm (g2, G.2) M2')) (cu + 1) (su + 6)) : zEv p l e room_1 s m #[.ref b] below meth c G (fun q => s.heap.size ≤ q) 8 (lw_Z below #[.ref b] s) 1603 [some (.ref b), some (.ref (g 0)), some (.ref (g2 0)), some (.ref o), some (.int i), none, none, none] [] (fmL Tx (g, G.2) M ++ ((o, .inl (G.2.2.1 1, 1, .inr (.inl f))) :: fmL Tm (g2, G.2) M2)) cu su := by
  have h0 := hS M M2 (xs (t + 1)) (xs (t + 2)) hI
  refine z_aloadn C.1 (pc := 1603) (n := 1) 1 rfl rfl (fm_dec dtLa_32 12 rfl) ?_
  refine la_arg C (pc := 1604) (v := 1) (t + 1) rfl rfl (hi 1 (by decide)) (by decide) (fm_dec dtLa_32 13 rfl) (fm_dec dtLa_32 14 rfl) (fm_dec dtLa_32 15 rfl) (fm_dec dtLa_32 16 rfl) (fm_dec dtLa_32 17 rfl) ?_
  refine la_arg C (pc := 1610) (v := 2) (t + 2) rfl rfl (hi 2 (by decide)) (by decide) (fm_dec dtLa_32 18 rfl) (fm_dec dtLa_32 19 rfl) (fm_dec dtLa_32 20 rfl) (fm_dec dtLa_32 21 rfl) (fm_dec dtLa_32 22 rfl) ?_
  refine z_aloadn C.1 (pc := 1616) (n := 3) 3 rfl rfl (fm_dec dtLa_32 23 rfl) ?_
  have hw : pvGood Tx 250 qX10_due [.ref 0, .int (xs (t + 1)), .int (xs (t + 2))] M (wI f (fun (r : Int32) (u : fmM × (Nat → Int64)) => pvGood Tm 250 qX11_due [.ref 0, .int (xs (t + 1)), .int (xs (t + 2))] M2 (fun r2 M2' => tI r2 ∧ I u.1 M2')) (fun E M' => (E = fmNSE ∧ (fun (r : Int32) (u : fmM × (Nat → Int64)) => pvGood Tm 250 qX11_due [.ref 0, .int (xs (t + 1)), .int (xs (t + 2))] M2 (fun r2 M2' => tI r2 ∧ I u.1 M2')) 1 (M', f)) ∨ (E = fmIAE ∧ (fun (r : Int32) (u : fmM × (Nat → Int64)) => pvGood Tm 250 qX11_due [.ref 0, .int (xs (t + 1)), .int (xs (t + 2))] M2 (fun r2 M2' => tI r2 ∧ I u.1 M2')) 2 (M', f)))) := h0.imp (fun r9 M9 h9 => by
    obtain ⟨h8, h2⟩ := h9
    rcases h8 with ⟨v, rfl⟩ | ⟨-, rfl⟩ | ⟨-, rfl⟩
    · exact h2
    · exact Or.inr ⟨rfl, h2⟩
    · exact Or.inl ⟨rfl, h2⟩)
  refine z_callW C.1 (y' := qL_due) (hh := [(0, 10, 13, 31), (0, 10, 17, 13)]) (W0 := WX G g o (fmL Tm (g2, G.2) M2) (M, f)) (WW := WX G g o (fmL Tm (g2, G.2) M2)) (Q := fun (r : Int32) (u : fmM × (Nat → Int64)) => pvGood Tm 250 qX11_due [.ref 0, .int (xs (t + 1)), .int (xs (t + 2))] M2 (fun r2 M2' => tI r2 ∧ I u.1 M2')) (As := [.ref (g 0), .int (xs (t + 1)), .int (xs (t + 2)), .ref o]) (st := []) (pc := 1617) (fm_c6 25 (by eq_refl) rfl) nst_L_due niL nw_L_due nd_L_due rfl rfl (by decide) (show 311 ≤ room_1.frames by decide) (show 8 + (5 + 11) + 18200 ≤ room_1.locals by decide) (rm_c hcu) (rm_s hsu) (fm_dec dtLa_32 24 rfl) (w_due C.2.2.2.2.2 hw) (fun r u hQ => ?_)
  obtain ⟨M1, f1⟩ := u
  refine z_istore C.1 (pc := 1620) (i := 5) (by decide) rfl (fm_dec dtLa_32 25 rfl) ?_
  dsimp only [List.set_cons_zero, List.set_cons_succ]
  refine z_aloadn C.1 (pc := 1622) (n := 2) 2 rfl rfl (fm_dec dtLa_32 26 rfl) ?_
  refine la_arg C (pc := 1623) (v := 1) (t + 1) rfl rfl (hi 1 (by decide)) (by decide) (fm_dec dtLa_32 27 rfl) (fm_dec dtLa_32 28 rfl) (fm_dec dtLa_32 29 rfl) (fm_dec dtLa_33 0 rfl) (fm_dec dtLa_33 1 rfl) ?_
  refine la_arg C (pc := 1629) (v := 2) (t + 2) rfl rfl (hi 2 (by decide)) (by decide) (fm_dec dtLa_33 2 rfl) (fm_dec dtLa_33 3 rfl) (fm_dec dtLa_33 4 rfl) (fm_dec dtLa_33 5 rfl) (fm_dec dtLa_33 6 rfl) ?_
  have hcw := hcu1
  have hsw := hsu1
  refine z_perm (ws := (fmL Tx (g, G.2) M1 ++ ((o, .inl (G.2.2.1 1, 1, .inr (.inl f1))) :: fmL Tm (g2, G.2) M2))) (wpermW _ _ _) ?_
  refine la_ref C (pc := 1635) (As := [.int (xs (t + 1)), .int (xs (t + 2))]) (st := []) cvL_257 (by decide +kernel) rfl rfl (Nat.le_of_ble_eq_true rfl) (by decide) hcw hsw (fm_dec dtLa_33 7 rfl) rfl hQ (fun r2 M3 h3 => ?_)
  obtain ⟨⟨v2, rfl⟩, hI3⟩ := h3
  refine z_then1 ?_
  refine z_istore C.1 (pc := 1638) (i := 6) (by decide) rfl (fm_dec dtLa_33 8 rfl) ?_
  dsimp only [List.set_cons_zero, List.set_cons_succ]
  refine z_goto C.1 (pc := 1640) 1940 (by decide) (fm_dec dtLa_33 9 rfl) ?_
  exact z_perm (wpermB _ _ _) (la_fgt (kk M1 f1 M3 hI3))
set_option maxRecDepth 20000 in
theorem la_c38 {p : Program} {l : Launch} {e : Env} {s : State} {m : MethodId} {below : List Frame} {meth : Method} {c : Code} {G : fmG} {b n : Nat} {xs : Nat → Int32} {I : fmM → fmM → Prop} (hS : laS_news I) (C : laC p l s m meth c G b n xs) {g g2 : Nat → Nat} {M M2 : fmM} {f : Nat → Int64} {o t : Nat} {i : Int32} {cu su : Nat} (hi : laI n i t) (hcu : cu + 1 ≤ 601024) (hsu : su + 6 ≤ 7293034) (hcu1 : cu + 1 + 1 ≤ 601024) (hsu1 : su + 6 + 6 ≤ 7293034) (hI : I M M2) (kk : ∀ (M' : fmM) (f' : Nat → Int64) (M2' : fmM), I M' M2' → zEv p l e room_1 s m #[.ref b] below meth c G (fun q => s.heap.size ≤ q) 8 (lw_Z below #[.ref b] s) 1940 [some (.ref b), some (.ref (g 0)), some (.ref (g2 0)), some (.ref o), some (.int i), none, none, none] [] (fmL Tx (g, G.2) M' ++ ((o, .inl (G.2.2.1 1, 1, .inr (.inl f'))) :: fmL Tm (g2, G.2) M2')) (cu + 1) (su + 6)) : zEv p l e room_1 s m #[.ref b] below meth c G (fun q => s.heap.size ≤ q) 8 (lw_Z below #[.ref b] s) 1643 [some (.ref b), some (.ref (g 0)), some (.ref (g2 0)), some (.ref o), some (.int i), none, none, none] [] (fmL Tx (g, G.2) M ++ ((o, .inl (G.2.2.1 1, 1, .inr (.inl f))) :: fmL Tm (g2, G.2) M2)) cu su := by
  have h0 := hS M M2 (xs (t + 1)) hI
  refine z_aloadn C.1 (pc := 1643) (n := 1) 1 rfl rfl (fm_dec dtLa_33 10 rfl) ?_
  refine la_arg C (pc := 1644) (v := 1) (t + 1) rfl rfl (hi 1 (by decide)) (by decide) (fm_dec dtLa_33 11 rfl) (fm_dec dtLa_33 12 rfl) (fm_dec dtLa_33 13 rfl) (fm_dec dtLa_33 14 rfl) (fm_dec dtLa_33 15 rfl) ?_
  refine z_aloadn C.1 (pc := 1650) (n := 3) 3 rfl rfl (fm_dec dtLa_33 16 rfl) ?_
  have hw : pvGood Tx 250 qX10_news [.ref 0, .int (xs (t + 1))] M (wI f (fun (r : Int32) (u : fmM × (Nat → Int64)) => pvGood Tm 250 qX11_news [.ref 0, .int (xs (t + 1))] M2 (fun r2 M2' => tI r2 ∧ I u.1 M2')) (fun E M' => (E = fmNSE ∧ (fun (r : Int32) (u : fmM × (Nat → Int64)) => pvGood Tm 250 qX11_news [.ref 0, .int (xs (t + 1))] M2 (fun r2 M2' => tI r2 ∧ I u.1 M2')) 1 (M', f)))) := h0.imp (fun r9 M9 h9 => by
    obtain ⟨h8, h2⟩ := h9
    rcases h8 with ⟨v, rfl⟩ | ⟨h6, rfl⟩ | ⟨h6, rfl⟩
    · exact h2
    · exact absurd h6 (by decide)
    · exact ⟨rfl, h2⟩)
  refine z_callW C.1 (y' := qL_news) (hh := [(0, 9, 12, 31)]) (W0 := WX G g o (fmL Tm (g2, G.2) M2) (M, f)) (WW := WX G g o (fmL Tm (g2, G.2) M2)) (Q := fun (r : Int32) (u : fmM × (Nat → Int64)) => pvGood Tm 250 qX11_news [.ref 0, .int (xs (t + 1))] M2 (fun r2 M2' => tI r2 ∧ I u.1 M2')) (As := [.ref (g 0), .int (xs (t + 1)), .ref o]) (st := []) (pc := 1651) (fm_c6 32 (by eq_refl) rfl) nst_L_news niL nw_L_news nd_L_news rfl rfl (by decide) (show 311 ≤ room_1.frames by decide) (show 8 + (4 + 11) + 18200 ≤ room_1.locals by decide) (rm_c hcu) (rm_s hsu) (fm_dec dtLa_33 17 rfl) (w_news C.2.2.2.2.2 hw) (fun r u hQ => ?_)
  obtain ⟨M1, f1⟩ := u
  refine z_istore C.1 (pc := 1654) (i := 5) (by decide) rfl (fm_dec dtLa_33 18 rfl) ?_
  dsimp only [List.set_cons_zero, List.set_cons_succ]
  refine z_aloadn C.1 (pc := 1656) (n := 2) 2 rfl rfl (fm_dec dtLa_33 19 rfl) ?_
  refine la_arg C (pc := 1657) (v := 1) (t + 1) rfl rfl (hi 1 (by decide)) (by decide) (fm_dec dtLa_33 20 rfl) (fm_dec dtLa_33 21 rfl) (fm_dec dtLa_33 22 rfl) (fm_dec dtLa_33 23 rfl) (fm_dec dtLa_33 24 rfl) ?_
  have hcw := hcu1
  have hsw := hsu1
  refine z_perm (ws := (fmL Tx (g, G.2) M1 ++ ((o, .inl (G.2.2.1 1, 1, .inr (.inl f1))) :: fmL Tm (g2, G.2) M2))) (wpermW _ _ _) ?_
  refine la_ref C (pc := 1663) (As := [.int (xs (t + 1))]) (st := []) cvL_260 (by decide +kernel) rfl rfl (Nat.le_of_ble_eq_true rfl) (by decide) hcw hsw (fm_dec dtLa_33 25 rfl) rfl hQ (fun r2 M3 h3 => ?_)
  obtain ⟨⟨v2, rfl⟩, hI3⟩ := h3
  refine z_then1 ?_
  refine z_istore C.1 (pc := 1666) (i := 6) (by decide) rfl (fm_dec dtLa_33 26 rfl) ?_
  dsimp only [List.set_cons_zero, List.set_cons_succ]
  refine z_goto C.1 (pc := 1668) 1940 (by decide) (fm_dec dtLa_33 27 rfl) ?_
  exact z_perm (wpermB _ _ _) (la_fgt (kk M1 f1 M3 hI3))
set_option maxRecDepth 20000 in
theorem la_c39 {p : Program} {l : Launch} {e : Env} {s : State} {m : MethodId} {below : List Frame} {meth : Method} {c : Code} {G : fmG} {b n : Nat} {xs : Nat → Int32} {I : fmM → fmM → Prop} (hS : laS_expects I) (C : laC p l s m meth c G b n xs) {g g2 : Nat → Nat} {M M2 : fmM} {f : Nat → Int64} {o t : Nat} {i : Int32} {cu su : Nat} (hi : laI n i t) (hcu : cu + 1 ≤ 601024) (hsu : su + 6 ≤ 7293034) (hcu1 : cu + 1 + 1 ≤ 601024) (hsu1 : su + 6 + 6 ≤ 7293034) (hI : I M M2) (kk : ∀ (M' : fmM) (f' : Nat → Int64) (M2' : fmM), I M' M2' → zEv p l e room_1 s m #[.ref b] below meth c G (fun q => s.heap.size ≤ q) 8 (lw_Z below #[.ref b] s) 1940 [some (.ref b), some (.ref (g 0)), some (.ref (g2 0)), some (.ref o), some (.int i), none, none, none] [] (fmL Tx (g, G.2) M' ++ ((o, .inl (G.2.2.1 1, 1, .inr (.inl f'))) :: fmL Tm (g2, G.2) M2')) (cu + 1) (su + 6)) : zEv p l e room_1 s m #[.ref b] below meth c G (fun q => s.heap.size ≤ q) 8 (lw_Z below #[.ref b] s) 1671 [some (.ref b), some (.ref (g 0)), some (.ref (g2 0)), some (.ref o), some (.int i), none, none, none] [] (fmL Tx (g, G.2) M ++ ((o, .inl (G.2.2.1 1, 1, .inr (.inl f))) :: fmL Tm (g2, G.2) M2)) cu su := by
  have h0 := hS M M2 (xs (t + 1)) (xs (t + 2)) (xs (t + 3)) hI
  refine z_aloadn C.1 (pc := 1671) (n := 1) 1 rfl rfl (fm_dec dtLa_33 28 rfl) ?_
  refine la_arg C (pc := 1672) (v := 1) (t + 1) rfl rfl (hi 1 (by decide)) (by decide) (fm_dec dtLa_33 29 rfl) (fm_dec dtLa_34 0 rfl) (fm_dec dtLa_34 1 rfl) (fm_dec dtLa_34 2 rfl) (fm_dec dtLa_34 3 rfl) ?_
  refine la_arg C (pc := 1678) (v := 2) (t + 2) rfl rfl (hi 2 (by decide)) (by decide) (fm_dec dtLa_34 4 rfl) (fm_dec dtLa_34 5 rfl) (fm_dec dtLa_34 6 rfl) (fm_dec dtLa_34 7 rfl) (fm_dec dtLa_34 8 rfl) ?_
  refine la_arg C (pc := 1684) (v := 3) (t + 3) rfl rfl (hi 3 (by decide)) (by decide) (fm_dec dtLa_34 9 rfl) (fm_dec dtLa_34 10 rfl) (fm_dec dtLa_34 11 rfl) (fm_dec dtLa_34 12 rfl) (fm_dec dtLa_34 13 rfl) ?_
  refine z_aloadn C.1 (pc := 1690) (n := 3) 3 rfl rfl (fm_dec dtLa_34 14 rfl) ?_
  have hw : pvGood Tx 250 qX10_expects [.ref 0, .int (xs (t + 1)), .int (xs (t + 2)), .int (xs (t + 3))] M (wJ f (fun (r : Int32) (u : fmM × (Nat → Int64)) => pvGood Tm 250 qX11_expects [.ref 0, .int (xs (t + 1)), .int (xs (t + 2)), .int (xs (t + 3))] M2 (fun r2 M2' => tJ r2 ∧ I u.1 M2')) (fun E M' => (E = fmNSE ∧ (fun (r : Int32) (u : fmM × (Nat → Int64)) => pvGood Tm 250 qX11_expects [.ref 0, .int (xs (t + 1)), .int (xs (t + 2)), .int (xs (t + 3))] M2 (fun r2 M2' => tJ r2 ∧ I u.1 M2')) 1 (M', f)) ∨ (E = fmIAE ∧ (fun (r : Int32) (u : fmM × (Nat → Int64)) => pvGood Tm 250 qX11_expects [.ref 0, .int (xs (t + 1)), .int (xs (t + 2)), .int (xs (t + 3))] M2 (fun r2 M2' => tJ r2 ∧ I u.1 M2')) 2 (M', f)))) := h0.imp (fun r9 M9 h9 => by
    obtain ⟨h8, h2⟩ := h9
    rcases h8 with ⟨v, rfl⟩ | ⟨-, rfl⟩ | ⟨-, rfl⟩
    · exact h2
    · exact Or.inr ⟨rfl, h2⟩
    · exact Or.inl ⟨rfl, h2⟩)
  refine z_callW C.1 (y' := qL_expects) (hh := [(0, 11, 14, 31), (0, 11, 18, 13)]) (W0 := WX G g o (fmL Tm (g2, G.2) M2) (M, f)) (WW := WX G g o (fmL Tm (g2, G.2) M2)) (Q := fun (r : Int32) (u : fmM × (Nat → Int64)) => pvGood Tm 250 qX11_expects [.ref 0, .int (xs (t + 1)), .int (xs (t + 2)), .int (xs (t + 3))] M2 (fun r2 M2' => tJ r2 ∧ I u.1 M2')) (As := [.ref (g 0), .int (xs (t + 1)), .int (xs (t + 2)), .int (xs (t + 3)), .ref o]) (st := []) (pc := 1691) (fm_c6 43 (by eq_refl) rfl) nst_L_expects niL nw_L_expects nd_L_expects rfl rfl (by decide) (show 311 ≤ room_1.frames by decide) (show 8 + (6 + 11) + 18200 ≤ room_1.locals by decide) (rm_c hcu) (rm_s hsu) (fm_dec dtLa_34 15 rfl) (w_expects C.2.2.2.2.2 hw) (fun r u hQ => ?_)
  obtain ⟨M1, f1⟩ := u
  refine z_istore C.1 (pc := 1694) (i := 5) (by decide) rfl (fm_dec dtLa_34 16 rfl) ?_
  dsimp only [List.set_cons_zero, List.set_cons_succ]
  refine z_aloadn C.1 (pc := 1696) (n := 2) 2 rfl rfl (fm_dec dtLa_34 17 rfl) ?_
  refine la_arg C (pc := 1697) (v := 1) (t + 1) rfl rfl (hi 1 (by decide)) (by decide) (fm_dec dtLa_34 18 rfl) (fm_dec dtLa_34 19 rfl) (fm_dec dtLa_34 20 rfl) (fm_dec dtLa_34 21 rfl) (fm_dec dtLa_34 22 rfl) ?_
  refine la_arg C (pc := 1703) (v := 2) (t + 2) rfl rfl (hi 2 (by decide)) (by decide) (fm_dec dtLa_34 23 rfl) (fm_dec dtLa_34 24 rfl) (fm_dec dtLa_34 25 rfl) (fm_dec dtLa_34 26 rfl) (fm_dec dtLa_34 27 rfl) ?_
  refine la_arg C (pc := 1709) (v := 3) (t + 3) rfl rfl (hi 3 (by decide)) (by decide) (fm_dec dtLa_34 28 rfl) (fm_dec dtLa_34 29 rfl) (fm_dec dtLa_35 0 rfl) (fm_dec dtLa_35 1 rfl) (fm_dec dtLa_35 2 rfl) ?_
  have hcw := hcu1
  have hsw := hsu1
  refine z_perm (ws := (fmL Tx (g, G.2) M1 ++ ((o, .inl (G.2.2.1 1, 1, .inr (.inl f1))) :: fmL Tm (g2, G.2) M2))) (wpermW _ _ _) ?_
  refine la_ref C (pc := 1715) (As := [.int (xs (t + 1)), .int (xs (t + 2)), .int (xs (t + 3))]) (st := []) cvL_263 (by decide +kernel) rfl rfl (Nat.le_of_ble_eq_true rfl) (by decide) hcw hsw (fm_dec dtLa_35 3 rfl) rfl hQ (fun r2 M3 h3 => ?_)
  obtain ⟨⟨v2, rfl⟩, hI3⟩ := h3
  refine z_then1 ?_
  refine z_lstore C.1 (pc := 1718) (i := 6) (by decide) rfl (fm_dec dtLa_35 4 rfl) ?_
  dsimp only [List.set_cons_zero, List.set_cons_succ]
  refine z_goto C.1 (pc := 1720) 1940 (by decide) (fm_dec dtLa_35 5 rfl) ?_
  exact z_perm (wpermB _ _ _) (la_fgt (kk M1 f1 M3 hI3))
set_option maxRecDepth 20000 in
theorem la_c40 {p : Program} {l : Launch} {e : Env} {s : State} {m : MethodId} {below : List Frame} {meth : Method} {c : Code} {G : fmG} {b n : Nat} {xs : Nat → Int32} {I : fmM → fmM → Prop} (hS : laS_worst I) (C : laC p l s m meth c G b n xs) {g g2 : Nat → Nat} {M M2 : fmM} {f : Nat → Int64} {o t : Nat} {i : Int32} {cu su : Nat} (hi : laI n i t) (hcu : cu + 1 ≤ 601024) (hsu : su + 6 ≤ 7293034) (hcu1 : cu + 1 + 1 ≤ 601024) (hsu1 : su + 6 + 6 ≤ 7293034) (hI : I M M2) (kk : ∀ (M' : fmM) (f' : Nat → Int64) (M2' : fmM), I M' M2' → zEv p l e room_1 s m #[.ref b] below meth c G (fun q => s.heap.size ≤ q) 8 (lw_Z below #[.ref b] s) 1940 [some (.ref b), some (.ref (g 0)), some (.ref (g2 0)), some (.ref o), some (.int i), none, none, none] [] (fmL Tx (g, G.2) M' ++ ((o, .inl (G.2.2.1 1, 1, .inr (.inl f'))) :: fmL Tm (g2, G.2) M2')) (cu + 1) (su + 6)) : zEv p l e room_1 s m #[.ref b] below meth c G (fun q => s.heap.size ≤ q) 8 (lw_Z below #[.ref b] s) 1723 [some (.ref b), some (.ref (g 0)), some (.ref (g2 0)), some (.ref o), some (.int i), none, none, none] [] (fmL Tx (g, G.2) M ++ ((o, .inl (G.2.2.1 1, 1, .inr (.inl f))) :: fmL Tm (g2, G.2) M2)) cu su := by
  have h0 := hS M M2 hI
  refine z_aloadn C.1 (pc := 1723) (n := 1) 1 rfl rfl (fm_dec dtLa_35 6 rfl) ?_
  refine z_callX C.1 (T := Tx) (g := g) (M := M) (rest := (o, .inl (G.2.2.1 1, 1, .inr (.inl f))) :: fmL Tm (g2, G.2) M2) (k := 0) (ci := 10) (d' := 250) (pc := 1724) (As := []) (st := []) cvL_264 (by decide) rfl rfl rfl (by decide) (rm_fr (by decide)) (rm_lo (by decide) (by decide)) (rm_c hcu) (rm_s hsu) (fm_dec dtLa_35 7 rfl) ?_
  refine fmGood.imp (pvGood.fm C.2.2.2.2.2 (by decide) (by decide +kernel) h0) (fun o9 M1 h9 => ?_)
  obtain ⟨o', rfl, h8, h2⟩ := h9
  rcases h8 with ⟨v, rfl⟩ | ⟨h8, -⟩ | ⟨h8, -⟩
  · refine z_then1 ?_
    refine z_aloadn C.1 (pc := 1727) (n := 2) 2 rfl rfl (fm_dec dtLa_35 8 rfl) ?_
    have hcw := hcu
    have hsw := hsu
    refine z_perm (ws := (fmL Tx (g, G.2) M1 ++ ((o, .inl (G.2.2.1 1, 1, .inr (.inl f))) :: fmL Tm (g2, G.2) M2))) (wpermW _ _ _) ?_
    refine la_ref C (pc := 1728) (As := []) (st := [.int v]) cvL_267 (by decide +kernel) rfl rfl (Nat.le_of_ble_eq_true rfl) (by decide) hcw hsw (fm_dec dtLa_35 9 rfl) rfl h2 (fun r2 M3 h3 => ?_)
    obtain ⟨⟨v2, rfl⟩, e2, hI3⟩ := h3
    refine z_then1 ?_
    have e3 : v2 = v := by cases e2; rfl
    subst e3
    refine z_icmp_eq C.1 (pc := 1731) 1940 (by decide) (fm_dec dtLa_35 10 rfl) (fun _ => ?_) (fun h => absurd rfl h)
    refine z_more (Nat.le_succ _) (Nat.le_add_right _ 6) ?_
    exact z_perm (wpermB _ _ _) (la_fgt (kk M1 f M3 hI3))
  · cases h8
  · cases h8
set_option maxRecDepth 20000 in
theorem la_c41 {p : Program} {l : Launch} {e : Env} {s : State} {m : MethodId} {below : List Frame} {meth : Method} {c : Code} {G : fmG} {b n : Nat} {xs : Nat → Int32} {I : fmM → fmM → Prop} (hS : laS_years I) (C : laC p l s m meth c G b n xs) {g g2 : Nat → Nat} {M M2 : fmM} {f : Nat → Int64} {o t : Nat} {i : Int32} {cu su : Nat} (hi : laI n i t) (hcu : cu + 1 ≤ 601024) (hsu : su + 6 ≤ 7293034) (hcu1 : cu + 1 + 1 ≤ 601024) (hsu1 : su + 6 + 6 ≤ 7293034) (hI : I M M2) (kk : ∀ (M' : fmM) (f' : Nat → Int64) (M2' : fmM), I M' M2' → zEv p l e room_1 s m #[.ref b] below meth c G (fun q => s.heap.size ≤ q) 8 (lw_Z below #[.ref b] s) 1940 [some (.ref b), some (.ref (g 0)), some (.ref (g2 0)), some (.ref o), some (.int i), none, none, none] [] (fmL Tx (g, G.2) M' ++ ((o, .inl (G.2.2.1 1, 1, .inr (.inl f'))) :: fmL Tm (g2, G.2) M2')) (cu + 1) (su + 6)) : zEv p l e room_1 s m #[.ref b] below meth c G (fun q => s.heap.size ≤ q) 8 (lw_Z below #[.ref b] s) 1736 [some (.ref b), some (.ref (g 0)), some (.ref (g2 0)), some (.ref o), some (.int i), none, none, none] [] (fmL Tx (g, G.2) M ++ ((o, .inl (G.2.2.1 1, 1, .inr (.inl f))) :: fmL Tm (g2, G.2) M2)) cu su := by
  have h0 := hS M M2 (xs (t + 1)) (xs (t + 2)) (xs (t + 3)) hI
  refine z_aloadn C.1 (pc := 1736) (n := 1) 1 rfl rfl (fm_dec dtLa_35 13 rfl) ?_
  refine la_arg C (pc := 1737) (v := 1) (t + 1) rfl rfl (hi 1 (by decide)) (by decide) (fm_dec dtLa_35 14 rfl) (fm_dec dtLa_35 15 rfl) (fm_dec dtLa_35 16 rfl) (fm_dec dtLa_35 17 rfl) (fm_dec dtLa_35 18 rfl) ?_
  refine la_arg C (pc := 1743) (v := 2) (t + 2) rfl rfl (hi 2 (by decide)) (by decide) (fm_dec dtLa_35 19 rfl) (fm_dec dtLa_35 20 rfl) (fm_dec dtLa_35 21 rfl) (fm_dec dtLa_35 22 rfl) (fm_dec dtLa_35 23 rfl) ?_
  refine la_arg C (pc := 1749) (v := 3) (t + 3) rfl rfl (hi 3 (by decide)) (by decide) (fm_dec dtLa_35 24 rfl) (fm_dec dtLa_35 25 rfl) (fm_dec dtLa_35 26 rfl) (fm_dec dtLa_35 27 rfl) (fm_dec dtLa_35 28 rfl) ?_
  refine z_aloadn C.1 (pc := 1755) (n := 3) 3 rfl rfl (fm_dec dtLa_35 29 rfl) ?_
  have hw : pvGood Tx 250 qX10_years [.ref 0, .int (xs (t + 1)), .int (xs (t + 2)), .int (xs (t + 3))] M (wI f (fun (r : Int32) (u : fmM × (Nat → Int64)) => pvGood Tm 250 qX11_years [.ref 0, .int (xs (t + 1)), .int (xs (t + 2)), .int (xs (t + 3))] M2 (fun r2 M2' => tI r2 ∧ I u.1 M2')) (fun E M' => (E = fmIAE ∧ (fun (r : Int32) (u : fmM × (Nat → Int64)) => pvGood Tm 250 qX11_years [.ref 0, .int (xs (t + 1)), .int (xs (t + 2)), .int (xs (t + 3))] M2 (fun r2 M2' => tI r2 ∧ I u.1 M2')) 1 (M', f)))) := h0.imp (fun r9 M9 h9 => by
    obtain ⟨h8, h2⟩ := h9
    rcases h8 with ⟨v, rfl⟩ | ⟨h6, rfl⟩ | ⟨h6, rfl⟩
    · exact h2
    · exact ⟨rfl, h2⟩
    · exact absurd h6 (by decide))
  refine z_callW C.1 (y' := qL_years) (hh := [(0, 12, 15, 13)]) (W0 := WX G g o (fmL Tm (g2, G.2) M2) (M, f)) (WW := WX G g o (fmL Tm (g2, G.2) M2)) (Q := fun (r : Int32) (u : fmM × (Nat → Int64)) => pvGood Tm 250 qX11_years [.ref 0, .int (xs (t + 1)), .int (xs (t + 2)), .int (xs (t + 3))] M2 (fun r2 M2' => tI r2 ∧ I u.1 M2')) (As := [.ref (g 0), .int (xs (t + 1)), .int (xs (t + 2)), .int (xs (t + 3)), .ref o]) (st := []) (pc := 1756) (fm_c6 51 (by eq_refl) rfl) nst_L_years niL nw_L_years nd_L_years rfl rfl (by decide) (show 311 ≤ room_1.frames by decide) (show 8 + (6 + 11) + 18200 ≤ room_1.locals by decide) (rm_c hcu) (rm_s hsu) (fm_dec dtLa_36 0 rfl) (w_years C.2.2.2.2.2 hw) (fun r u hQ => ?_)
  obtain ⟨M1, f1⟩ := u
  refine z_istore C.1 (pc := 1759) (i := 5) (by decide) rfl (fm_dec dtLa_36 1 rfl) ?_
  dsimp only [List.set_cons_zero, List.set_cons_succ]
  refine z_aloadn C.1 (pc := 1761) (n := 2) 2 rfl rfl (fm_dec dtLa_36 2 rfl) ?_
  refine la_arg C (pc := 1762) (v := 1) (t + 1) rfl rfl (hi 1 (by decide)) (by decide) (fm_dec dtLa_36 3 rfl) (fm_dec dtLa_36 4 rfl) (fm_dec dtLa_36 5 rfl) (fm_dec dtLa_36 6 rfl) (fm_dec dtLa_36 7 rfl) ?_
  refine la_arg C (pc := 1768) (v := 2) (t + 2) rfl rfl (hi 2 (by decide)) (by decide) (fm_dec dtLa_36 8 rfl) (fm_dec dtLa_36 9 rfl) (fm_dec dtLa_36 10 rfl) (fm_dec dtLa_36 11 rfl) (fm_dec dtLa_36 12 rfl) ?_
  refine la_arg C (pc := 1774) (v := 3) (t + 3) rfl rfl (hi 3 (by decide)) (by decide) (fm_dec dtLa_36 13 rfl) (fm_dec dtLa_36 14 rfl) (fm_dec dtLa_36 15 rfl) (fm_dec dtLa_36 16 rfl) (fm_dec dtLa_36 17 rfl) ?_
  have hcw := hcu1
  have hsw := hsu1
  refine z_perm (ws := (fmL Tx (g, G.2) M1 ++ ((o, .inl (G.2.2.1 1, 1, .inr (.inl f1))) :: fmL Tm (g2, G.2) M2))) (wpermW _ _ _) ?_
  refine la_ref C (pc := 1780) (As := [.int (xs (t + 1)), .int (xs (t + 2)), .int (xs (t + 3))]) (st := []) cvL_270 (by decide +kernel) rfl rfl (Nat.le_of_ble_eq_true rfl) (by decide) hcw hsw (fm_dec dtLa_36 18 rfl) rfl hQ (fun r2 M3 h3 => ?_)
  obtain ⟨⟨v2, rfl⟩, hI3⟩ := h3
  refine z_then1 ?_
  refine z_istore C.1 (pc := 1783) (i := 6) (by decide) rfl (fm_dec dtLa_36 19 rfl) ?_
  dsimp only [List.set_cons_zero, List.set_cons_succ]
  refine z_goto C.1 (pc := 1785) 1940 (by decide) (fm_dec dtLa_36 20 rfl) ?_
  exact z_perm (wpermB _ _ _) (la_fgt (kk M1 f1 M3 hI3))
set_option maxRecDepth 20000 in
theorem la_c42 {p : Program} {l : Launch} {e : Env} {s : State} {m : MethodId} {below : List Frame} {meth : Method} {c : Code} {G : fmG} {b n : Nat} {xs : Nat → Int32} {I : fmM → fmM → Prop} (hS : laS_span I) (C : laC p l s m meth c G b n xs) {g g2 : Nat → Nat} {M M2 : fmM} {f : Nat → Int64} {o t : Nat} {i : Int32} {cu su : Nat} (hi : laI n i t) (hcu : cu + 1 ≤ 601024) (hsu : su + 6 ≤ 7293034) (hcu1 : cu + 1 + 1 ≤ 601024) (hsu1 : su + 6 + 6 ≤ 7293034) (hI : I M M2) (kk : ∀ (M' : fmM) (f' : Nat → Int64) (M2' : fmM), I M' M2' → zEv p l e room_1 s m #[.ref b] below meth c G (fun q => s.heap.size ≤ q) 8 (lw_Z below #[.ref b] s) 1940 [some (.ref b), some (.ref (g 0)), some (.ref (g2 0)), some (.ref o), some (.int i), none, none, none] [] (fmL Tx (g, G.2) M' ++ ((o, .inl (G.2.2.1 1, 1, .inr (.inl f'))) :: fmL Tm (g2, G.2) M2')) (cu + 1) (su + 6)) : zEv p l e room_1 s m #[.ref b] below meth c G (fun q => s.heap.size ≤ q) 8 (lw_Z below #[.ref b] s) 1788 [some (.ref b), some (.ref (g 0)), some (.ref (g2 0)), some (.ref o), some (.int i), none, none, none] [] (fmL Tx (g, G.2) M ++ ((o, .inl (G.2.2.1 1, 1, .inr (.inl f))) :: fmL Tm (g2, G.2) M2)) cu su := by
  have h0 := hS M M2 (xs (t + 1)) (xs (t + 2)) (xs (t + 3)) (xs (t + 4)) (xs (t + 5)) hI
  refine z_aloadn C.1 (pc := 1788) (n := 1) 1 rfl rfl (fm_dec dtLa_36 21 rfl) ?_
  refine la_arg C (pc := 1789) (v := 1) (t + 1) rfl rfl (hi 1 (by decide)) (by decide) (fm_dec dtLa_36 22 rfl) (fm_dec dtLa_36 23 rfl) (fm_dec dtLa_36 24 rfl) (fm_dec dtLa_36 25 rfl) (fm_dec dtLa_36 26 rfl) ?_
  refine la_arg C (pc := 1795) (v := 2) (t + 2) rfl rfl (hi 2 (by decide)) (by decide) (fm_dec dtLa_36 27 rfl) (fm_dec dtLa_36 28 rfl) (fm_dec dtLa_36 29 rfl) (fm_dec dtLa_37 0 rfl) (fm_dec dtLa_37 1 rfl) ?_
  refine la_arg C (pc := 1801) (v := 3) (t + 3) rfl rfl (hi 3 (by decide)) (by decide) (fm_dec dtLa_37 2 rfl) (fm_dec dtLa_37 3 rfl) (fm_dec dtLa_37 4 rfl) (fm_dec dtLa_37 5 rfl) (fm_dec dtLa_37 6 rfl) ?_
  refine la_arg C (pc := 1807) (v := 4) (t + 4) rfl rfl (hi 4 (by decide)) (by decide) (fm_dec dtLa_37 7 rfl) (fm_dec dtLa_37 8 rfl) (fm_dec dtLa_37 9 rfl) (fm_dec dtLa_37 10 rfl) (fm_dec dtLa_37 11 rfl) ?_
  refine la_arg C (pc := 1813) (v := 5) (t + 5) rfl rfl (hi 5 (by decide)) (by decide) (fm_dec dtLa_37 12 rfl) (fm_dec dtLa_37 13 rfl) (fm_dec dtLa_37 14 rfl) (fm_dec dtLa_37 15 rfl) (fm_dec dtLa_37 16 rfl) ?_
  refine z_aloadn C.1 (pc := 1819) (n := 3) 3 rfl rfl (fm_dec dtLa_37 17 rfl) ?_
  have hw : pvGood Tx 250 qX10_span [.ref 0, .int (xs (t + 1)), .int (xs (t + 2)), .int (xs (t + 3)), .int (xs (t + 4)), .int (xs (t + 5))] M (wI f (fun (r : Int32) (u : fmM × (Nat → Int64)) => pvGood Tm 250 qX11_span [.ref 0, .int (xs (t + 1)), .int (xs (t + 2)), .int (xs (t + 3)), .int (xs (t + 4)), .int (xs (t + 5))] M2 (fun r2 M2' => tI r2 ∧ I u.1 M2')) (fun E M' => (E = fmIAE ∧ (fun (r : Int32) (u : fmM × (Nat → Int64)) => pvGood Tm 250 qX11_span [.ref 0, .int (xs (t + 1)), .int (xs (t + 2)), .int (xs (t + 3)), .int (xs (t + 4)), .int (xs (t + 5))] M2 (fun r2 M2' => tI r2 ∧ I u.1 M2')) 1 (M', f)))) := h0.imp (fun r9 M9 h9 => by
    obtain ⟨h8, h2⟩ := h9
    rcases h8 with ⟨v, rfl⟩ | ⟨h6, rfl⟩ | ⟨h6, rfl⟩
    · exact h2
    · exact ⟨rfl, h2⟩
    · exact absurd h6 (by decide))
  refine z_callW C.1 (y' := qL_span) (hh := [(0, 16, 19, 13)]) (W0 := WX G g o (fmL Tm (g2, G.2) M2) (M, f)) (WW := WX G g o (fmL Tm (g2, G.2) M2)) (Q := fun (r : Int32) (u : fmM × (Nat → Int64)) => pvGood Tm 250 qX11_span [.ref 0, .int (xs (t + 1)), .int (xs (t + 2)), .int (xs (t + 3)), .int (xs (t + 4)), .int (xs (t + 5))] M2 (fun r2 M2' => tI r2 ∧ I u.1 M2')) (As := [.ref (g 0), .int (xs (t + 1)), .int (xs (t + 2)), .int (xs (t + 3)), .int (xs (t + 4)), .int (xs (t + 5)), .ref o]) (st := []) (pc := 1820) (fm_c6 82 (by eq_refl) rfl) nst_L_span niL nw_L_span nd_L_span rfl rfl (by decide) (show 311 ≤ room_1.frames by decide) (show 8 + (8 + 11) + 18200 ≤ room_1.locals by decide) (rm_c hcu) (rm_s hsu) (fm_dec dtLa_37 18 rfl) (w_span C.2.2.2.2.2 hw) (fun r u hQ => ?_)
  obtain ⟨M1, f1⟩ := u
  refine z_istore C.1 (pc := 1823) (i := 5) (by decide) rfl (fm_dec dtLa_37 19 rfl) ?_
  dsimp only [List.set_cons_zero, List.set_cons_succ]
  refine z_aloadn C.1 (pc := 1825) (n := 2) 2 rfl rfl (fm_dec dtLa_37 20 rfl) ?_
  refine la_arg C (pc := 1826) (v := 1) (t + 1) rfl rfl (hi 1 (by decide)) (by decide) (fm_dec dtLa_37 21 rfl) (fm_dec dtLa_37 22 rfl) (fm_dec dtLa_37 23 rfl) (fm_dec dtLa_37 24 rfl) (fm_dec dtLa_37 25 rfl) ?_
  refine la_arg C (pc := 1832) (v := 2) (t + 2) rfl rfl (hi 2 (by decide)) (by decide) (fm_dec dtLa_37 26 rfl) (fm_dec dtLa_37 27 rfl) (fm_dec dtLa_37 28 rfl) (fm_dec dtLa_37 29 rfl) (fm_dec dtLa_38 0 rfl) ?_
  refine la_arg C (pc := 1838) (v := 3) (t + 3) rfl rfl (hi 3 (by decide)) (by decide) (fm_dec dtLa_38 1 rfl) (fm_dec dtLa_38 2 rfl) (fm_dec dtLa_38 3 rfl) (fm_dec dtLa_38 4 rfl) (fm_dec dtLa_38 5 rfl) ?_
  refine la_arg C (pc := 1844) (v := 4) (t + 4) rfl rfl (hi 4 (by decide)) (by decide) (fm_dec dtLa_38 6 rfl) (fm_dec dtLa_38 7 rfl) (fm_dec dtLa_38 8 rfl) (fm_dec dtLa_38 9 rfl) (fm_dec dtLa_38 10 rfl) ?_
  refine la_arg C (pc := 1850) (v := 5) (t + 5) rfl rfl (hi 5 (by decide)) (by decide) (fm_dec dtLa_38 11 rfl) (fm_dec dtLa_38 12 rfl) (fm_dec dtLa_38 13 rfl) (fm_dec dtLa_38 14 rfl) (fm_dec dtLa_38 15 rfl) ?_
  have hcw := hcu1
  have hsw := hsu1
  refine z_perm (ws := (fmL Tx (g, G.2) M1 ++ ((o, .inl (G.2.2.1 1, 1, .inr (.inl f1))) :: fmL Tm (g2, G.2) M2))) (wpermW _ _ _) ?_
  refine la_ref C (pc := 1856) (As := [.int (xs (t + 1)), .int (xs (t + 2)), .int (xs (t + 3)), .int (xs (t + 4)), .int (xs (t + 5))]) (st := []) cvL_273 (by decide +kernel) rfl rfl (Nat.le_of_ble_eq_true rfl) (by decide) hcw hsw (fm_dec dtLa_38 16 rfl) rfl hQ (fun r2 M3 h3 => ?_)
  obtain ⟨⟨v2, rfl⟩, hI3⟩ := h3
  refine z_then1 ?_
  refine z_istore C.1 (pc := 1859) (i := 6) (by decide) rfl (fm_dec dtLa_38 17 rfl) ?_
  dsimp only [List.set_cons_zero, List.set_cons_succ]
  refine z_goto C.1 (pc := 1861) 1940 (by decide) (fm_dec dtLa_38 18 rfl) ?_
  exact z_perm (wpermB _ _ _) (la_fgt (kk M1 f1 M3 hI3))
set_option maxRecDepth 20000 in
theorem la_c43 {p : Program} {l : Launch} {e : Env} {s : State} {m : MethodId} {below : List Frame} {meth : Method} {c : Code} {G : fmG} {b n : Nat} {xs : Nat → Int32} {I : fmM → fmM → Prop} (hS : laS_image I) (C : laC p l s m meth c G b n xs) {g g2 : Nat → Nat} {M M2 : fmM} {f : Nat → Int64} {o t : Nat} {i : Int32} {cu su : Nat} (hi : laI n i t) (hcu : cu + 1 ≤ 601024) (hsu : su + 6 ≤ 7293034) (hcu1 : cu + 1 + 1 ≤ 601024) (hsu1 : su + 6 + 6 ≤ 7293034) (hI : I M M2) (kk : ∀ (M' : fmM) (f' : Nat → Int64) (M2' : fmM), I M' M2' → zEv p l e room_1 s m #[.ref b] below meth c G (fun q => s.heap.size ≤ q) 8 (lw_Z below #[.ref b] s) 1940 [some (.ref b), some (.ref (g 0)), some (.ref (g2 0)), some (.ref o), some (.int i), none, none, none] [] (fmL Tx (g, G.2) M' ++ ((o, .inl (G.2.2.1 1, 1, .inr (.inl f'))) :: fmL Tm (g2, G.2) M2')) (cu + 1) (su + 6)) : zEv p l e room_1 s m #[.ref b] below meth c G (fun q => s.heap.size ≤ q) 8 (lw_Z below #[.ref b] s) 1864 [some (.ref b), some (.ref (g 0)), some (.ref (g2 0)), some (.ref o), some (.int i), none, none, none] [] (fmL Tx (g, G.2) M ++ ((o, .inl (G.2.2.1 1, 1, .inr (.inl f))) :: fmL Tm (g2, G.2) M2)) cu su := by
  have h0 := hS M M2 hI
  refine z_aloadn C.1 (pc := 1864) (n := 1) 1 rfl rfl (fm_dec dtLa_38 19 rfl) ?_
  refine z_callX C.1 (T := Tx) (g := g) (M := M) (rest := (o, .inl (G.2.2.1 1, 1, .inr (.inl f))) :: fmL Tm (g2, G.2) M2) (k := 0) (ci := 10) (d' := 250) (pc := 1865) (As := []) (st := []) cvL_274 (by decide) rfl rfl rfl (by decide) (rm_fr (by decide)) (rm_lo (by decide) (by decide)) (rm_c hcu) (rm_s hsu) (fm_dec dtLa_38 20 rfl) ?_
  refine fmGood.imp (pvGood.fm C.2.2.2.2.2 (by decide) (by decide +kernel) h0) (fun o9 M1 h9 => ?_)
  obtain ⟨o', rfl, h8, h2⟩ := h9
  rcases h8 with ⟨v, rfl⟩ | ⟨h8, -⟩ | ⟨h8, -⟩
  · refine z_then1 ?_
    refine z_pop C.1 (pc := 1868) rfl (fm_dec dtLa_38 21 rfl) ?_
    refine z_aloadn C.1 (pc := 1869) (n := 2) 2 rfl rfl (fm_dec dtLa_38 22 rfl) ?_
    have hcw := hcu
    have hsw := hsu
    refine z_perm (ws := (fmL Tx (g, G.2) M1 ++ ((o, .inl (G.2.2.1 1, 1, .inr (.inl f))) :: fmL Tm (g2, G.2) M2))) (wpermW _ _ _) ?_
    refine la_ref C (pc := 1870) (As := []) (st := []) cvL_277 (by decide +kernel) rfl rfl (Nat.le_of_ble_eq_true rfl) (by decide) hcw hsw (fm_dec dtLa_38 23 rfl) rfl h2 (fun r2 M3 h3 => ?_)
    obtain ⟨⟨v2, rfl⟩, hI3⟩ := h3
    refine z_then1 ?_
    refine z_pop C.1 (pc := 1873) rfl (fm_dec dtLa_38 24 rfl) ?_
    refine z_goto C.1 (pc := 1874) 1940 (by decide) (fm_dec dtLa_38 25 rfl) ?_
    refine z_more (Nat.le_succ _) (Nat.le_add_right _ 6) ?_
    exact z_perm (wpermB _ _ _) (la_fgt (kk M1 f M3 hI3))
  · cases h8
  · cases h8
set_option maxRecDepth 20000 in
theorem la_c44 {p : Program} {l : Launch} {e : Env} {s : State} {m : MethodId} {below : List Frame} {meth : Method} {c : Code} {G : fmG} {b n : Nat} {xs : Nat → Int32} {I : fmM → fmM → Prop} (hS : laS_restore I) (C : laC p l s m meth c G b n xs) {g g2 : Nat → Nat} {M M2 : fmM} {f : Nat → Int64} {o t : Nat} {i : Int32} {cu su : Nat} (hi : laI n i t) (hcu : cu + 1 ≤ 601024) (hsu : su + 6 ≤ 7293034) (hcu1 : cu + 1 + 1 ≤ 601024) (hsu1 : su + 6 + 6 ≤ 7293034) (hI : I M M2) (kk : ∀ (M' : fmM) (f' : Nat → Int64) (M2' : fmM), I M' M2' → zEv p l e room_1 s m #[.ref b] below meth c G (fun q => s.heap.size ≤ q) 8 (lw_Z below #[.ref b] s) 1940 [some (.ref b), some (.ref (g 0)), some (.ref (g2 0)), some (.ref o), some (.int i), none, none, none] [] (fmL Tx (g, G.2) M' ++ ((o, .inl (G.2.2.1 1, 1, .inr (.inl f'))) :: fmL Tm (g2, G.2) M2')) (cu + 1) (su + 6)) : zEv p l e room_1 s m #[.ref b] below meth c G (fun q => s.heap.size ≤ q) 8 (lw_Z below #[.ref b] s) 1877 [some (.ref b), some (.ref (g 0)), some (.ref (g2 0)), some (.ref o), some (.int i), none, none, none] [] (fmL Tx (g, G.2) M ++ ((o, .inl (G.2.2.1 1, 1, .inr (.inl f))) :: fmL Tm (g2, G.2) M2)) cu su := by
  have h0 := hS M M2 hI
  refine z_aloadn C.1 (pc := 1877) (n := 1) 1 rfl rfl (fm_dec dtLa_38 26 rfl) ?_
  refine z_callX C.1 (T := Tx) (g := g) (M := M) (rest := (o, .inl (G.2.2.1 1, 1, .inr (.inl f))) :: fmL Tm (g2, G.2) M2) (k := 0) (ci := 10) (d' := 250) (pc := 1878) (As := []) (st := []) cvL_278 (by decide) rfl rfl rfl (by decide) (rm_fr (by decide)) (rm_lo (by decide) (by decide)) (rm_c hcu) (rm_s hsu) (fm_dec dtLa_38 27 rfl) ?_
  refine fmGood.imp (pvGood.fm C.2.2.2.2.2 (by decide) (by decide +kernel) h0) (fun o9 M1 h9 => ?_)
  obtain ⟨o', rfl, h8, h2⟩ := h9
  rcases h8 with ⟨v, rfl⟩ | ⟨h8, -⟩ | ⟨h8, -⟩
  · refine z_then1 ?_
    refine z_pop C.1 (pc := 1881) rfl (fm_dec dtLa_38 28 rfl) ?_
    refine z_aloadn C.1 (pc := 1882) (n := 2) 2 rfl rfl (fm_dec dtLa_38 29 rfl) ?_
    have hcw := hcu
    have hsw := hsu
    refine z_perm (ws := (fmL Tx (g, G.2) M1 ++ ((o, .inl (G.2.2.1 1, 1, .inr (.inl f))) :: fmL Tm (g2, G.2) M2))) (wpermW _ _ _) ?_
    refine la_ref C (pc := 1883) (As := []) (st := []) cvL_281 (by decide +kernel) rfl rfl (Nat.le_of_ble_eq_true rfl) (by decide) hcw hsw (fm_dec dtLa_39 0 rfl) rfl h2 (fun r2 M3 h3 => ?_)
    obtain ⟨⟨v2, rfl⟩, hI3⟩ := h3
    refine z_then1 ?_
    refine z_pop C.1 (pc := 1886) rfl (fm_dec dtLa_39 1 rfl) ?_
    refine z_goto C.1 (pc := 1887) 1940 (by decide) (fm_dec dtLa_39 2 rfl) ?_
    refine z_more (Nat.le_succ _) (Nat.le_add_right _ 6) ?_
    exact z_perm (wpermB _ _ _) (la_fgt (kk M1 f M3 hI3))
  · cases h8
  · cases h8
set_option maxRecDepth 20000 in
theorem la_c45 {p : Program} {l : Launch} {e : Env} {s : State} {m : MethodId} {below : List Frame} {meth : Method} {c : Code} {G : fmG} {b n : Nat} {xs : Nat → Int32} {I : fmM → fmM → Prop} (hS : laS_status I) (C : laC p l s m meth c G b n xs) {g g2 : Nat → Nat} {M M2 : fmM} {f : Nat → Int64} {o t : Nat} {i : Int32} {cu su : Nat} (hi : laI n i t) (hcu : cu + 1 ≤ 601024) (hsu : su + 6 ≤ 7293034) (hcu1 : cu + 1 + 1 ≤ 601024) (hsu1 : su + 6 + 6 ≤ 7293034) (hI : I M M2) (kk : ∀ (M' : fmM) (f' : Nat → Int64) (M2' : fmM), I M' M2' → zEv p l e room_1 s m #[.ref b] below meth c G (fun q => s.heap.size ≤ q) 8 (lw_Z below #[.ref b] s) 1940 [some (.ref b), some (.ref (g 0)), some (.ref (g2 0)), some (.ref o), some (.int i), none, none, none] [] (fmL Tx (g, G.2) M' ++ ((o, .inl (G.2.2.1 1, 1, .inr (.inl f'))) :: fmL Tm (g2, G.2) M2')) (cu + 1) (su + 6)) : zEv p l e room_1 s m #[.ref b] below meth c G (fun q => s.heap.size ≤ q) 8 (lw_Z below #[.ref b] s) 1890 [some (.ref b), some (.ref (g 0)), some (.ref (g2 0)), some (.ref o), some (.int i), none, none, none] [] (fmL Tx (g, G.2) M ++ ((o, .inl (G.2.2.1 1, 1, .inr (.inl f))) :: fmL Tm (g2, G.2) M2)) cu su := by
  have h0 := hS M M2 (xs (t + 1)) hI
  refine z_aloadn C.1 (pc := 1890) (n := 1) 1 rfl rfl (fm_dec dtLa_39 3 rfl) ?_
  refine la_arg C (pc := 1891) (v := 1) (t + 1) rfl rfl (hi 1 (by decide)) (by decide) (fm_dec dtLa_39 4 rfl) (fm_dec dtLa_39 5 rfl) (fm_dec dtLa_39 6 rfl) (fm_dec dtLa_39 7 rfl) (fm_dec dtLa_39 8 rfl) ?_
  refine z_callX C.1 (T := Tx) (g := g) (M := M) (rest := (o, .inl (G.2.2.1 1, 1, .inr (.inl f))) :: fmL Tm (g2, G.2) M2) (k := 0) (ci := 10) (d' := 250) (pc := 1897) (As := [.int (xs (t + 1))]) (st := []) cvL_282 (by decide) rfl rfl rfl (by decide) (rm_fr (by decide)) (rm_lo (by decide) (by decide)) (rm_c hcu) (rm_s hsu) (fm_dec dtLa_39 9 rfl) ?_
  refine fmGood.imp (pvGood.fm C.2.2.2.2.2 (by decide) (by decide +kernel) h0) (fun o9 M1 h9 => ?_)
  obtain ⟨o', rfl, h8, h2⟩ := h9
  rcases h8 with ⟨v, rfl⟩ | ⟨h8, -⟩ | ⟨h8, -⟩
  · refine z_then1 ?_
    refine z_pop C.1 (pc := 1900) rfl (fm_dec dtLa_39 10 rfl) ?_
    refine z_aloadn C.1 (pc := 1901) (n := 2) 2 rfl rfl (fm_dec dtLa_39 11 rfl) ?_
    refine la_arg C (pc := 1902) (v := 1) (t + 1) rfl rfl (hi 1 (by decide)) (by decide) (fm_dec dtLa_39 12 rfl) (fm_dec dtLa_39 13 rfl) (fm_dec dtLa_39 14 rfl) (fm_dec dtLa_39 15 rfl) (fm_dec dtLa_39 16 rfl) ?_
    have hcw := hcu
    have hsw := hsu
    refine z_perm (ws := (fmL Tx (g, G.2) M1 ++ ((o, .inl (G.2.2.1 1, 1, .inr (.inl f))) :: fmL Tm (g2, G.2) M2))) (wpermW _ _ _) ?_
    refine la_ref C (pc := 1908) (As := [.int (xs (t + 1))]) (st := []) cvL_285 (by decide +kernel) rfl rfl (Nat.le_of_ble_eq_true rfl) (by decide) hcw hsw (fm_dec dtLa_39 17 rfl) rfl h2 (fun r2 M3 h3 => ?_)
    obtain ⟨⟨v2, rfl⟩, hI3⟩ := h3
    refine z_then1 ?_
    refine z_pop C.1 (pc := 1911) rfl (fm_dec dtLa_39 18 rfl) ?_
    refine z_goto C.1 (pc := 1912) 1940 (by decide) (fm_dec dtLa_39 19 rfl) ?_
    refine z_more (Nat.le_succ _) (Nat.le_add_right _ 6) ?_
    exact z_perm (wpermB _ _ _) (la_fgt (kk M1 f M3 hI3))
  · cases h8
  · cases h8
set_option maxRecDepth 20000 in
theorem la_c46 {p : Program} {l : Launch} {e : Env} {s : State} {m : MethodId} {below : List Frame} {meth : Method} {c : Code} {G : fmG} {b n : Nat} {xs : Nat → Int32} {I : fmM → fmM → Prop} (hS : laS_count I) (C : laC p l s m meth c G b n xs) {g g2 : Nat → Nat} {M M2 : fmM} {f : Nat → Int64} {o t : Nat} {i : Int32} {cu su : Nat} (hi : laI n i t) (hcu : cu + 1 ≤ 601024) (hsu : su + 6 ≤ 7293034) (hcu1 : cu + 1 + 1 ≤ 601024) (hsu1 : su + 6 + 6 ≤ 7293034) (hI : I M M2) (kk : ∀ (M' : fmM) (f' : Nat → Int64) (M2' : fmM), I M' M2' → zEv p l e room_1 s m #[.ref b] below meth c G (fun q => s.heap.size ≤ q) 8 (lw_Z below #[.ref b] s) 1940 [some (.ref b), some (.ref (g 0)), some (.ref (g2 0)), some (.ref o), some (.int i), none, none, none] [] (fmL Tx (g, G.2) M' ++ ((o, .inl (G.2.2.1 1, 1, .inr (.inl f'))) :: fmL Tm (g2, G.2) M2')) (cu + 1) (su + 6)) : zEv p l e room_1 s m #[.ref b] below meth c G (fun q => s.heap.size ≤ q) 8 (lw_Z below #[.ref b] s) 1915 [some (.ref b), some (.ref (g 0)), some (.ref (g2 0)), some (.ref o), some (.int i), none, none, none] [] (fmL Tx (g, G.2) M ++ ((o, .inl (G.2.2.1 1, 1, .inr (.inl f))) :: fmL Tm (g2, G.2) M2)) cu su := by
  have h0 := hS M M2 (xs (t + 1)) hI
  refine z_aloadn C.1 (pc := 1915) (n := 1) 1 rfl rfl (fm_dec dtLa_39 20 rfl) ?_
  refine la_arg C (pc := 1916) (v := 1) (t + 1) rfl rfl (hi 1 (by decide)) (by decide) (fm_dec dtLa_39 21 rfl) (fm_dec dtLa_39 22 rfl) (fm_dec dtLa_39 23 rfl) (fm_dec dtLa_39 24 rfl) (fm_dec dtLa_39 25 rfl) ?_
  refine z_callX C.1 (T := Tx) (g := g) (M := M) (rest := (o, .inl (G.2.2.1 1, 1, .inr (.inl f))) :: fmL Tm (g2, G.2) M2) (k := 0) (ci := 10) (d' := 250) (pc := 1922) (As := [.int (xs (t + 1))]) (st := []) cvL_286 (by decide) rfl rfl rfl (by decide) (rm_fr (by decide)) (rm_lo (by decide) (by decide)) (rm_c hcu) (rm_s hsu) (fm_dec dtLa_39 26 rfl) ?_
  refine fmGood.imp (pvGood.fm C.2.2.2.2.2 (by decide) (by decide +kernel) h0) (fun o9 M1 h9 => ?_)
  obtain ⟨o', rfl, h8, h2⟩ := h9
  rcases h8 with ⟨v, rfl⟩ | ⟨h8, -⟩ | ⟨h8, -⟩
  · refine z_then1 ?_
    refine z_pop C.1 (pc := 1925) rfl (fm_dec dtLa_39 27 rfl) ?_
    refine z_aloadn C.1 (pc := 1926) (n := 2) 2 rfl rfl (fm_dec dtLa_39 28 rfl) ?_
    refine la_arg C (pc := 1927) (v := 1) (t + 1) rfl rfl (hi 1 (by decide)) (by decide) (fm_dec dtLa_39 29 rfl) (fm_dec dtLa_40 0 rfl) (fm_dec dtLa_40 1 rfl) (fm_dec dtLa_40 2 rfl) (fm_dec dtLa_40 3 rfl) ?_
    have hcw := hcu
    have hsw := hsu
    refine z_perm (ws := (fmL Tx (g, G.2) M1 ++ ((o, .inl (G.2.2.1 1, 1, .inr (.inl f))) :: fmL Tm (g2, G.2) M2))) (wpermW _ _ _) ?_
    refine la_ref C (pc := 1933) (As := [.int (xs (t + 1))]) (st := []) cvL_289 (by decide +kernel) rfl rfl (Nat.le_of_ble_eq_true rfl) (by decide) hcw hsw (fm_dec dtLa_40 4 rfl) rfl h2 (fun r2 M3 h3 => ?_)
    obtain ⟨⟨v2, rfl⟩, hI3⟩ := h3
    refine z_then1 ?_
    refine z_pop C.1 (pc := 1936) rfl (fm_dec dtLa_40 5 rfl) ?_
    refine z_goto C.1 (pc := 1937) 1940 (by decide) (fm_dec dtLa_40 6 rfl) ?_
    refine z_more (Nat.le_succ _) (Nat.le_add_right _ 6) ?_
    exact z_perm (wpermB _ _ _) (la_fgt (kk M1 f M3 hI3))
  · cases h8
  · cases h8
end
-- P 16
section
-- THE START: what the tables and the premises give
def tmS (i : Nat) : Term := match i with
  | 0 => .string "LifeDrawer" 371
  | 1 => .string "LifeDrawer" 378
  | 2 => .string "LifeDrawer$Told" 91
  | 3 => .string "LifeDrawer$Law" 76
  | _ => .string "LifeDrawer$Work" 54
theorem tb_at {b : Nat} {s : State} (hts : ∀ w ∈ lw_tbl, w.before #[Value.ref b] s = true) (i : Nat) {w : Cond} (h : tables_1[i]? = some w) : w.before #[Value.ref b] s = true := hts w (List.mem_append_right _ (List.mem_of_getElem? h))
set_option maxRecDepth 100000 in
theorem nr_ex : ∀ i, i < 5 → Cond.exactly (tmS i) "java/lang/String" ∈ flatC narrow_1 := by decide +kernel
set_option maxRecDepth 100000 in
theorem nr_co : ∀ i, i < 5 → Cond.eq (.field (tmS i) "java/lang/String" "coder" "B") (.int 0) ∈ flatC narrow_1 := by decide +kernel
set_option maxRecDepth 100000 in
theorem nr_ar : ∀ i, i < 5 → Cond.arrayOf (.field (tmS i) "java/lang/String" "value" "[B") .byte ∈ flatC narrow_1 := by decide +kernel
set_option maxRecDepth 100000 in
theorem nr_le : ∀ i, i < 5 → Cond.eq (.length (.field (tmS i) "java/lang/String" "value" "[B")) (.int (Int32.ofNat (fmLen.getD i 0))) ∈ flatC narrow_1 := by decide +kernel
set_option maxRecDepth 100000 in
theorem nr_el : ∀ i, i < 5 → ∀ j, j < fmLen.getD i 0 → Cond.eq (.elem (.field (tmS i) "java/lang/String" "value" "[B") (.int (Int32.ofNat j))) (.int ((fmByt.getD i []).getD j 0)) ∈ flatC narrow_1 := by
  first
  | exact fun i hi j hj => List.mem_of_getElem? ((show ∀ i, i < 5 → ∀ j, j < fmLen.getD i 0 → (flatC narrow_1)[[216, 69, 94, 138, 182].getD i 0 + j]? = some (Cond.eq (.elem (.field (tmS i) "java/lang/String" "value" "[B") (.int (Int32.ofNat j))) (.int ((fmByt.getD i []).getD j 0))) from by decide +kernel) i hi j hj)
  | decide +kernel
set_option maxRecDepth 100000 in
theorem nr_ne : ∀ i, i < 5 → ∀ j, j < 5 → i ≠ j → Cond.not (Cond.eq (tmS i) (tmS j)) ∈ flatC narrow_1 ∨ Cond.not (Cond.eq (tmS j) (tmS i)) ∈ flatC narrow_1 := by decide +kernel
theorem nr_us : Cond.isRef (.static "java/lang/Throwable" "UNASSIGNED_STACK" "[Ljava/lang/StackTraceElement;") ∈ flatC narrow_1 := by decide +kernel
theorem nr_ss : Cond.isRef (.static "java/lang/Throwable" "SUPPRESSED_SENTINEL" "Ljava/util/List;") ∈ flatC narrow_1 := by decide +kernel
theorem nr_cs : Cond.eq (.static "java/lang/String" "COMPACT_STRINGS" "Z") (.int 1) ∈ flatC narrow_1 := by decide +kernel
theorem nr_si : Cond.isRef (.static "jdk/internal/util/Preconditions" "SIOOBE_FORMATTER" "Ljava/util/function/BiFunction;") ∈ flatC narrow_1 := by decide +kernel
theorem nr_nc : Cond.not (.castable "java/lang/IllegalArgumentException" "java/util/NoSuchElementException") ∈ flatC narrow_1 := by decide +kernel
noncomputable def st_c0 {s : State} {args : Array Value} (hw : ∀ w ∈ fmWs, w.before args s = true) : ClassId := Classical.choose (u_known (C := RX0) (T := TX0) (N := 3) (n := 3) hw fw_0 (hw _ (fm_c1 219 (by eq_refl) rfl)))
theorem st_cls {s : State} {args : Array Value} (hw : ∀ w ∈ fmWs, w.before args s = true) : ∀ k : Nat, ∃ q : ClassId × (Nat → Nat), ∀ r : vw_C, vwCl[k]? = some r → u_Kn s r.1 r.2.1 r.2.2 q.1 q.2 := by
  intro k
  match k with
  | 0 =>
    obtain ⟨c, i, h⟩ := u_known (C := RX0) (T := TX0) (N := 3) (n := 3) hw fw_0 (hw _ (fm_c1 219 (by eq_refl) rfl))
    exact ⟨(c, i), fun r hr => by cases hr; exact h⟩
  | 1 =>
    obtain ⟨c, i, h⟩ := u_known (C := RX1) (T := TX1) (N := 5) (n := 5) hw fw_1 (hw _ (fm_c1 145 (by eq_refl) rfl))
    exact ⟨(c, i), fun r hr => by cases hr; exact h⟩
  | 2 =>
    obtain ⟨c, i, h⟩ := u_known (C := RX2) (T := TX2) (N := 3) (n := 3) hw fw_2 (hw _ (fm_c1 171 (by eq_refl) rfl))
    exact ⟨(c, i), fun r hr => by cases hr; exact h⟩
  | 3 =>
    obtain ⟨c, i, h⟩ := u_known (C := RX3) (T := TX3) (N := 7) (n := 7) hw fw_3 (hw _ (fm_c1 238 (by eq_refl) rfl))
    exact ⟨(c, i), fun r hr => by cases hr; exact h⟩
  | 4 =>
    obtain ⟨c, i, h⟩ := u_known (C := RX4) (T := TX4) (N := 5) (n := 5) hw fw_4 (hw _ (fm_c2 26 (by eq_refl) rfl))
    exact ⟨(c, i), fun r hr => by cases hr; exact h⟩
  | 5 =>
    obtain ⟨c, i, h⟩ := u_known (C := RX5) (T := TX5) (N := 3) (n := 3) hw fw_5 (hw _ (fm_c2 99 (by eq_refl) rfl))
    exact ⟨(c, i), fun r hr => by cases hr; exact h⟩
  | 6 =>
    obtain ⟨c, i, h⟩ := u_known (C := RX6) (T := TX6) (N := 7) (n := 7) hw fw_6 (hw _ (fm_c2 32 (by eq_refl) rfl))
    exact ⟨(c, i), fun r hr => by cases hr; exact h⟩
  | 7 =>
    obtain ⟨c, i, h⟩ := u_known (C := RX7) (T := TX7) (N := 6) (n := 6) hw fw_7 (hw _ (fm_c1 35 (by eq_refl) rfl))
    exact ⟨(c, i), fun r hr => by cases hr; exact h⟩
  | 8 =>
    obtain ⟨c, i, h⟩ := u_known (C := RX8) (T := TX8) (N := 15) (n := 15) hw fw_8 (hw _ (fm_c1 66 (by eq_refl) rfl))
    exact ⟨(c, i), fun r hr => by cases hr; exact h⟩
  | 9 =>
    obtain ⟨c, i, h⟩ := u_known (C := RX9) (T := TX9) (N := 7) (n := 7) hw fw_9 (hw _ (fm_c1 188 (by eq_refl) rfl))
    exact ⟨(c, i), fun r hr => by cases hr; exact h⟩
  | 10 =>
    obtain ⟨c, i, h⟩ := u_known (C := RX10) (T := TX10) (N := 17) (n := 17) hw fw_10 (hw _ (fm_c1 27 (by eq_refl) rfl))
    exact ⟨(c, i), fun r hr => by cases hr; exact h⟩
  | 11 =>
    obtain ⟨c, i, h⟩ := u_known (C := RX11) (T := TX11) (N := 49) (n := 49) hw fw_11 (hw _ (fm_c6 90 (by eq_refl) rfl))
    exact ⟨(c, i), fun r hr => by cases hr; exact h⟩
  | k + 12 => exact ⟨(Classical.choice ⟨(st_c0 hw)⟩, fun _ => 0), fun r hr => by simp [vwCl] at hr⟩
theorem st_arr {s : State} {args : Array Value} (hw : ∀ w ∈ fmWs, w.before args s = true) {ty : FieldType} (h : Cond.arrayClass ty ∈ fmWs) (hr : ∀ cA, s.vm.findClass ("[" ++ ty.toString) = some cA → va_RA s cA ty) : ∃ cA : ClassId, ArrOfT s cA ty ∧ va_RA s cA ty := by
  obtain ⟨cA, k, comp, h1, h2, h3⟩ := Cond.arrayClass_spec (hw _ h)
  exact ⟨cA, fun n z => ⟨fun k h => (by cases h), k, h2, comp, h3⟩, hr cA h1⟩
theorem st_ao {s : State} {C : String} (h : va_AO C s) : ∃ cA : ClassId, ArrOfT s cA (.object C) ∧ va_RA s cA (.object C) := by
  obtain ⟨comp, cA, k, h1, -, h2, h3, h4⟩ := Cond.arrayOver_spec (va_AO.use (A := #[]) h)
  exact ⟨cA, fun n z => ⟨fun k h => (by cases h), k, h2, comp, h3⟩, k, comp, h2, h3, h1, h4⟩
theorem st_aoa {s : State} (h : va_AOA .int s) : ∃ cA : ClassId, ArrOfT s cA (.array .int) ∧ va_RA s cA (.array .int) := by
  obtain ⟨comp, cA, k, h1, h2, h3, h4⟩ := Cond.arrayOver_specA (va_AOA.use (A := #[]) h)
  exact ⟨cA, fun n z => ⟨fun k h => (by cases h), k, h2, comp, h3⟩, h4⟩
theorem st_env {b : Nat} {s : State} (hts : ∀ w ∈ lw_tbl, w.before #[Value.ref b] s = true) (hgv : (Jvm.Cond.and given_1 narrow_1).before #[Value.ref b] s = true) : ∃ G : fmG, lwEnv G (fun q => s.heap.size ≤ q) s := by
  have hw : ∀ w ∈ fmWs, w.before #[Value.ref b] s = true := fun w h => hts w (List.mem_filter.mp h).1
  have hn : ∀ w ∈ flatC narrow_1, w.before #[Value.ref b] s = true := fun w h => flat_of_before _ hgv w (by
    show w ∈ flatC given_1 ++ flatC narrow_1
    exact List.mem_append_right _ h)
  have hA0 : ∀ a : Nat, a < s.heap.size → ¬ (fun q : Nat => s.heap.size ≤ q) a := fun a h => Nat.not_le.mpr h
  have hsh : va_AO "LifeDrawer$Shelf" s := va_AO.of (tb_at hts 359 (by decide +kernel))
  have hst : va_AO "LifeDrawer$State" s := va_AO.of (tb_at hts 346 (by decide +kernel))
  have hai : va_AOA .int s := (tb_at hts 1296 (w := Cond.arrayOver (.array .int)) (by decide +kernel))
  obtain ⟨D, hD⟩ := Classical.axiomOfChoice (st_cls hw)
  obtain ⟨c0, r0⟩ := st_arr hw lw_ai (fun _ h => h)
  obtain ⟨c1, r1⟩ := st_arr hw lw_al (fun _ h => h)
  obtain ⟨c2, r2⟩ := st_arr hw lw_ab (fun _ h => h)
  obtain ⟨c3, r3⟩ := st_ao hsh
  obtain ⟨c4, r4⟩ := st_ao hst
  obtain ⟨c5, r5⟩ := st_aoa hai
  obtain ⟨adK, adV, hS, hev⟩ := vk_Sof (args := #[Value.ref b]) (s := s) (N := 5) (tm := tmS) (len := fmLen) (byt := fmByt) (A := fun q : Nat => s.heap.size ≤ q) (by decide) (fun i h => hn _ (nr_ex i h)) (fun i h => hn _ (nr_co i h)) (fun i h => hn _ (nr_ar i h)) (fun i h => hn _ (nr_le i h)) (fun i h j hj => hn _ (nr_el i h j hj)) (fun i j hi hj e => (nr_ne i hi j hj e).imp (hn _) (hn _)) hA0
  obtain ⟨v, hv1, hv2⟩ := Cond.isRef_spec (hn _ nr_si)
  have hsi : ∃ n : Nat, v = (match n with | 0 => Value.null | t + 1 => .ref t) := by
    cases v with
    | null => exact ⟨0, rfl⟩
    | ref t => exact ⟨t + 1, rfl⟩
    | _ => simp [Value.isRef] at hv2
  obtain ⟨n9, hn9⟩ := hsi
  have ek : ∀ i, i < 5 → (fun k => if k = 99 then n9 else adK k) i = adK i := fun i h => if_neg (by omega)
  refine ⟨(fun _ => 0, (fun k => (D k).1, fun k => (D k).2), fun t => if t = 0 then c0 else if t = 1 then c1 else if t = 2 then c2 else if t = 3 then c3 else if t = 4 then c4 else c5, fun k => if k = 99 then n9 else adK k, adV), ⟨⟨fun k r hr => hD k r hr, fun k q hq => ?_⟩, ?_, ?_, ⟨fmCa.of (tb_at hts 607 (by decide +kernel)), fmCa.of (tb_at hts 944 (by decide +kernel)), va_Nc.of (hn _ nr_nc), fmDe.of (tb_at hts 609 (by decide +kernel)), fmDe.of (tb_at hts 611 (by decide +kernel)), fmDe.of (tb_at hts 613 (by decide +kernel))⟩, ?_, ?_, ?_, ?_, ?_, ?_, ?_, ?_⟩, hsh, hst, hai⟩
  · match k, hq with
    | 0, hq => cases hq; exact r0
    | 1, hq => cases hq; exact r1
    | 2, hq => cases hq; exact r2
    | 3, hq => cases hq; exact r3
    | 4, hq => cases hq; exact r4
    | 5, hq => cases hq; exact r5
    | k + 6, hq => simp [fmTys] at hq
  · exact vx_Zqof (tb_at hts 632 (by decide +kernel)) (tb_at hts 15 (by decide +kernel)) (hn _ nr_us) hA0
  · exact vx_Zqof (tb_at hts 634 (by decide +kernel)) (tb_at hts 15 (by decide +kernel)) (hn _ nr_ss) hA0
  · refine ⟨fun i hi => ?_, fun i j hi hj e => hS.2 i j hi hj ?_⟩
    · have h := hS.1 i hi
      rw [← ek i hi] at h
      exact h
    · rw [← ek i hi, ← ek j hj]; exact e
  · exact vk_R.of (tb_at hts 951 (by decide +kernel)) (hev 0 (by decide))
  · exact vk_R.of (tb_at hts 645 (by decide +kernel)) (hev 1 (by decide))
  · exact vk_R.of (tb_at hts 692 (by decide +kernel)) (hev 2 (by decide))
  · exact vk_R.of (tb_at hts 831 (by decide +kernel)) (hev 3 (by decide))
  · exact vk_R.of (tb_at hts 859 (by decide +kernel)) (hev 4 (by decide))
  · exact va_Zof (tb_at hts 711 (by decide +kernel)) (tb_at hts 19 (by decide +kernel)) (va_eqt (hn _ nr_cs)) hA0
  · refine va_Zof (tb_at hts 727 (by decide +kernel)) (tb_at hts 21 (by decide +kernel)) (hv1.trans ?_) hA0
    rw [hn9]; rfl
end
-- P 17
section
section ZNew
variable {p : Program} {l : Launch} {e : Env} {R : Room} {s : State} {m : MethodId} {args : Array Value} {below : List Frame} {meth : Method} {c : Code} {own : String} {cc : ByteArray} {nL : Nat} {G : fmG} {A : Nat → Prop} {Z : State → Prop} {pc : Nat} {L : List (Option Value)} {st : List Value} {ws : va_W} {cu su : Nat}
theorem z_new (hF : zFix p s m args c own cc nL G A) {ci idx N : Nat} {r : vw_C} {fs : List Value} (hcl : fmCl ci r) (hN : r.2.2 = N) (hk : Cond.classLink own idx r.1 ∈ fmWs) (hin : Cond.instantiable r.1 r.2.2 ∈ fmWs) (hini : Cond.initialized r.1 ∈ fmWs) (hfs : ∀ j, j < N → defaultValue (fmTy ci j) = vp_V fs j) (hc : cu + 1 ≤ R.cells) (hs : su + N ≤ R.slots) (hdg : decode cc pc = .ok (.new idx, 3))
    (kk : ∀ q : Nat, zEv p l e R s m args below meth c G A nL Z (pc + 3) L (.ref q :: st) (ws ++ [(q, .inr (ci, fs))]) (cu + 1) (su + N)) : zEv p l e R s m args below meth c G A nL Z pc L st ws cu su := by
  subst hN
  intro H locs ls hP hS hL
  obtain ⟨hx, hb, hml, hown, hts, hE, hA⟩ := id hF
  refine va_new (C := r.1) (T := r.2.1) (N := r.2.2) hx hb hts hcl.2.1 (fmTy ci) hcl.2.2.1 hown (hts _ hk) (hts _ hin) (hts _ hini) hE.1.1 hP.1 hP.2 hS hA hcl.1 hfs hc hs hdg (fun q H1 hP1 hD1 hS1 => ?_)
  exact kk q H1 locs ls ⟨hP1, hD1⟩ hS1 hL
theorem z_init (hF : zFix p s m args c own cc nL G A) {d' mc' ms' idx n a : Nat} {y' : fmY} {As st0 : List Value} (hc : fmCb own idx y' n) (hm : Cond.instanceMethod y'.1 ∈ fmWs) (hni : y'.1.name = "<init>") (hret : y'.2.2.2 = none) (hn : As.length = n) (hst0 : st0 = As.reverse ++ .ref a :: st) (hcat : (st.map fun v => v.category).sum ≤ 8) (hfr : d' + 10 + 1 ≤ R.frames) (hlo : 8 + (y'.2.2.1 + 11) + (60 * d' + 200) ≤ R.locals) (h1 : cu + mc' ≤ R.cells) (h2 : su + ms' ≤ R.slots) (hdg : decode cc pc = .ok (.invokespecial idx, 3))
    (hg : lwGood l G d' mc' ms' y' (.ref a :: As) ws (fun ws' => zEv p l e R s m args below meth c G A nL Z (pc + 3) L st ws' (cu + mc') (su + ms'))) : zEv p l e R s m args below meth c G A nL Z pc L st0 ws cu su := by
  subst hst0
  intro H locs ls hP hS hL
  obtain ⟨hx, hb, hml, hown, hts, hE, hA⟩ := id hF
  have hcb : CallB R s args own idx y'.1 y'.2.1 y'.2.2.1 none (fmWy y') (lwRm d' mc' ms') mc' ms' n := by
    rw [← hret]
    refine callB_of (Ts := fmWs) n hts ?_ rfl rfl rfl (hts _ hc.2.1) (hts _ hc.1) hc.2.2.2.1 ⟨hfr, hlo⟩
    intro w hw
    rcases List.mem_cons.mp hw with e | h
    · rw [e]; exact ⟨hc.2.2.1, good_of_word (fmWs_good hc.2.2.1)⟩
    · exact ⟨h, good_of_word (fmWs_good h)⟩
  refine va_callv (va_runI (As := As) (rest := st) ⟨hx, hb, hml, hown, hts⟩ (hg A) ⟨hcb, hni, hts _ hm⟩ ⟨lwPc.blind, fun U hU hW => ⟨rfl, hE.warm hS hU hW, fun q h => hA q (Nat.le_trans hS.1 (by rw [← hU]; exact h)), by rw [hU]; exact hP⟩⟩ rfl hn hL.1 rfl (lv_room hcat) hdg ⟨h1, h2⟩) hS (fun _ _ h => h) (fun _ h => h) (fun ws' t H1 locs1 ht hvm hq hB hz hk hS1 => ?_)
  rw [ht] at hB
  exact hq H1 locs1 ls hB hS1 hL
theorem z_newJ (hF : zFix p s m args c own cc nL G A) {N : Nat} {n : Int32} (hn : ¬ n < 0) (hN : n.toNatClampNeg = N) (hb9 : N * 8 ≤ 536870912) (hc : cu + 1 ≤ R.cells) (hs : su + N ≤ R.slots) (hdg : decode cc pc = .ok (.newarray .long, 2))
    (kk : ∀ q : Nat, zEv p l e R s m args below meth c G A nL Z (pc + 2) L (.ref q :: st) (ws ++ [(q, .inl (G.2.2.1 1, N, .inr (.inl (fun _ => 0))))]) (cu + 1) (su + N)) : zEv p l e R s m args below meth c G A nL Z pc L (.int n :: st) ws cu su := by
  intro H locs ls hP hS hL
  obtain ⟨hx, hb, hml, hown, hts, hE, hA⟩ := id hF
  refine va_newa (atype := .long) (a0 := (N, .inr (.inl (fun _ => 0)))) hx hb (hts _ lw_al) rfl hE.1.1 hP.1 hP.2 hS hA (fun cA => by rw [vp_cell_l]; rfl) hn hN hb9 hc hs hdg (fun q cA H1 hK1 hP1 hD1 hS1 => ?_)
  have e1 : s.vm.findClass ("[" ++ FieldType.long.toString) = some cA := (hK1.2 6 (cA, .long) rfl).2
  have e2 : s.vm.findClass ("[" ++ FieldType.long.toString) = some (G.2.2.1 1) := (hE.1.1.2 1 _ rfl).2
  have e3 : cA = G.2.2.1 1 := Option.some.inj (e1.symm.trans e2)
  subst e3
  exact kk q H1 locs ls ⟨hP1, hD1⟩ hS1 hL
end ZNew
theorem and63 (x : Int32) : ∃ k, k < 64 ∧ x &&& 63 = nI k := by
  have h : vp_in (x &&& 63) 64 := by
    rw [vp_in_iff]
    have e : (x &&& 63).toBitVec.toNat = x.toBitVec.toNat &&& 63 := by
      rw [Int32.toBitVec_and, BitVec.toNat_and]; rfl
    have e2 : (x &&& 63).toBitVec.toNat ≤ 63 := by rw [e]; exact Nat.and_le_right
    have e3 : (x &&& 63).toInt = ((x &&& 63).toBitVec.toNat : Int) := by
      show (x &&& 63).toBitVec.toInt = _
      rw [BitVec.toInt_eq_toNat_of_lt (by omega)]
    rw [e3]
    omega
  obtain ⟨k, h1, h2⟩ := vp_in_of h (by decide)
  exact ⟨k, h1, h2⟩
def laAll (I : fmM → fmM → Prop) : Prop := laS_feed I ∧ laS_drawer I ∧ laS_law I ∧ laS_work I ∧ laS_page I ∧ laS_fault I ∧ laS_undo I ∧ laS_told I ∧ laS_life I ∧ laS_facts I ∧ laS_wrong I ∧ laS_would I ∧ laS_loss I ∧ laS_cost I ∧ laS_risk I ∧ laS_saves I ∧ laS_first I ∧ laS_lacking I ∧ laS_signed I ∧ laS_stale I ∧ laS_best I ∧ laS_bestIn I ∧ laS_often I ∧ laS_yearly I ∧ laS_brings I ∧ laS_says I ∧ laS_line I ∧ laS_room I ∧ laS_lines I ∧ laS_apart I ∧ laS_twins I ∧ laS_written I ∧ laS_whose I ∧ laS_ahead I ∧ laS_lives I ∧ laS_oldest I ∧ laS_chain I ∧ laS_due I ∧ laS_news I ∧ laS_expects I ∧ laS_worst I ∧ laS_years I ∧ laS_span I ∧ laS_image I ∧ laS_restore I ∧ laS_status I ∧ laS_count I
theorem sw_out : ∀ k, k < 64 → 47 ≤ k → fmTsw 40 1900 0 46 #[204, 277, 305, 333, 361, 389, 402, 415, 443, 483, 511, 539, 615, 643, 683, 711, 751, 764, 777, 790, 818, 858, 898, 938, 1002, 1092, 1168, 1232, 1272, 1324, 1364, 1377, 1405, 1418, 1458, 1510, 1523, 1563, 1603, 1631, 1683, 1696, 1748, 1824, 1837, 1850, 1875] (nI k) = 1940 := by decide
theorem la_at {n t : Nat} (hn : n ≤ 3584) (h : 7 * t + 7 ≤ n) : laI n (nI (7 * t)) (7 * t) := by
  intro k hk
  have e : nI (7 * t) + Int32.ofNat k = nI (7 * t + k) := by
    show Int32.ofNat (7 * t) + Int32.ofNat k = Int32.ofNat (7 * t + k)
    rw [Int32.ofNat_add]
  have e2 : (nI (7 * t + k)).toInt = ((7 * t + k : Nat) : Int) := nI_toInt (by omega)
  rw [e]
  exact ⟨vp_in_iff.mpr ⟨by omega, by omega⟩, i32_cl e2⟩
theorem la_7 (n : Nat) (h : n ≤ 3584) : (Int32.ofNat n - 7).toInt = (n : Int) - 7 := by
  have e1 : (Int32.ofNat n).toInt = (n : Int) := nI_toInt (by omega)
  have e7 : (7 : Int32).toInt = 7 := by decide
  rw [sc_sub (by omega) (by omega)]
  omega
theorem la_i7 (t : Nat) : nI (7 * t) + 7 = nI (7 * (t + 1)) := by
  show Int32.ofNat (7 * t) + Int32.ofNat 7 = Int32.ofNat (7 * (t + 1))
  rw [← Int32.ofNat_add, show 7 * t + 7 = 7 * (t + 1) by omega]
theorem la_inc {p : Program} {l : Launch} {e : Env} {s : State} {m : MethodId} {below : List Frame} {meth : Method} {c : Code} {G : fmG} {b n : Nat} {xs : Nat → Int32} (C : laC p l s m meth c G b n xs) {g g2 : Nat → Nat} {ws : va_W} {o t cu su : Nat} (k : zEv p l e room_1 s m #[.ref b] below meth c G (fun q => s.heap.size ≤ q) 8 (lw_Z below #[.ref b] s) 23 [some (.ref b), some (.ref (g 0)), some (.ref (g2 0)), some (.ref o), some (.int (nI (7 * (t + 1)))), none, none, none] [] ws cu su) : zEv p l e room_1 s m #[.ref b] below meth c G (fun q => s.heap.size ≤ q) 8 (lw_Z below #[.ref b] s) 1940 [some (.ref b), some (.ref (g 0)), some (.ref (g2 0)), some (.ref o), some (.int (nI (7 * t))), none, none, none] [] ws cu su := by
  refine z_iincc C.1 (pc := 1940) 4 7 (by decide) rfl (by decide) rfl (fm_dec dtLa_40 7 rfl) ?_
  dsimp only [List.set_cons_zero, List.set_cons_succ]
  rw [la_i7]
  exact z_goto C.1 (pc := 1943) 23 (by decide) (fm_dec dtLa_40 8 rfl) k
set_option maxRecDepth 20000 in
theorem la_loop {p : Program} {l : Launch} {e : Env} {s : State} {m : MethodId} {below : List Frame} {meth : Method} {c : Code} {G : fmG} {b n : Nat} {xs : Nat → Int32} {I : fmM → fmM → Prop} (hA : laAll I) (C : laC p l s m meth c G b n xs) (hn : n ≤ 3584) {g g2 : Nat → Nat} {o : Nat} : ∀ (q t : Nat) (M M2 : fmM) (f : Nat → Int64), t + q = 513 → I M M2 → zEv p l e room_1 s m #[.ref b] below meth c G (fun q => s.heap.size ≤ q) 8 (lw_Z below #[.ref b] s) 23 [some (.ref b), some (.ref (g 0)), some (.ref (g2 0)), some (.ref o), some (.int (nI (7 * t))), none, none, none] [] (fmL Tx (g, G.2) M ++ ((o, .inl (G.2.2.1 1, 1, .inr (.inl f))) :: fmL Tm (g2, G.2) M2)) (1000 + t) (30000 + 6 * t) := by
  obtain ⟨h0, h1, h2, h3, h4, h5, h6, h7, h8, h9, h10, h11, h12, h13, h14, h15, h16, h17, h18, h19, h20, h21, h22, h23, h24, h25, h26, h27, h28, h29, h30, h31, h32, h33, h34, h35, h36, h37, h38, h39, h40, h41, h42, h43, h44, h45, h46⟩ := hA
  intro q
  induction q with
  | zero =>
    intro t M M2 f ht hI
    have e7 := la_7 n hn
    have et : t ≤ 513 := by omega
    have ei : (nI (7 * t)).toInt = ((7 * t : Nat) : Int) := nI_toInt (by omega)
    refine z_iload C.1 (pc := 23) (i := 4) rfl (fm_dec dtLa_0 13 rfl) ?_
    refine z_aloadn C.1 (pc := 25) (n := 0) 0 rfl rfl (fm_dec dtLa_0 14 rfl) ?_
    refine la_len C (pc := 26) (fm_dec dtLa_0 15 rfl) ?_
    refine z_bipush C.1 (pc := 27) (v := 7) (by decide) (fm_dec dtLa_0 16 rfl) ?_
    refine z_isub C.1 (pc := 29) (fm_dec dtLa_0 17 rfl) ?_
    refine z_icmp_gt C.1 (pc := 30) 1946 (by decide) (fm_dec dtLa_0 18 rfl) (fun _ => ?_) (fun h => absurd (by rw [sc_lt]; omega) h)
    exact la_true C (by omega) (by omega)
  | succ q ih =>
    intro t M M2 f ht hI
    have e7 := la_7 n hn
    have et : t ≤ 513 := by omega
    have ei : (nI (7 * t)).toInt = ((7 * t : Nat) : Int) := nI_toInt (by omega)
    refine z_iload C.1 (pc := 23) (i := 4) rfl (fm_dec dtLa_0 13 rfl) ?_
    refine z_aloadn C.1 (pc := 25) (n := 0) 0 rfl rfl (fm_dec dtLa_0 14 rfl) ?_
    refine la_len C (pc := 26) (fm_dec dtLa_0 15 rfl) ?_
    refine z_bipush C.1 (pc := 27) (v := 7) (by decide) (fm_dec dtLa_0 16 rfl) ?_
    refine z_isub C.1 (pc := 29) (fm_dec dtLa_0 17 rfl) ?_
    refine z_icmp_gt C.1 (pc := 30) 1946 (by decide) (fm_dec dtLa_0 18 rfl) (fun _ => ?_) (fun h => ?_)
    · exact la_true C (by omega) (by omega)
    · rw [sc_lt] at h
      have h77 : 7 * t + 7 ≤ n := by omega
      have hi := la_at hn h77
      have hk : ∀ (M' : fmM) (f' : Nat → Int64) (M2' : fmM), I M' M2' → zEv p l e room_1 s m #[.ref b] below meth c G (fun q => s.heap.size ≤ q) 8 (lw_Z below #[.ref b] s) 1940 [some (.ref b), some (.ref (g 0)), some (.ref (g2 0)), some (.ref o), some (.int (nI (7 * t))), none, none, none] [] (fmL Tx (g, G.2) M' ++ ((o, .inl (G.2.2.1 1, 1, .inr (.inl f'))) :: fmL Tm (g2, G.2) M2')) (1000 + t + 1) (30000 + 6 * t + 6) := fun M' f' M2' h9 => la_inc C (ih (t + 1) M' M2' f' (by omega) h9)
      refine z_aloadn C.1 (pc := 33) (n := 0) 0 rfl rfl (fm_dec dtLa_0 19 rfl) ?_
      refine z_iload C.1 (pc := 34) (i := 4) rfl (fm_dec dtLa_0 20 rfl) ?_
      refine la_sld C (pc := 36) (vp_in_iff.mpr ⟨by omega, by omega⟩) (fm_dec dtLa_0 21 rfl) ?_
      refine z_bipush C.1 (pc := 37) (v := 63) (by decide) (fm_dec dtLa_0 22 rfl) ?_
      refine z_iand C.1 (pc := 39) (fm_dec dtLa_0 23 rfl) ?_
      obtain ⟨k, hk64, e⟩ := and63 (xs (nI (7 * t)).toNatClampNeg)
      rw [e]
      rcases (show k = 0 ∨ k = 1 ∨ k = 2 ∨ k = 3 ∨ k = 4 ∨ k = 5 ∨ k = 6 ∨ k = 7 ∨ k = 8 ∨ k = 9 ∨ k = 10 ∨ k = 11 ∨ k = 12 ∨ k = 13 ∨ k = 14 ∨ k = 15 ∨ k = 16 ∨ k = 17 ∨ k = 18 ∨ k = 19 ∨ k = 20 ∨ k = 21 ∨ k = 22 ∨ k = 23 ∨ k = 24 ∨ k = 25 ∨ k = 26 ∨ k = 27 ∨ k = 28 ∨ k = 29 ∨ k = 30 ∨ k = 31 ∨ k = 32 ∨ k = 33 ∨ k = 34 ∨ k = 35 ∨ k = 36 ∨ k = 37 ∨ k = 38 ∨ k = 39 ∨ k = 40 ∨ k = 41 ∨ k = 42 ∨ k = 43 ∨ k = 44 ∨ k = 45 ∨ k = 46 ∨ 47 ≤ k by omega) with rfl | rfl | rfl | rfl | rfl | rfl | rfl | rfl | rfl | rfl | rfl | rfl | rfl | rfl | rfl | rfl | rfl | rfl | rfl | rfl | rfl | rfl | rfl | rfl | rfl | rfl | rfl | rfl | rfl | rfl | rfl | rfl | rfl | rfl | rfl | rfl | rfl | rfl | rfl | rfl | rfl | rfl | rfl | rfl | rfl | rfl | rfl | h9
      · exact z_table C.1 (pc := 40) 244 (by decide) (by decide) (fm_dec dtLa_0 24 rfl) (la_c0 h0 C hi (by omega) (by omega) (by omega) (by omega) hI hk)
      · exact z_table C.1 (pc := 40) 317 (by decide) (by decide) (fm_dec dtLa_0 24 rfl) (la_c1 h1 C hi (by omega) (by omega) (by omega) (by omega) hI hk)
      · exact z_table C.1 (pc := 40) 345 (by decide) (by decide) (fm_dec dtLa_0 24 rfl) (la_c2 h2 C hi (by omega) (by omega) (by omega) (by omega) hI hk)
      · exact z_table C.1 (pc := 40) 373 (by decide) (by decide) (fm_dec dtLa_0 24 rfl) (la_c3 h3 C hi (by omega) (by omega) (by omega) (by omega) hI hk)
      · exact z_table C.1 (pc := 40) 401 (by decide) (by decide) (fm_dec dtLa_0 24 rfl) (la_c4 h4 C hi (by omega) (by omega) (by omega) (by omega) hI hk)
      · exact z_table C.1 (pc := 40) 429 (by decide) (by decide) (fm_dec dtLa_0 24 rfl) (la_c5 h5 C hi (by omega) (by omega) (by omega) (by omega) hI hk)
      · exact z_table C.1 (pc := 40) 442 (by decide) (by decide) (fm_dec dtLa_0 24 rfl) (la_c6 h6 C hi (by omega) (by omega) (by omega) (by omega) hI hk)
      · exact z_table C.1 (pc := 40) 455 (by decide) (by decide) (fm_dec dtLa_0 24 rfl) (la_c7 h7 C hi (by omega) (by omega) (by omega) (by omega) hI hk)
      · exact z_table C.1 (pc := 40) 483 (by decide) (by decide) (fm_dec dtLa_0 24 rfl) (la_c8 h8 C hi (by omega) (by omega) (by omega) (by omega) hI hk)
      · exact z_table C.1 (pc := 40) 523 (by decide) (by decide) (fm_dec dtLa_0 24 rfl) (la_c9 h9 C hi (by omega) (by omega) (by omega) (by omega) hI hk)
      · exact z_table C.1 (pc := 40) 551 (by decide) (by decide) (fm_dec dtLa_0 24 rfl) (la_c10 h10 C hi (by omega) (by omega) (by omega) (by omega) hI hk)
      · exact z_table C.1 (pc := 40) 579 (by decide) (by decide) (fm_dec dtLa_0 24 rfl) (la_c11 h11 C hi (by omega) (by omega) (by omega) (by omega) hI hk)
      · exact z_table C.1 (pc := 40) 655 (by decide) (by decide) (fm_dec dtLa_0 24 rfl) (la_c12 h12 C hi (by omega) (by omega) (by omega) (by omega) hI hk)
      · exact z_table C.1 (pc := 40) 683 (by decide) (by decide) (fm_dec dtLa_0 24 rfl) (la_c13 h13 C hi (by omega) (by omega) (by omega) (by omega) hI hk)
      · exact z_table C.1 (pc := 40) 723 (by decide) (by decide) (fm_dec dtLa_0 24 rfl) (la_c14 h14 C hi (by omega) (by omega) (by omega) (by omega) hI hk)
      · exact z_table C.1 (pc := 40) 751 (by decide) (by decide) (fm_dec dtLa_0 24 rfl) (la_c15 h15 C hi (by omega) (by omega) (by omega) (by omega) hI hk)
      · exact z_table C.1 (pc := 40) 791 (by decide) (by decide) (fm_dec dtLa_0 24 rfl) (la_c16 h16 C hi (by omega) (by omega) (by omega) (by omega) hI hk)
      · exact z_table C.1 (pc := 40) 804 (by decide) (by decide) (fm_dec dtLa_0 24 rfl) (la_c17 h17 C hi (by omega) (by omega) (by omega) (by omega) hI hk)
      · exact z_table C.1 (pc := 40) 817 (by decide) (by decide) (fm_dec dtLa_0 24 rfl) (la_c18 h18 C hi (by omega) (by omega) (by omega) (by omega) hI hk)
      · exact z_table C.1 (pc := 40) 830 (by decide) (by decide) (fm_dec dtLa_0 24 rfl) (la_c19 h19 C hi (by omega) (by omega) (by omega) (by omega) hI hk)
      · exact z_table C.1 (pc := 40) 858 (by decide) (by decide) (fm_dec dtLa_0 24 rfl) (la_c20 h20 C hi (by omega) (by omega) (by omega) (by omega) hI hk)
      · exact z_table C.1 (pc := 40) 898 (by decide) (by decide) (fm_dec dtLa_0 24 rfl) (la_c21 h21 C hi (by omega) (by omega) (by omega) (by omega) hI hk)
      · exact z_table C.1 (pc := 40) 938 (by decide) (by decide) (fm_dec dtLa_0 24 rfl) (la_c22 h22 C hi (by omega) (by omega) (by omega) (by omega) hI hk)
      · exact z_table C.1 (pc := 40) 978 (by decide) (by decide) (fm_dec dtLa_0 24 rfl) (la_c23 h23 C hi (by omega) (by omega) (by omega) (by omega) hI hk)
      · exact z_table C.1 (pc := 40) 1042 (by decide) (by decide) (fm_dec dtLa_0 24 rfl) (la_c24 h24 C hi (by omega) (by omega) (by omega) (by omega) hI hk)
      · exact z_table C.1 (pc := 40) 1132 (by decide) (by decide) (fm_dec dtLa_0 24 rfl) (la_c25 h25 C hi (by omega) (by omega) (by omega) (by omega) hI hk)
      · exact z_table C.1 (pc := 40) 1208 (by decide) (by decide) (fm_dec dtLa_0 24 rfl) (la_c26 h26 C hi (by omega) (by omega) (by omega) (by omega) hI hk)
      · exact z_table C.1 (pc := 40) 1272 (by decide) (by decide) (fm_dec dtLa_0 24 rfl) (la_c27 h27 C hi (by omega) (by omega) (by omega) (by omega) hI hk)
      · exact z_table C.1 (pc := 40) 1312 (by decide) (by decide) (fm_dec dtLa_0 24 rfl) (la_c28 h28 C hi (by omega) (by omega) (by omega) (by omega) hI hk)
      · exact z_table C.1 (pc := 40) 1364 (by decide) (by decide) (fm_dec dtLa_0 24 rfl) (la_c29 h29 C hi (by omega) (by omega) (by omega) (by omega) hI hk)
      · exact z_table C.1 (pc := 40) 1404 (by decide) (by decide) (fm_dec dtLa_0 24 rfl) (la_c30 h30 C hi (by omega) (by omega) (by omega) (by omega) hI hk)
      · exact z_table C.1 (pc := 40) 1417 (by decide) (by decide) (fm_dec dtLa_0 24 rfl) (la_c31 h31 C hi (by omega) (by omega) (by omega) (by omega) hI hk)
      · exact z_table C.1 (pc := 40) 1445 (by decide) (by decide) (fm_dec dtLa_0 24 rfl) (la_c32 h32 C hi (by omega) (by omega) (by omega) (by omega) hI hk)
      · exact z_table C.1 (pc := 40) 1458 (by decide) (by decide) (fm_dec dtLa_0 24 rfl) (la_c33 h33 C hi (by omega) (by omega) (by omega) (by omega) hI hk)
      · exact z_table C.1 (pc := 40) 1498 (by decide) (by decide) (fm_dec dtLa_0 24 rfl) (la_c34 h34 C hi (by omega) (by omega) (by omega) (by omega) hI hk)
      · exact z_table C.1 (pc := 40) 1550 (by decide) (by decide) (fm_dec dtLa_0 24 rfl) (la_c35 h35 C hi (by omega) (by omega) (by omega) (by omega) hI hk)
      · exact z_table C.1 (pc := 40) 1563 (by decide) (by decide) (fm_dec dtLa_0 24 rfl) (la_c36 h36 C hi (by omega) (by omega) (by omega) (by omega) hI hk)
      · exact z_table C.1 (pc := 40) 1603 (by decide) (by decide) (fm_dec dtLa_0 24 rfl) (la_c37 h37 C hi (by omega) (by omega) (by omega) (by omega) hI hk)
      · exact z_table C.1 (pc := 40) 1643 (by decide) (by decide) (fm_dec dtLa_0 24 rfl) (la_c38 h38 C hi (by omega) (by omega) (by omega) (by omega) hI hk)
      · exact z_table C.1 (pc := 40) 1671 (by decide) (by decide) (fm_dec dtLa_0 24 rfl) (la_c39 h39 C hi (by omega) (by omega) (by omega) (by omega) hI hk)
      · exact z_table C.1 (pc := 40) 1723 (by decide) (by decide) (fm_dec dtLa_0 24 rfl) (la_c40 h40 C hi (by omega) (by omega) (by omega) (by omega) hI hk)
      · exact z_table C.1 (pc := 40) 1736 (by decide) (by decide) (fm_dec dtLa_0 24 rfl) (la_c41 h41 C hi (by omega) (by omega) (by omega) (by omega) hI hk)
      · exact z_table C.1 (pc := 40) 1788 (by decide) (by decide) (fm_dec dtLa_0 24 rfl) (la_c42 h42 C hi (by omega) (by omega) (by omega) (by omega) hI hk)
      · exact z_table C.1 (pc := 40) 1864 (by decide) (by decide) (fm_dec dtLa_0 24 rfl) (la_c43 h43 C hi (by omega) (by omega) (by omega) (by omega) hI hk)
      · exact z_table C.1 (pc := 40) 1877 (by decide) (by decide) (fm_dec dtLa_0 24 rfl) (la_c44 h44 C hi (by omega) (by omega) (by omega) (by omega) hI hk)
      · exact z_table C.1 (pc := 40) 1890 (by decide) (by decide) (fm_dec dtLa_0 24 rfl) (la_c45 h45 C hi (by omega) (by omega) (by omega) (by omega) hI hk)
      · exact z_table C.1 (pc := 40) 1915 (by decide) (by decide) (fm_dec dtLa_0 24 rfl) (la_c46 h46 C hi (by omega) (by omega) (by omega) (by omega) hI hk)
      · refine z_table C.1 (pc := 40) 1940 (by decide) (sw_out k hk64 h9) (fm_dec dtLa_0 24 rfl) ?_
        exact z_more (Nat.le_succ _) (Nat.le_add_right _ 6) (hk M f M2 hI)
end
