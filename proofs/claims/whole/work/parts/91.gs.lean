theorem gs_str {args : Array Value} {s : State} {A : Nat → Prop} (hn : (Jvm.Cond.and given_1 narrow_1).before args s = true) (hA : ∀ a : Nat, a < s.heap.size → ¬ A a) : ∃ adK adV : Nat → Nat, vk_S 1 [91] [scB] adK adV A s s.heap ∧ ∀ i : Nat, i < 1 → (Term.string "FoamArms$Tokens" 30).eval args s none [] s = some (.ref (adK i)) := by
  have hs := flat_of_before _ hn
  refine vk_Sof (tm := fun _ => Term.string "FoamArms$Tokens" 30) (fun i hi => ?_) (fun i hi => hs _ (by decide +kernel)) (fun i hi => hs _ (by decide +kernel)) (fun i hi => hs _ (by decide +kernel)) (fun i hi => ?_) (fun i hi j hj => ?_) (fun i j hi hj hij => absurd (show i = j by omega) hij) hA
  · have e : i = 0 := by omega
    subst e
    decide
  · have e : i = 0 := by omega
    subst e
    exact hs _ (by decide +kernel)
  · have e : i = 0 := by omega
    subst e
    have hj : j < 91 := hj
    refine hs _ ?_
    revert j
    decide +kernel
