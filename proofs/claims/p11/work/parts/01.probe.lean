theorem pr_static : launch0.says (.declares ⟨"VisibleHeap$Thing", "isLive", "(LVisibleHeap$Value;)Z"⟩) = false := by decide +kernel
theorem pr_in : Cond.declares ⟨"VisibleHeap$Thing", "isLive", "(LVisibleHeap$Value;)Z"⟩ ∈ tables_1 := by decide +kernel
theorem pr_rest : ((tables_1.filter (fun c => match c with | .declares x => !(x.name == "isLive") | _ => true)).flatMap Cond.shapes).all (fun y => launch0.says y) = true := by decide +kernel
