/-! the exceptions that the class throws -/
theorem x_arg1 : ∀ w ∈ (vx_atS RX10 333 "java/lang/IllegalArgumentException" q_exn).filter goodWord, w ∈ lw_tbl := by decide +kernel
theorem x_arg : q_ex RX10 329 333 "java/lang/IllegalArgumentException" := ⟨by decide, q_mw (by decide +kernel) (by decide +kernel), q_mw (by decide +kernel) (by decide +kernel), fun w hw => List.mem_filter.mpr ⟨x_arg1 w hw, (List.mem_filter.mp hw).2⟩, by decide +kernel, by decide +kernel⟩
theorem x_sta1 : ∀ w ∈ (vx_atS RX10 96 "java/lang/IllegalStateException" q_exn).filter goodWord, w ∈ lw_tbl := by decide +kernel
theorem x_sta : q_ex RX10 92 96 "java/lang/IllegalStateException" := ⟨by decide, q_mw (by decide +kernel) (by decide +kernel), q_mw (by decide +kernel) (by decide +kernel), fun w hw => List.mem_filter.mpr ⟨x_sta1 w hw, (List.mem_filter.mp hw).2⟩, by decide +kernel, by decide +kernel⟩
theorem x_idx1 : ∀ w ∈ (vx_atS RX10 290 "java/lang/IndexOutOfBoundsException" q_exn).filter goodWord, w ∈ lw_tbl := by decide +kernel
theorem x_idx : q_ex RX10 286 290 "java/lang/IndexOutOfBoundsException" := ⟨by decide, q_mw (by decide +kernel) (by decide +kernel), q_mw (by decide +kernel) (by decide +kernel), fun w hw => List.mem_filter.mpr ⟨x_idx1 w hw, (List.mem_filter.mp hw).2⟩, by decide +kernel, by decide +kernel⟩
theorem y_full : ∃ tx, (RX10, 94, tx) ∈ q_strs := ⟨_, by unfold q_strs; repeat (first | exact List.mem_cons_self | apply List.mem_cons_of_mem)⟩
theorem y_nodr : ∃ tx, (RX10, 103, tx) ∈ q_strs := ⟨_, by unfold q_strs; repeat (first | exact List.mem_cons_self | apply List.mem_cons_of_mem)⟩
theorem y_notc : ∃ tx, (RX10, 124, tx) ∈ q_strs := ⟨_, by unfold q_strs; repeat (first | exact List.mem_cons_self | apply List.mem_cons_of_mem)⟩
theorem y_nott : ∃ tx, (RX10, 126, tx) ∈ q_strs := ⟨_, by unfold q_strs; repeat (first | exact List.mem_cons_self | apply List.mem_cons_of_mem)⟩
theorem y_cant : ∃ tx, (RX10, 202, tx) ∈ q_strs := ⟨_, by unfold q_strs; repeat (first | exact List.mem_cons_self | apply List.mem_cons_of_mem)⟩
theorem y_hasl : ∃ tx, (RX10, 218, tx) ∈ q_strs := ⟨_, by unfold q_strs; repeat (first | exact List.mem_cons_self | apply List.mem_cons_of_mem)⟩
theorem y_nobo : ∃ tx, (RX10, 227, tx) ∈ q_strs := ⟨_, by unfold q_strs; repeat (first | exact List.mem_cons_self | apply List.mem_cons_of_mem)⟩
theorem y_tenh : ∃ tx, (RX10, 236, tx) ∈ q_strs := ⟨_, by unfold q_strs; repeat (first | exact List.mem_cons_self | apply List.mem_cons_of_mem)⟩
theorem y_ends : ∃ tx, (RX10, 273, tx) ∈ q_strs := ⟨_, by unfold q_strs; repeat (first | exact List.mem_cons_self | apply List.mem_cons_of_mem)⟩
theorem y_plac : ∃ tx, (RX10, 288, tx) ∈ q_strs := ⟨_, by unfold q_strs; repeat (first | exact List.mem_cons_self | apply List.mem_cons_of_mem)⟩
theorem y_such : ∃ tx, (RX10, 327, tx) ∈ q_strs := ⟨_, by unfold q_strs; repeat (first | exact List.mem_cons_self | apply List.mem_cons_of_mem)⟩
theorem y_rang : ∃ tx, (RX10, 331, tx) ∈ q_strs := ⟨_, by unfold q_strs; repeat (first | exact List.mem_cons_self | apply List.mem_cons_of_mem)⟩
theorem y_more : ∃ tx, (RX10, 334, tx) ∈ q_strs := ⟨_, by unfold q_strs; repeat (first | exact List.mem_cons_self | apply List.mem_cons_of_mem)⟩
