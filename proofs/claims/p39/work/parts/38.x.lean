theorem hd_yX12_singer : yX12_singer.cls ≠ "java/lang/invoke/MethodHandle" ∧ yX12_singer.cls ≠ "java/lang/invoke/VarHandle" ∧ (parseMethodDescriptor yX12_singer.desc).map (fun d => d.parameters.length) = some 3 := by decide +kernel
theorem hd_yX13_singer : yX13_singer.cls ≠ "java/lang/invoke/MethodHandle" ∧ yX13_singer.cls ≠ "java/lang/invoke/VarHandle" ∧ (parseMethodDescriptor yX13_singer.desc).map (fun d => d.parameters.length) = some 3 := by decide +kernel
theorem hd_yX12_of : yX12_of.cls ≠ "java/lang/invoke/MethodHandle" ∧ yX12_of.cls ≠ "java/lang/invoke/VarHandle" ∧ (parseMethodDescriptor yX12_of.desc).map (fun d => d.parameters.length) = some 2 := by decide +kernel
theorem hd_yX13_of : yX13_of.cls ≠ "java/lang/invoke/MethodHandle" ∧ yX13_of.cls ≠ "java/lang/invoke/VarHandle" ∧ (parseMethodDescriptor yX13_of.desc).map (fun d => d.parameters.length) = some 2 := by decide +kernel
theorem hd_yX12_verse : yX12_verse.cls ≠ "java/lang/invoke/MethodHandle" ∧ yX12_verse.cls ≠ "java/lang/invoke/VarHandle" ∧ (parseMethodDescriptor yX12_verse.desc).map (fun d => d.parameters.length) = some 2 := by decide +kernel
theorem hd_yX13_verse : yX13_verse.cls ≠ "java/lang/invoke/MethodHandle" ∧ yX13_verse.cls ≠ "java/lang/invoke/VarHandle" ∧ (parseMethodDescriptor yX13_verse.desc).map (fun d => d.parameters.length) = some 2 := by decide +kernel
theorem hd_yX12_at : yX12_at.cls ≠ "java/lang/invoke/MethodHandle" ∧ yX12_at.cls ≠ "java/lang/invoke/VarHandle" ∧ (parseMethodDescriptor yX12_at.desc).map (fun d => d.parameters.length) = some 2 := by decide +kernel
theorem hd_yX13_at : yX13_at.cls ≠ "java/lang/invoke/MethodHandle" ∧ yX13_at.cls ≠ "java/lang/invoke/VarHandle" ∧ (parseMethodDescriptor yX13_at.desc).map (fun d => d.parameters.length) = some 2 := by decide +kernel
theorem hd_yX12_piece : yX12_piece.cls ≠ "java/lang/invoke/MethodHandle" ∧ yX12_piece.cls ≠ "java/lang/invoke/VarHandle" ∧ (parseMethodDescriptor yX12_piece.desc).map (fun d => d.parameters.length) = some 3 := by decide +kernel
theorem hd_yX13_piece : yX13_piece.cls ≠ "java/lang/invoke/MethodHandle" ∧ yX13_piece.cls ≠ "java/lang/invoke/VarHandle" ∧ (parseMethodDescriptor yX13_piece.desc).map (fun d => d.parameters.length) = some 3 := by decide +kernel
theorem hd_yX12_hears : yX12_hears.cls ≠ "java/lang/invoke/MethodHandle" ∧ yX12_hears.cls ≠ "java/lang/invoke/VarHandle" ∧ (parseMethodDescriptor yX12_hears.desc).map (fun d => d.parameters.length) = some 3 := by decide +kernel
theorem hd_yX13_hears : yX13_hears.cls ≠ "java/lang/invoke/MethodHandle" ∧ yX13_hears.cls ≠ "java/lang/invoke/VarHandle" ∧ (parseMethodDescriptor yX13_hears.desc).map (fun d => d.parameters.length) = some 3 := by decide +kernel
theorem hd_yX12_cows : yX12_cows.cls ≠ "java/lang/invoke/MethodHandle" ∧ yX12_cows.cls ≠ "java/lang/invoke/VarHandle" ∧ (parseMethodDescriptor yX12_cows.desc).map (fun d => d.parameters.length) = some 2 := by decide +kernel
theorem hd_yX13_cows : yX13_cows.cls ≠ "java/lang/invoke/MethodHandle" ∧ yX13_cows.cls ≠ "java/lang/invoke/VarHandle" ∧ (parseMethodDescriptor yX13_cows.desc).map (fun d => d.parameters.length) = some 2 := by decide +kernel
theorem hd_yX12_terms : yX12_terms.cls ≠ "java/lang/invoke/MethodHandle" ∧ yX12_terms.cls ≠ "java/lang/invoke/VarHandle" ∧ (parseMethodDescriptor yX12_terms.desc).map (fun d => d.parameters.length) = some 2 := by decide +kernel
theorem hd_yX13_terms : yX13_terms.cls ≠ "java/lang/invoke/MethodHandle" ∧ yX13_terms.cls ≠ "java/lang/invoke/VarHandle" ∧ (parseMethodDescriptor yX13_terms.desc).map (fun d => d.parameters.length) = some 2 := by decide +kernel
theorem hd_yX12_feed : yX12_feed.cls ≠ "java/lang/invoke/MethodHandle" ∧ yX12_feed.cls ≠ "java/lang/invoke/VarHandle" ∧ (parseMethodDescriptor yX12_feed.desc).map (fun d => d.parameters.length) = some 5 := by decide +kernel
theorem hd_yX13_feed : yX13_feed.cls ≠ "java/lang/invoke/MethodHandle" ∧ yX13_feed.cls ≠ "java/lang/invoke/VarHandle" ∧ (parseMethodDescriptor yX13_feed.desc).map (fun d => d.parameters.length) = some 5 := by decide +kernel
theorem hd_yX12_end : yX12_end.cls ≠ "java/lang/invoke/MethodHandle" ∧ yX12_end.cls ≠ "java/lang/invoke/VarHandle" ∧ (parseMethodDescriptor yX12_end.desc).map (fun d => d.parameters.length) = some 1 := by decide +kernel
theorem hd_yX13_end : yX13_end.cls ≠ "java/lang/invoke/MethodHandle" ∧ yX13_end.cls ≠ "java/lang/invoke/VarHandle" ∧ (parseMethodDescriptor yX13_end.desc).map (fun d => d.parameters.length) = some 1 := by decide +kernel
theorem hd_yX12_row : yX12_row.cls ≠ "java/lang/invoke/MethodHandle" ∧ yX12_row.cls ≠ "java/lang/invoke/VarHandle" ∧ (parseMethodDescriptor yX12_row.desc).map (fun d => d.parameters.length) = some 0 := by decide +kernel
theorem hd_yX13_row : yX13_row.cls ≠ "java/lang/invoke/MethodHandle" ∧ yX13_row.cls ≠ "java/lang/invoke/VarHandle" ∧ (parseMethodDescriptor yX13_row.desc).map (fun d => d.parameters.length) = some 0 := by decide +kernel
theorem hd_yX12_coughs : yX12_coughs.cls ≠ "java/lang/invoke/MethodHandle" ∧ yX12_coughs.cls ≠ "java/lang/invoke/VarHandle" ∧ (parseMethodDescriptor yX12_coughs.desc).map (fun d => d.parameters.length) = some 0 := by decide +kernel
theorem hd_yX13_coughs : yX13_coughs.cls ≠ "java/lang/invoke/MethodHandle" ∧ yX13_coughs.cls ≠ "java/lang/invoke/VarHandle" ∧ (parseMethodDescriptor yX13_coughs.desc).map (fun d => d.parameters.length) = some 0 := by decide +kernel
theorem hd_yX12_law : yX12_law.cls ≠ "java/lang/invoke/MethodHandle" ∧ yX12_law.cls ≠ "java/lang/invoke/VarHandle" ∧ (parseMethodDescriptor yX12_law.desc).map (fun d => d.parameters.length) = some 0 := by decide +kernel
theorem hd_yX13_law : yX13_law.cls ≠ "java/lang/invoke/MethodHandle" ∧ yX13_law.cls ≠ "java/lang/invoke/VarHandle" ∧ (parseMethodDescriptor yX13_law.desc).map (fun d => d.parameters.length) = some 0 := by decide +kernel
theorem hd_yX12_orders : yX12_orders.cls ≠ "java/lang/invoke/MethodHandle" ∧ yX12_orders.cls ≠ "java/lang/invoke/VarHandle" ∧ (parseMethodDescriptor yX12_orders.desc).map (fun d => d.parameters.length) = some 0 := by decide +kernel
theorem hd_yX13_orders : yX13_orders.cls ≠ "java/lang/invoke/MethodHandle" ∧ yX13_orders.cls ≠ "java/lang/invoke/VarHandle" ∧ (parseMethodDescriptor yX13_orders.desc).map (fun d => d.parameters.length) = some 0 := by decide +kernel
theorem hd_yX12_fault : yX12_fault.cls ≠ "java/lang/invoke/MethodHandle" ∧ yX12_fault.cls ≠ "java/lang/invoke/VarHandle" ∧ (parseMethodDescriptor yX12_fault.desc).map (fun d => d.parameters.length) = some 0 := by decide +kernel
theorem hd_yX13_fault : yX13_fault.cls ≠ "java/lang/invoke/MethodHandle" ∧ yX13_fault.cls ≠ "java/lang/invoke/VarHandle" ∧ (parseMethodDescriptor yX13_fault.desc).map (fun d => d.parameters.length) = some 0 := by decide +kernel
theorem hd_yX12_stopped : yX12_stopped.cls ≠ "java/lang/invoke/MethodHandle" ∧ yX12_stopped.cls ≠ "java/lang/invoke/VarHandle" ∧ (parseMethodDescriptor yX12_stopped.desc).map (fun d => d.parameters.length) = some 0 := by decide +kernel
theorem hd_yX13_stopped : yX13_stopped.cls ≠ "java/lang/invoke/MethodHandle" ∧ yX13_stopped.cls ≠ "java/lang/invoke/VarHandle" ∧ (parseMethodDescriptor yX13_stopped.desc).map (fun d => d.parameters.length) = some 0 := by decide +kernel
theorem hd_yX12_force : yX12_force.cls ≠ "java/lang/invoke/MethodHandle" ∧ yX12_force.cls ≠ "java/lang/invoke/VarHandle" ∧ (parseMethodDescriptor yX12_force.desc).map (fun d => d.parameters.length) = some 1 := by decide +kernel
theorem hd_yX13_force : yX13_force.cls ≠ "java/lang/invoke/MethodHandle" ∧ yX13_force.cls ≠ "java/lang/invoke/VarHandle" ∧ (parseMethodDescriptor yX13_force.desc).map (fun d => d.parameters.length) = some 1 := by decide +kernel
theorem hd_yX12_asks : yX12_asks.cls ≠ "java/lang/invoke/MethodHandle" ∧ yX12_asks.cls ≠ "java/lang/invoke/VarHandle" ∧ (parseMethodDescriptor yX12_asks.desc).map (fun d => d.parameters.length) = some 2 := by decide +kernel
theorem hd_yX13_asks : yX13_asks.cls ≠ "java/lang/invoke/MethodHandle" ∧ yX13_asks.cls ≠ "java/lang/invoke/VarHandle" ∧ (parseMethodDescriptor yX13_asks.desc).map (fun d => d.parameters.length) = some 2 := by decide +kernel
theorem hd_yX12_wakes : yX12_wakes.cls ≠ "java/lang/invoke/MethodHandle" ∧ yX12_wakes.cls ≠ "java/lang/invoke/VarHandle" ∧ (parseMethodDescriptor yX12_wakes.desc).map (fun d => d.parameters.length) = some 1 := by decide +kernel
theorem hd_yX13_wakes : yX13_wakes.cls ≠ "java/lang/invoke/MethodHandle" ∧ yX13_wakes.cls ≠ "java/lang/invoke/VarHandle" ∧ (parseMethodDescriptor yX13_wakes.desc).map (fun d => d.parameters.length) = some 1 := by decide +kernel
theorem hd_yX12_begin : yX12_begin.cls ≠ "java/lang/invoke/MethodHandle" ∧ yX12_begin.cls ≠ "java/lang/invoke/VarHandle" ∧ (parseMethodDescriptor yX12_begin.desc).map (fun d => d.parameters.length) = some 3 := by decide +kernel
theorem hd_yX13_begin : yX13_begin.cls ≠ "java/lang/invoke/MethodHandle" ∧ yX13_begin.cls ≠ "java/lang/invoke/VarHandle" ∧ (parseMethodDescriptor yX13_begin.desc).map (fun d => d.parameters.length) = some 3 := by decide +kernel
theorem hd_yX12_duel : yX12_duel.cls ≠ "java/lang/invoke/MethodHandle" ∧ yX12_duel.cls ≠ "java/lang/invoke/VarHandle" ∧ (parseMethodDescriptor yX12_duel.desc).map (fun d => d.parameters.length) = some 1 := by decide +kernel
theorem hd_yX13_duel : yX13_duel.cls ≠ "java/lang/invoke/MethodHandle" ∧ yX13_duel.cls ≠ "java/lang/invoke/VarHandle" ∧ (parseMethodDescriptor yX13_duel.desc).map (fun d => d.parameters.length) = some 1 := by decide +kernel
theorem hd_yX12_sing : yX12_sing.cls ≠ "java/lang/invoke/MethodHandle" ∧ yX12_sing.cls ≠ "java/lang/invoke/VarHandle" ∧ (parseMethodDescriptor yX12_sing.desc).map (fun d => d.parameters.length) = some 1 := by decide +kernel
theorem hd_yX13_sing : yX13_sing.cls ≠ "java/lang/invoke/MethodHandle" ∧ yX13_sing.cls ≠ "java/lang/invoke/VarHandle" ∧ (parseMethodDescriptor yX13_sing.desc).map (fun d => d.parameters.length) = some 1 := by decide +kernel
theorem hd_yX12_part : yX12_part.cls ≠ "java/lang/invoke/MethodHandle" ∧ yX12_part.cls ≠ "java/lang/invoke/VarHandle" ∧ (parseMethodDescriptor yX12_part.desc).map (fun d => d.parameters.length) = some 0 := by decide +kernel
theorem hd_yX13_part : yX13_part.cls ≠ "java/lang/invoke/MethodHandle" ∧ yX13_part.cls ≠ "java/lang/invoke/VarHandle" ∧ (parseMethodDescriptor yX13_part.desc).map (fun d => d.parameters.length) = some 0 := by decide +kernel
theorem hd_yX12_dawn : yX12_dawn.cls ≠ "java/lang/invoke/MethodHandle" ∧ yX12_dawn.cls ≠ "java/lang/invoke/VarHandle" ∧ (parseMethodDescriptor yX12_dawn.desc).map (fun d => d.parameters.length) = some 0 := by decide +kernel
theorem hd_yX13_dawn : yX13_dawn.cls ≠ "java/lang/invoke/MethodHandle" ∧ yX13_dawn.cls ≠ "java/lang/invoke/VarHandle" ∧ (parseMethodDescriptor yX13_dawn.desc).map (fun d => d.parameters.length) = some 0 := by decide +kernel
theorem hd_yX12_undo : yX12_undo.cls ≠ "java/lang/invoke/MethodHandle" ∧ yX12_undo.cls ≠ "java/lang/invoke/VarHandle" ∧ (parseMethodDescriptor yX12_undo.desc).map (fun d => d.parameters.length) = some 0 := by decide +kernel
theorem hd_yX13_undo : yX13_undo.cls ≠ "java/lang/invoke/MethodHandle" ∧ yX13_undo.cls ≠ "java/lang/invoke/VarHandle" ∧ (parseMethodDescriptor yX13_undo.desc).map (fun d => d.parameters.length) = some 0 := by decide +kernel
theorem hd_yX12_game : yX12_game.cls ≠ "java/lang/invoke/MethodHandle" ∧ yX12_game.cls ≠ "java/lang/invoke/VarHandle" ∧ (parseMethodDescriptor yX12_game.desc).map (fun d => d.parameters.length) = some 2 := by decide +kernel
theorem hd_yX13_game : yX13_game.cls ≠ "java/lang/invoke/MethodHandle" ∧ yX13_game.cls ≠ "java/lang/invoke/VarHandle" ∧ (parseMethodDescriptor yX13_game.desc).map (fun d => d.parameters.length) = some 2 := by decide +kernel
theorem hd_yX12_saddle : yX12_saddle.cls ≠ "java/lang/invoke/MethodHandle" ∧ yX12_saddle.cls ≠ "java/lang/invoke/VarHandle" ∧ (parseMethodDescriptor yX12_saddle.desc).map (fun d => d.parameters.length) = some 3 := by decide +kernel
theorem hd_yX13_saddle : yX13_saddle.cls ≠ "java/lang/invoke/MethodHandle" ∧ yX13_saddle.cls ≠ "java/lang/invoke/VarHandle" ∧ (parseMethodDescriptor yX13_saddle.desc).map (fun d => d.parameters.length) = some 3 := by decide +kernel
theorem hd_yX12_rule : yX12_rule.cls ≠ "java/lang/invoke/MethodHandle" ∧ yX12_rule.cls ≠ "java/lang/invoke/VarHandle" ∧ (parseMethodDescriptor yX12_rule.desc).map (fun d => d.parameters.length) = some 2 := by decide +kernel
theorem hd_yX13_rule : yX13_rule.cls ≠ "java/lang/invoke/MethodHandle" ∧ yX13_rule.cls ≠ "java/lang/invoke/VarHandle" ∧ (parseMethodDescriptor yX13_rule.desc).map (fun d => d.parameters.length) = some 2 := by decide +kernel
theorem hd_yX12_champions : yX12_champions.cls ≠ "java/lang/invoke/MethodHandle" ∧ yX12_champions.cls ≠ "java/lang/invoke/VarHandle" ∧ (parseMethodDescriptor yX12_champions.desc).map (fun d => d.parameters.length) = some 1 := by decide +kernel
theorem hd_yX13_champions : yX13_champions.cls ≠ "java/lang/invoke/MethodHandle" ∧ yX13_champions.cls ≠ "java/lang/invoke/VarHandle" ∧ (parseMethodDescriptor yX13_champions.desc).map (fun d => d.parameters.length) = some 1 := by decide +kernel
theorem hd_yX12_made : yX12_made.cls ≠ "java/lang/invoke/MethodHandle" ∧ yX12_made.cls ≠ "java/lang/invoke/VarHandle" ∧ (parseMethodDescriptor yX12_made.desc).map (fun d => d.parameters.length) = some 2 := by decide +kernel
theorem hd_yX13_made : yX13_made.cls ≠ "java/lang/invoke/MethodHandle" ∧ yX13_made.cls ≠ "java/lang/invoke/VarHandle" ∧ (parseMethodDescriptor yX13_made.desc).map (fun d => d.parameters.length) = some 2 := by decide +kernel
theorem hd_yX12_sight : yX12_sight.cls ≠ "java/lang/invoke/MethodHandle" ∧ yX12_sight.cls ≠ "java/lang/invoke/VarHandle" ∧ (parseMethodDescriptor yX12_sight.desc).map (fun d => d.parameters.length) = some 5 := by decide +kernel
theorem hd_yX13_sight : yX13_sight.cls ≠ "java/lang/invoke/MethodHandle" ∧ yX13_sight.cls ≠ "java/lang/invoke/VarHandle" ∧ (parseMethodDescriptor yX13_sight.desc).map (fun d => d.parameters.length) = some 5 := by decide +kernel
theorem hd_yX12_forget : yX12_forget.cls ≠ "java/lang/invoke/MethodHandle" ∧ yX12_forget.cls ≠ "java/lang/invoke/VarHandle" ∧ (parseMethodDescriptor yX12_forget.desc).map (fun d => d.parameters.length) = some 0 := by decide +kernel
theorem hd_yX13_forget : yX13_forget.cls ≠ "java/lang/invoke/MethodHandle" ∧ yX13_forget.cls ≠ "java/lang/invoke/VarHandle" ∧ (parseMethodDescriptor yX13_forget.desc).map (fun d => d.parameters.length) = some 0 := by decide +kernel
theorem hd_yX12_fits : yX12_fits.cls ≠ "java/lang/invoke/MethodHandle" ∧ yX12_fits.cls ≠ "java/lang/invoke/VarHandle" ∧ (parseMethodDescriptor yX12_fits.desc).map (fun d => d.parameters.length) = some 2 := by decide +kernel
theorem hd_yX13_fits : yX13_fits.cls ≠ "java/lang/invoke/MethodHandle" ∧ yX13_fits.cls ≠ "java/lang/invoke/VarHandle" ∧ (parseMethodDescriptor yX13_fits.desc).map (fun d => d.parameters.length) = some 2 := by decide +kernel
theorem hd_yX12_catching : yX12_catching.cls ≠ "java/lang/invoke/MethodHandle" ∧ yX12_catching.cls ≠ "java/lang/invoke/VarHandle" ∧ (parseMethodDescriptor yX12_catching.desc).map (fun d => d.parameters.length) = some 2 := by decide +kernel
theorem hd_yX13_catching : yX13_catching.cls ≠ "java/lang/invoke/MethodHandle" ∧ yX13_catching.cls ≠ "java/lang/invoke/VarHandle" ∧ (parseMethodDescriptor yX13_catching.desc).map (fun d => d.parameters.length) = some 2 := by decide +kernel
theorem hd_yX12_keep : yX12_keep.cls ≠ "java/lang/invoke/MethodHandle" ∧ yX12_keep.cls ≠ "java/lang/invoke/VarHandle" ∧ (parseMethodDescriptor yX12_keep.desc).map (fun d => d.parameters.length) = some 3 := by decide +kernel
theorem hd_yX13_keep : yX13_keep.cls ≠ "java/lang/invoke/MethodHandle" ∧ yX13_keep.cls ≠ "java/lang/invoke/VarHandle" ∧ (parseMethodDescriptor yX13_keep.desc).map (fun d => d.parameters.length) = some 3 := by decide +kernel
theorem hd_yX12_decade : yX12_decade.cls ≠ "java/lang/invoke/MethodHandle" ∧ yX12_decade.cls ≠ "java/lang/invoke/VarHandle" ∧ (parseMethodDescriptor yX12_decade.desc).map (fun d => d.parameters.length) = some 2 := by decide +kernel
theorem hd_yX13_decade : yX13_decade.cls ≠ "java/lang/invoke/MethodHandle" ∧ yX13_decade.cls ≠ "java/lang/invoke/VarHandle" ∧ (parseMethodDescriptor yX13_decade.desc).map (fun d => d.parameters.length) = some 2 := by decide +kernel
theorem hd_yX12_drawn : yX12_drawn.cls ≠ "java/lang/invoke/MethodHandle" ∧ yX12_drawn.cls ≠ "java/lang/invoke/VarHandle" ∧ (parseMethodDescriptor yX12_drawn.desc).map (fun d => d.parameters.length) = some 2 := by decide +kernel
theorem hd_yX13_drawn : yX13_drawn.cls ≠ "java/lang/invoke/MethodHandle" ∧ yX13_drawn.cls ≠ "java/lang/invoke/VarHandle" ∧ (parseMethodDescriptor yX13_drawn.desc).map (fun d => d.parameters.length) = some 2 := by decide +kernel
theorem hd_yX12_image : yX12_image.cls ≠ "java/lang/invoke/MethodHandle" ∧ yX12_image.cls ≠ "java/lang/invoke/VarHandle" ∧ (parseMethodDescriptor yX12_image.desc).map (fun d => d.parameters.length) = some 1 := by decide +kernel
theorem hd_yX13_image : yX13_image.cls ≠ "java/lang/invoke/MethodHandle" ∧ yX13_image.cls ≠ "java/lang/invoke/VarHandle" ∧ (parseMethodDescriptor yX13_image.desc).map (fun d => d.parameters.length) = some 1 := by decide +kernel
theorem hd_yX12_back : yX12_back.cls ≠ "java/lang/invoke/MethodHandle" ∧ yX12_back.cls ≠ "java/lang/invoke/VarHandle" ∧ (parseMethodDescriptor yX12_back.desc).map (fun d => d.parameters.length) = some 1 := by decide +kernel
theorem hd_yX13_back : yX13_back.cls ≠ "java/lang/invoke/MethodHandle" ∧ yX13_back.cls ≠ "java/lang/invoke/VarHandle" ∧ (parseMethodDescriptor yX13_back.desc).map (fun d => d.parameters.length) = some 1 := by decide +kernel
theorem hd_yX12_count : yX12_count.cls ≠ "java/lang/invoke/MethodHandle" ∧ yX12_count.cls ≠ "java/lang/invoke/VarHandle" ∧ (parseMethodDescriptor yX12_count.desc).map (fun d => d.parameters.length) = some 1 := by decide +kernel
theorem hd_yX13_count : yX13_count.cls ≠ "java/lang/invoke/MethodHandle" ∧ yX13_count.cls ≠ "java/lang/invoke/VarHandle" ∧ (parseMethodDescriptor yX13_count.desc).map (fun d => d.parameters.length) = some 1 := by decide +kernel
theorem hd_yX12_status : yX12_status.cls ≠ "java/lang/invoke/MethodHandle" ∧ yX12_status.cls ≠ "java/lang/invoke/VarHandle" ∧ (parseMethodDescriptor yX12_status.desc).map (fun d => d.parameters.length) = some 0 := by decide +kernel
theorem hd_yX13_status : yX13_status.cls ≠ "java/lang/invoke/MethodHandle" ∧ yX13_status.cls ≠ "java/lang/invoke/VarHandle" ∧ (parseMethodDescriptor yX13_status.desc).map (fun d => d.parameters.length) = some 0 := by decide +kernel
theorem hd_yX12_init : yX12_init.cls ≠ "java/lang/invoke/MethodHandle" ∧ yX12_init.cls ≠ "java/lang/invoke/VarHandle" ∧ (parseMethodDescriptor yX12_init.desc).map (fun d => d.parameters.length) = some 0 := by decide +kernel
theorem hd_yX13_init : yX13_init.cls ≠ "java/lang/invoke/MethodHandle" ∧ yX13_init.cls ≠ "java/lang/invoke/VarHandle" ∧ (parseMethodDescriptor yX13_init.desc).map (fun d => d.parameters.length) = some 0 := by decide +kernel
set_option maxHeartbeats 4000000 in
set_option maxRecDepth 100000 in
theorem k_X12_accept_x (l : Launch) (D : va_G) (cy : Nat → ClassId) (ld : Nat → Nat) (t : tk_T) (a0 : Nat) (p1 : Int32) (ht_a0 : t a0 = (13, 0, 0)) : Met l yX12_accept (wl yX12_accept cX12_accept 2 (some .int)) ({ frames := 3, cells := 0, slots := 0, locals := 140 }) (tp D cy ld t [] [.ref a0, .int p1] (fun H => True)) (ti D cy ld t [] (fun r H => (-1) * p1.toInt + r.toInt = 0) (tk_w t [(13, 0, 0)])) 0 0 (tk_w t [(13, 0, 0)]) := by
  refine tk_met (y := yX12_accept) (cc := cX12_accept) (maxL := 2) (ret := (some .int)) (av := [.ref a0, .int p1]) _ _ (by decide) (Nat.le_of_ble_eq_true rfl) ?_
  intro p e s m args below meth c hx hb hr hml hts htl hown hlocks hK H locs hH hG hS hB hZ ls hl
  have hown : s.vm.findClass RX12 = some m.cls := hown
  have hl : lv_has ls 2 [(0, .ref a0), (1, .int p1)] := hl
  have hr_p1 := tk_rng p1
  refine lv_aload_n hx hb dX12_accept_0 rfl (lv_at hl 0 rfl) ?_
  refine lv_iconst (v := 0) hx hb dX12_accept_1 (by decide) ?_
  refine tk_put (ci := 12) (v := .int 0) (ty := .int) (C := RX12) (T := TX12) (N := 17) (sp := (0, (-2147483648), 2147483647, 0)) hx hb htl inX12 tyX12 tyX12_ok nmX12 hown hK hG hS ht_a0 (by decide) tk_no rfl 16 (by decide) (htl _ mw_276) (fun _ h9 => h9) rfl (tyX12_ok 16 (by decide)) rfl rfl rfl (tk_V0 (tk_rng _).1 (tk_rng _).2) (fun _ h => h) (tk_w.of ht_a0 (by decide) (List.mem_of_getElem? (i := 0) rfl) (Nat.le_refl _) (Nat.le_refl _)) dX12_accept_2 (fun H locs hG hS hf1 hq9 hj9 => ?_)
  refine lv_iload_n hx hb dX12_accept_5 rfl (lv_at hl 1 rfl) ?_
  exact tk_iret (v := p1) hx hb hr rfl hlocks (show (-1) * p1.toInt + p1.toInt = 0 from (by omega)) hG hS dX12_accept_6
set_option maxHeartbeats 4000000 in
set_option maxRecDepth 100000 in
theorem k_X12_within_x (l : Launch) (D : va_G) (cy : Nat → ClassId) (ld : Nat → Nat) (t : tk_T) (X : List Nat) (p0 : Int32) (p1 : Int32) (p2 : Int32) : Met l yX12_within (wl yX12_within cX12_within 3 (some .boolean)) ({ frames := 3, cells := 0, slots := 0, locals := 140 }) (tp D cy ld t X [.int p0, .int p1, .int p2] (fun H => True)) (ti D cy ld t X (fun r H => (1 ≤ r.toInt → 0 ≤ p0.toInt + (-1) * p1.toInt ∧ 0 ≤ (-1) * p0.toInt + p2.toInt) ∧ (r.toInt ≤ 0 → 0 ≤ p0.toInt + (-1) * p1.toInt → 0 ≤ p0.toInt + (-1) * p2.toInt + (-1)) ∧ 0 ≤ r.toInt ∧ r.toInt ≤ 1 ∧ 0 ≤ r.toInt ∧ r.toInt ≤ 1) (tk_w t [])) 0 0 (tk_w t []) := by
  refine tk_met (y := yX12_within) (cc := cX12_within) (maxL := 3) (ret := (some .boolean)) (av := [.int p0, .int p1, .int p2]) _ _ (by decide) (Nat.le_of_ble_eq_true rfl) ?_
  intro p e s m args below meth c hx hb hr hml hts htl hown hlocks hK H locs hH hG hS hB hZ ls hl
  have hown : s.vm.findClass RX12 = some m.cls := hown
  have hl : lv_has ls 3 [(0, .int p0), (1, .int p1), (2, .int p2)] := hl
  have hr_p0 := tk_rng p0
  have hr_p1 := tk_rng p1
  have hr_p2 := tk_rng p2
  refine lv_iload_n hx hb dX12_within_0 rfl (lv_at hl 0 rfl) ?_
  refine lv_iload_n hx hb dX12_within_1 rfl (lv_at hl 1 rfl) ?_
  refine lv_icmp_lt (tgt := 14) hx hb dX12_within_2 (by decide) (fun c9 => ?_) (fun c9 => ?_)
  · have hc1 : p0.toInt < p1.toInt := (fi_lt rfl rfl).mp c9
    refine lv_iconst (v := 0) hx hb dX12_within_14 (by decide) ?_
    have hk_0 : (0 : Int32).toInt = 0 := by decide
    exact tk_iret (v := 0) hx hb hr rfl hlocks (show (1 ≤ (0 : Int32).toInt → 0 ≤ p0.toInt + (-1) * p1.toInt ∧ 0 ≤ (-1) * p0.toInt + p2.toInt) ∧ ((0 : Int32).toInt ≤ 0 → 0 ≤ p0.toInt + (-1) * p1.toInt → 0 ≤ p0.toInt + (-1) * p2.toInt + (-1)) ∧ 0 ≤ (0 : Int32).toInt ∧ (0 : Int32).toInt ≤ 1 ∧ 0 ≤ (0 : Int32).toInt ∧ (0 : Int32).toInt ≤ 1 from ⟨(fun _ => ⟨by omega, by omega⟩), (fun _ _ => by omega), (by omega), (by omega), (by omega), (by omega)⟩) hG hS dX12_within_15
  · have hc1 : ¬ (p0.toInt < p1.toInt) := fun h9 => c9 ((fi_lt rfl rfl).mpr h9)
    refine lv_iload_n hx hb dX12_within_5 rfl (lv_at hl 0 rfl) ?_
    refine lv_iload_n hx hb dX12_within_6 rfl (lv_at hl 2 rfl) ?_
    refine lv_icmp_gt (tgt := 14) hx hb dX12_within_7 (by decide) (fun c9 => ?_) (fun c9 => ?_)
    · have hc2 : p2.toInt < p0.toInt := (fi_lt rfl rfl).mp c9
      refine lv_iconst (v := 0) hx hb dX12_within_14 (by decide) ?_
      have hk_0 : (0 : Int32).toInt = 0 := by decide
      exact tk_iret (v := 0) hx hb hr rfl hlocks (show (1 ≤ (0 : Int32).toInt → 0 ≤ p0.toInt + (-1) * p1.toInt ∧ 0 ≤ (-1) * p0.toInt + p2.toInt) ∧ ((0 : Int32).toInt ≤ 0 → 0 ≤ p0.toInt + (-1) * p1.toInt → 0 ≤ p0.toInt + (-1) * p2.toInt + (-1)) ∧ 0 ≤ (0 : Int32).toInt ∧ (0 : Int32).toInt ≤ 1 ∧ 0 ≤ (0 : Int32).toInt ∧ (0 : Int32).toInt ≤ 1 from ⟨(fun _ => ⟨by omega, by omega⟩), (fun _ _ => by omega), (by omega), (by omega), (by omega), (by omega)⟩) hG hS dX12_within_15
    · have hc2 : ¬ (p2.toInt < p0.toInt) := fun h9 => c9 ((fi_lt rfl rfl).mpr h9)
      refine lv_iconst (v := 1) hx hb dX12_within_10 (by decide) ?_
      refine lv_goto (tgt := 15) hx hb dX12_within_11 (by decide) ?_
      have hk_1 : (1 : Int32).toInt = 1 := by decide
      exact tk_iret (v := 1) hx hb hr rfl hlocks (show (1 ≤ (1 : Int32).toInt → 0 ≤ p0.toInt + (-1) * p1.toInt ∧ 0 ≤ (-1) * p0.toInt + p2.toInt) ∧ ((1 : Int32).toInt ≤ 0 → 0 ≤ p0.toInt + (-1) * p1.toInt → 0 ≤ p0.toInt + (-1) * p2.toInt + (-1)) ∧ 0 ≤ (1 : Int32).toInt ∧ (1 : Int32).toInt ≤ 1 ∧ 0 ≤ (1 : Int32).toInt ∧ (1 : Int32).toInt ≤ 1 from ⟨(fun _ => ⟨by omega, by omega⟩), (fun _ _ => by omega), (by omega), (by omega), (by omega), (by omega)⟩) hG hS dX12_within_15
set_option maxHeartbeats 4000000 in
set_option maxRecDepth 100000 in
theorem k_X12_refuse_x (l : Launch) (D : va_G) (cy : Nat → ClassId) (ld : Nat → Nat) (t : tk_T) (a0 : Nat) (p1 : Int32) (ht_a0 : t a0 = (13, 0, 0)) : Met l yX12_refuse (wl yX12_refuse cX12_refuse 3 (some .int)) ({ frames := 4, cells := 0, slots := 0, locals := 210 }) (tp D cy ld t [] [.ref a0, .int p1] (fun H => True)) (ti D cy ld t [] (fun r H => (-1) * p1.toInt + r.toInt = 0) (tk_w t [(13, 0, 0), (20, 0, 0)])) 0 0 (tk_w t [(13, 0, 0), (20, 0, 0)]) := by
  refine tk_met (y := yX12_refuse) (cc := cX12_refuse) (maxL := 3) (ret := (some .int)) (av := [.ref a0, .int p1]) _ _ (by decide) (Nat.le_of_ble_eq_true rfl) ?_
  intro p e s m args below meth c hx hb hr hml hts htl hown hlocks hK H locs hH hG hS hB hZ ls hl
  have hown : s.vm.findClass RX12 = some m.cls := hown
  have hl : lv_has ls 3 [(0, .ref a0), (1, .int p1)] := hl
  have hr_p1 := tk_rng p1
  refine lv_aload_n hx hb dX12_refuse_0 rfl (lv_at hl 0 rfl) ?_
  refine lv_iload_n hx hb dX12_refuse_1 rfl (lv_at hl 1 rfl) ?_
  refine tk_put (ci := 12) (v := .int p1) (ty := .int) (C := RX12) (T := TX12) (N := 17) (sp := (0, (-2147483648), 2147483647, 0)) hx hb htl inX12 tyX12 tyX12_ok nmX12 hown hK hG hS ht_a0 (by decide) tk_no rfl 16 (by decide) (htl _ mw_276) (fun _ h9 => h9) rfl (tyX12_ok 16 (by decide)) rfl rfl rfl (tk_V0 (tk_rng _).1 (tk_rng _).2) (fun _ h => h) (tk_w.of ht_a0 (by decide) (List.mem_of_getElem? (i := 0) rfl) (Nat.le_refl _) (Nat.le_refl _)) dX12_refuse_2 (fun H locs hG hS hf1 hq9 hj9 => ?_)
  refine lv_iload_n hx hb dX12_refuse_5 rfl (lv_at hl 1 rfl) ?_
  refine lv_bipush (v := (-3)) hx hb dX12_refuse_6 (by decide) ?_
  have hj10 : ∀ (v9 : Int32), ∀ ls : Array Slot, lv_has ls 3 [(0, .ref a0), (1, .int p1)] → W p l e ({ frames := 4, cells := 0, slots := 0, locals := 210 }) s m args below meth c H locs 0 0 (MQ below (ti D cy ld t [] (fun r H => (-1) * p1.toInt + r.toInt = 0) (tk_w t [(13, 0, 0), (20, 0, 0)])) args s 0 0 (tk_w t [(13, 0, 0), (20, 0, 0)])) (F0 m 22 ls [.int v9]) := by
    intro v9  ls hl
    refine lv_istore_n (lv' := [(2, .int v9), (0, .ref a0), (1, .int p1)]) hx hb dX12_refuse_22 rfl hl (by decide) rfl (fun ls hl => ?_)
    refine lv_iload_n hx hb dX12_refuse_23 rfl (lv_at hl 0 rfl) ?_
    refine lv_iconst (v := 0) hx hb dX12_refuse_24 (by decide) ?_
    refine lv_aload_n hx hb dX12_refuse_25 rfl (lv_at hl 1 rfl) ?_
    refine tk_get (ci := 12) (C := RX12) (T := TX12) (N := 17) (sp := (6, 20, 5, 0)) hx hb htl inX12 hown hK hG ht_a0 (by decide) tk_no rfl 12 (by decide) (htl _ mw_54) (fun _ h9 => h9) rfl dX12_refuse_26 (fun v9 hf11 hV9 => ?_)
    obtain ⟨b12, rfl, ht_b12⟩ := hV9
    have ht_b12 : t b12 = (20, 5, 0) := ht_b12
    refine tk_alen hx hb hK hG 0 rfl ht_b12 (by decide) (fun _ h => by obtain ⟨f, h, _⟩ := h; exact ⟨_, h⟩) tk_no (by decide) dX12_refuse_29 (fun z hz => ?_)
    obtain rfl : z = 5 := (fi_eq hz (by decide)).mpr rfl
    refine lv_iconst (v := 1) hx hb dX12_refuse_30 (by decide) ?_
    refine lv_isub hx hb dX12_refuse_31 ?_
    refine fx_ti (v := 4) (by decide) ?_
    have hk_0 : (0 : Int32).toInt = 0 := by decide
    have hk_4 : (4 : Int32).toInt = 4 := by decide
    refine tk_Si (As := [.int v9, .int 0, .int 4]) (rest := []) ⟨hx, hb, hml, hown, hts⟩ hK hG hZ hS (k_X12_within_x l D cy ld t _ v9 0 4) trivial ⟨callB_of 3 hts (wl_in mw_262) rfl rfl rfl (htl _ mw_2) (htl _ mw_277) hd_yX12_within ⟨(Nat.le_of_ble_eq_true rfl), (Nat.le_of_ble_eq_true rfl)⟩, htl _ mw_261⟩ (tk_w.pick [] rfl) rfl hl.1 rfl (Nat.le_of_ble_eq_true rfl) dX12_refuse_32 ⟨(Nat.le_of_ble_eq_true rfl), (Nat.le_of_ble_eq_true rfl)⟩ (fun v13 H locs hpo hG hS hq9 => ?_)
    obtain ⟨hpo15, hpo16, hpo17, hpo18, hpo19, hpo20⟩ := hpo
    have hj29 : ∀ (H : Heap) (locs : List Loc), tk_G D cy ld t [] H → va_S (tk_w t [(13, 0, 0), (20, 0, 0)]) s.heap H locs → ∀ ls : Array Slot, lv_has ls 3 [(1, .int p1)] → W p l e ({ frames := 4, cells := 0, slots := 0, locals := 210 }) s m args below meth c H locs 0 0 (MQ below (ti D cy ld t [] (fun r H => (-1) * p1.toInt + r.toInt = 0) (tk_w t [(13, 0, 0), (20, 0, 0)])) args s 0 0 (tk_w t [(13, 0, 0), (20, 0, 0)])) (F0 m 48 ls []) := by
      intro H locs hG hS ls hl
      refine lv_iload_n hx hb dX12_refuse_48 rfl (lv_at hl 0 rfl) ?_
      exact tk_iret (v := p1) hx hb hr rfl hlocks (show (-1) * p1.toInt + p1.toInt = 0 from (by omega)) hG hS dX12_refuse_49
    refine lv_if_eq (tgt := 48) hx hb dX12_refuse_35 (by decide) (fun c9 => ?_) (fun c9 => ?_)
    · have hc21 : v13.toInt = 0 := (fi_eq rfl (show (0 : Int32).toInt = 0 by decide)).mp c9
      exact hj29 _ _ hG hS _ (lv_sub hl [2] rfl)
    · have hc21 : ¬ (v13.toInt = 0) := fun h9 => c9 ((fi_eq rfl (show (0 : Int32).toInt = 0 by decide)).mpr h9)
      refine lv_aload_n hx hb dX12_refuse_38 rfl (lv_at hl 1 rfl) ?_
      refine tk_get (ci := 12) (C := RX12) (T := TX12) (N := 17) (sp := (6, 20, 5, 0)) hx hb htl inX12 hown hK hG ht_a0 (by decide) tk_no rfl 12 (by decide) (htl _ mw_54) (fun _ h9 => h9) rfl dX12_refuse_39 (fun v9 hf30 hV9 => ?_)
      obtain ⟨b31, rfl, ht_b31⟩ := hV9
      have ht_b31 : t b31 = (20, 5, 0) := ht_b31
      refine lv_iload_n hx hb dX12_refuse_42 rfl (lv_at hl 0 rfl) ?_
      refine lv_dup2_11 hx hb dX12_refuse_43 rfl rfl ?_
      refine tk_iald hx hb hK hG ht_b31 (by decide) (fun _ h => h) tk_no rfl (by omega) (by omega) dX12_refuse_44 (fun v32 _ _ => ?_)
      have hr_v32 := tk_rng v32
      refine lv_iconst (v := 1) hx hb dX12_refuse_45 (by decide) ?_
      refine lv_iadd hx hb dX12_refuse_46 ?_
      obtain ⟨v33, hm_v33⟩ : ∃ z : Int32, v32 + 1 = z := ⟨_, rfl⟩
      refine fx_ti hm_v33 ?_
      refine tk_iast hx hb hK hG hS ht_b31 (by decide) (fun _ => Iff.rfl) tk_no rfl (by omega) (by omega) trivial (tk_w.of ht_b31 (by decide) (List.mem_of_getElem? (i := 1) rfl) (Nat.le_refl _) (Nat.le_refl _)) dX12_refuse_47 (fun H locs hG hS hq9 => ?_)
      exact hj29 _ _ hG hS _ (lv_sub hl [2] rfl)
  refine lv_icmp_lt (tgt := 18) hx hb dX12_refuse_8 (by decide) (fun c9 => ?_) (fun c9 => ?_)
  · have hc3 : p1.toInt < (-3) := (fi_lt rfl (show ((-3) : Int32).toInt = (-3) by decide)).mp c9
    refine lv_iload_n hx hb dX12_refuse_18 rfl (lv_at hl 1 rfl) ?_
    refine lv_ineg hx hb dX12_refuse_19 ?_
    refine tk_any (fun v35 => ?_)
    refine lv_iconst (v := 2) hx hb dX12_refuse_20 (by decide) ?_
    refine lv_isub hx hb dX12_refuse_21 ?_
    obtain ⟨v36, hm_v36⟩ : ∃ z : Int32, v35 - 2 = z := ⟨_, rfl⟩
    refine fx_ti hm_v36 ?_
    exact hj10 v36 _ (lv_sub hl [0, 1] rfl)
  · have hc3 : ¬ (p1.toInt < (-3)) := fun h9 => c9 ((fi_lt rfl (show ((-3) : Int32).toInt = (-3) by decide)).mpr h9)
    refine lv_iload_n hx hb dX12_refuse_11 rfl (lv_at hl 1 rfl) ?_
    refine lv_ineg hx hb dX12_refuse_12 ?_
    refine tk_neg rfl (by omega) (by omega) (fun v37 h_v37 => ?_)
    refine lv_iconst (v := 1) hx hb dX12_refuse_13 (by decide) ?_
    refine lv_isub hx hb dX12_refuse_14 ?_
    refine tk_sub rfl (show (1 : Int32).toInt = 1 by decide) (by omega) (by omega) (fun v38 h_v38 => ?_)
    refine lv_goto (tgt := 22) hx hb dX12_refuse_15 (by decide) ?_
    exact hj10 v38 _ (lv_sub hl [0, 1] rfl)
set_option maxHeartbeats 4000000 in
set_option maxRecDepth 100000 in
theorem k_X12_image_x (l : Launch) (D : va_G) (cy : Nat → ClassId) (ld : Nat → Nat) (t : tk_T) (a0 : Nat) (p1 : Int32) (ht_a0 : t a0 = (13, 0, 0)) : Met l yX12_image (wl yX12_image cX12_image 2 (some .int)) ({ frames := 6, cells := 0, slots := 0, locals := 350 }) (tp D cy ld t [] [.ref a0, .int p1] (fun H => True)) (ti D cy ld t [] (fun r H => (0 ≤ p1.toInt → p1.toInt ≤ 1 → r.toInt = 0) ∧ (p1.toInt ≤ (-1) → r.toInt + 1 = 0) ∧ (2 ≤ p1.toInt → r.toInt + 1 = 0)) (tk_w t [(3, 6 + p1.toNatClampNeg, 6 + p1.toNatClampNeg), (20, 6 + p1.toNatClampNeg, 6 + p1.toNatClampNeg), (21, 6 + p1.toNatClampNeg, 6 + p1.toNatClampNeg), (24, 6 + p1.toNatClampNeg, 6 + p1.toNatClampNeg), (28, 6 + p1.toNatClampNeg, 6 + p1.toNatClampNeg), (10, 6 + p1.toNatClampNeg, 6 + p1.toNatClampNeg), (29, 0, 0), (13, 0, 0), (20, 0, 0)])) 0 0 (tk_w t [(3, 6 + p1.toNatClampNeg, 6 + p1.toNatClampNeg), (20, 6 + p1.toNatClampNeg, 6 + p1.toNatClampNeg), (21, 6 + p1.toNatClampNeg, 6 + p1.toNatClampNeg), (24, 6 + p1.toNatClampNeg, 6 + p1.toNatClampNeg), (28, 6 + p1.toNatClampNeg, 6 + p1.toNatClampNeg), (10, 6 + p1.toNatClampNeg, 6 + p1.toNatClampNeg), (29, 0, 0), (13, 0, 0), (20, 0, 0)]) := by
  refine tk_met (y := yX12_image) (cc := cX12_image) (maxL := 2) (ret := (some .int)) (av := [.ref a0, .int p1]) _ _ (by decide) (Nat.le_of_ble_eq_true rfl) ?_
  intro p e s m args below meth c hx hb hr hml hts htl hown hlocks hK H locs hH hG hS hB hZ ls hl
  have hown : s.vm.findClass RX12 = some m.cls := hown
  have hl : lv_has ls 2 [(0, .ref a0), (1, .int p1)] := hl
  have hr_p1 := tk_rng p1
  refine lv_iload_n hx hb dX12_image_0 rfl (lv_at hl 1 rfl) ?_
  refine lv_iconst (v := 0) hx hb dX12_image_1 (by decide) ?_
  refine lv_iconst (v := 1) hx hb dX12_image_2 (by decide) ?_
  have hk_0 : (0 : Int32).toInt = 0 := by decide
  have hk_1 : (1 : Int32).toInt = 1 := by decide
  refine tk_Si (As := [.int p1, .int 0, .int 1]) (rest := []) ⟨hx, hb, hml, hown, hts⟩ hK hG hZ hS (k_X12_within_x l D cy ld t _ p1 0 1) trivial ⟨callB_of 3 hts (wl_in mw_262) rfl rfl rfl (htl _ mw_2) (htl _ mw_277) hd_yX12_within ⟨(Nat.le_of_ble_eq_true rfl), (Nat.le_of_ble_eq_true rfl)⟩, htl _ mw_261⟩ (tk_w.pick [] rfl) rfl hl.1 rfl (Nat.le_of_ble_eq_true rfl) dX12_image_3 ⟨(Nat.le_of_ble_eq_true rfl), (Nat.le_of_ble_eq_true rfl)⟩ (fun v1 H locs hpo hG hS hq9 => ?_)
  obtain ⟨hpo3, hpo4, hpo5, hpo6, hpo7, hpo8⟩ := hpo
  refine lv_if_ne (tgt := 15) hx hb dX12_image_6 (by decide) (fun c9 => ?_) (fun c9 => ?_)
  · have hc9 : ¬ (v1.toInt = 0) := fun h9 => c9 ((fi_eq rfl (show (0 : Int32).toInt = 0 by decide)).mpr h9)
    refine lv_aload_n hx hb dX12_image_15 rfl (lv_at hl 0 rfl) ?_
    refine tk_get (ci := 12) (C := RX12) (T := TX12) (N := 17) (sp := (6, 27, 2, 0)) hx hb htl inX12 hown hK hG ht_a0 (by decide) tk_no rfl 1 (by decide) (htl _ mw_16) (fun _ h9 => h9) rfl dX12_image_16 (fun v9 hf10 hV9 => ?_)
    obtain ⟨b11, rfl, ht_b11⟩ := hV9
    have ht_b11 : t b11 = (27, 2, 0) := ht_b11
    refine lv_iload_n hx hb dX12_image_19 rfl (lv_at hl 1 rfl) ?_
    refine tk_aald hx hb hK hG 4 rfl rfl ht_b11 (by decide) (fun _ h => h) tk_no rfl (by omega) (by omega) dX12_image_20 (fun o12 ht_o12 => ?_)
    obtain ⟨b13, rfl, ht_b13⟩ := ht_o12
    have ht_b13 : t b13 = (3, 0, 6 + p1.toNatClampNeg) := ht_b13
    refine fx_top (v := .ref b13) rfl ?_
    refine lv_aload_n hx hb dX12_image_21 rfl (lv_at hl 0 rfl) ?_
    refine tk_get (ci := 12) (C := RX12) (T := TX12) (N := 17) (sp := (8, 20, 3, 0)) hx hb htl inX12 hown hK hG ht_a0 (by decide) tk_no rfl 0 (by decide) (htl _ mw_15) (fun _ h9 => h9) rfl dX12_image_22 (fun v9 hf14 hV9 => ?_)
    obtain ⟨rfl, ht_ld20⟩ := hV9
    have ht_ld20 : t (ld 20) = (3, 0, 0) := ht_ld20
    refine fx_top (v := .ref (ld 20)) rfl ?_
    refine tk_Vv (As := [.ref (ld 20)]) (rest := []) (ci := 2) ⟨hx, hb, hml, hown, hts⟩ hK hG hZ hS (k_X2_copyFrom l D cy ld t (6 + p1.toNatClampNeg) 0 b13 (ld 20) ht_b13 ht_ld20 (by omega)) trivial ⟨callB_of 1 hts (wl_in mw_1711) rfl rfl rfl (htl _ mw_14) (htl _ mw_1708) hd_yX2_copyFrom ⟨(Nat.le_of_ble_eq_true rfl), (Nat.le_of_ble_eq_true rfl)⟩, htl _ mw_1709, htl _ mw_1710⟩ ht_b13 (by decide) tk_no rfl (tk_w.pick [0, 1, 2, 3, 4, 5] rfl) rfl hl.1 rfl (Nat.le_of_ble_eq_true rfl) dX12_image_25 ⟨(Nat.le_of_ble_eq_true rfl), (Nat.le_of_ble_eq_true rfl)⟩ (fun H locs hpo hG hS hq9 => ?_)
    refine lv_aload_n hx hb dX12_image_28 rfl (lv_at hl 0 rfl) ?_
    refine tk_get (ci := 12) (C := RX12) (T := TX12) (N := 17) (sp := (6, 29, 2, 0)) hx hb htl inX12 hown hK hG ht_a0 (by decide) tk_no rfl 2 (by decide) (htl _ mw_18) (fun _ h9 => h9) rfl dX12_image_29 (fun v9 hf16 hV9 => ?_)
    obtain ⟨b17, rfl, ht_b17⟩ := hV9
    have ht_b17 : t b17 = (29, 2, 0) := ht_b17
    refine lv_iload_n hx hb dX12_image_32 rfl (lv_at hl 1 rfl) ?_
    refine lv_iconst (v := 1) hx hb dX12_image_33 (by decide) ?_
    refine tk_zast hx hb hK hG hS ht_b17 (by decide) (fun _ => Iff.rfl) tk_no rfl (by omega) (by omega) (tk_w.of ht_b17 (by decide) (List.mem_of_getElem? (i := 6) rfl) (Nat.le_refl _) (Nat.le_refl _)) dX12_image_34 (fun H locs hG hS hq9 => ?_)
    refine lv_aload_n hx hb dX12_image_35 rfl (lv_at hl 0 rfl) ?_
    refine lv_iconst (v := 0) hx hb dX12_image_36 (by decide) ?_
    have hk_0 : (0 : Int32).toInt = 0 := by decide
    refine tk_Vi (As := [.int 0]) (rest := []) (ci := 12) ⟨hx, hb, hml, hown, hts⟩ hK hG hZ hS (k_X12_accept_x l D cy ld t a0 0 ht_a0) trivial ⟨callB_of 1 hts (wl_in mw_281) rfl rfl rfl (htl _ mw_2) (htl _ mw_278) hd_yX12_accept ⟨(Nat.le_of_ble_eq_true rfl), (Nat.le_of_ble_eq_true rfl)⟩, htl _ mw_279, htl _ mw_280⟩ ht_a0 (by decide) tk_no rfl (tk_w.pick [7] rfl) rfl hl.1 rfl (Nat.le_of_ble_eq_true rfl) dX12_image_37 ⟨(Nat.le_of_ble_eq_true rfl), (Nat.le_of_ble_eq_true rfl)⟩ (fun v19 H locs hpo hG hS hq9 => ?_)
    have hpo21 := hpo
    exact tk_iret (v := v19) hx hb hr rfl hlocks (show (0 ≤ p1.toInt → p1.toInt ≤ 1 → v19.toInt = 0) ∧ (p1.toInt ≤ (-1) → v19.toInt + 1 = 0) ∧ (2 ≤ p1.toInt → v19.toInt + 1 = 0) from ⟨(fun _ _ => by omega), (fun _ => by omega), (fun _ => by omega)⟩) hG hS dX12_image_40
  · have hc9 : v1.toInt = 0 := (fi_eq rfl (show (0 : Int32).toInt = 0 by decide)).mp c9
    refine lv_aload_n hx hb dX12_image_9 rfl (lv_at hl 0 rfl) ?_
    refine lv_iconst (v := (-1)) hx hb dX12_image_10 (by decide) ?_
    have hk_m1 : ((-1) : Int32).toInt = (-1) := by decide
    refine tk_Vi (As := [.int (-1)]) (rest := []) (ci := 12) ⟨hx, hb, hml, hown, hts⟩ hK hG hZ hS (k_X12_refuse_x l D cy ld t a0 (-1) ht_a0) trivial ⟨callB_of 1 hts (wl_in mw_275) rfl rfl rfl (htl _ mw_2) (htl _ mw_272) hd_yX12_refuse ⟨(Nat.le_of_ble_eq_true rfl), (Nat.le_of_ble_eq_true rfl)⟩, htl _ mw_273, htl _ mw_274⟩ ht_a0 (by decide) tk_no rfl (tk_w.pick [7, 8] rfl) rfl hl.1 rfl (Nat.le_of_ble_eq_true rfl) dX12_image_11 ⟨(Nat.le_of_ble_eq_true rfl), (Nat.le_of_ble_eq_true rfl)⟩ (fun v22 H locs hpo hG hS hq9 => ?_)
    have hpo24 := hpo
    exact tk_iret (v := v22) hx hb hr rfl hlocks (show (0 ≤ p1.toInt → p1.toInt ≤ 1 → v22.toInt = 0) ∧ (p1.toInt ≤ (-1) → v22.toInt + 1 = 0) ∧ (2 ≤ p1.toInt → v22.toInt + 1 = 0) from ⟨(fun _ _ => by omega), (fun _ => by omega), (fun _ => by omega)⟩) hG hS dX12_image_14
set_option maxHeartbeats 4000000 in
set_option maxRecDepth 100000 in
theorem k_X13_image_x (l : Launch) (D : va_G) (cy : Nat → ClassId) (ld ad : Nat → Nat) (am : Nat) (hD : mz_D ad am) (Fa : Nat → Int32) (Ga : Nat → Int64) (Ra : Nat → Nat → Int32) (Sa : Nat → Nat → Int64) (p1 : Int32) (hIF : mz_IF true Fa) (hIG : mz_IG Ga) (hIR : mz_IR [] true Ra) : Met l yX13_image (wl yX13_image cX13_image 3 (some .int)) ({ frames := 4, cells := 0, slots := 0, locals := 210 }) (mz_p D cy ld ad am Fa Ga Ra Sa [.ref am, .int p1]) (mz_i D cy ad am (fun r F G R S => mz_IF true F ∧ mz_IG G ∧ mz_IR [] true R ∧ (∀ k : Nat, k ∉ ([0, 1] : List Nat) → F k = Fa k) ∧ (∀ k : Nat, k ∉ ([2, 4, 5] : List Nat) → R k = Ra k) ∧ (∀ k : Nat, k ∉ ([] : List Nat) → G k = Ga k) ∧ (0 ≤ p1.toInt → p1.toInt ≤ 1 → r.toInt = 0) ∧ (p1.toInt ≤ (-1) → r.toInt + 1 = 0) ∧ (2 ≤ p1.toInt → r.toInt + 1 = 0))) 0 0 (mz_W ad am) := by
  refine mz_met (y := yX13_image) (cc := cX13_image) (maxL := 3) (ret := (some .int)) (av := [.ref am, .int p1]) _ (by decide) (Nat.le_of_ble_eq_true rfl) ?_
  intro p e s m args below meth c hx hb hr hml hts htl hown hlocks hK H locs hM hS ls hl
  have hown : s.vm.findClass RX13 = some m.cls := hown
  have hl : lv_has ls 3 [(0, .ref am), (1, .int p1)] := hl
  have hr_p1 := tk_rng p1
  refine lv_aload_n hx hb dX13_image_0 rfl (lv_at hl 0 rfl) ?_
  refine lv_iconst (v := 0) hx hb dX13_image_1 (by decide) ?_
  have hk_0 : (0 : Int32).toInt = 0 := by decide
  refine mz_putI (ty := .int) (x := 0) hx hb htl hown hK hD hM hS 0 (Nat.le_of_ble_eq_true rfl) rfl (htl _ mw_286) (fun _ h9 => h9) rfl (tyX13_ok 0 (by decide)) rfl rfl dX13_image_2 (fun H locs F hM hS hf9 hj9 => ?_)
  have hIF := hIF.put hf9 hj9 (tk_rng _).1 (tk_rng _).2 (by decide)
  have hFF := mz_frp (K := [0, 1]) (Fa := Fa) hj9 (fun _ _ => rfl) (by decide)
  have hf2 := hf9
  refine lv_iload_n hx hb dX13_image_5 rfl (lv_at hl 1 rfl) ?_
  obtain ⟨w3, e_w3, h_w3⟩ : ∃ z : Int64, p1.toInt64 = z ∧ z.toInt = p1.toInt := ⟨_, rfl, fl_w _⟩
  refine lv_i2l (v := w3) hx hb dX13_image_6 e_w3 ?_
  refine lv_lconst (v := 0) hx hb dX13_image_7 (by decide) ?_
  refine lv_lconst (v := 1) hx hb dX13_image_8 (by decide) ?_
  have hk_0 : (0 : Int64).toInt = 0 := by decide
  have hk_1 : (1 : Int64).toInt = 1 := by decide
  refine mz_Sj (As := [.long w3, .long 0, .long 1]) (rest := []) ⟨hx, hb, hml, hown, hts⟩ hK hM hS (k_X13_in l D cy ld ad am hD _ _ _ _ w3 0 1) ⟨callB_of 3 hts (wl_in mw_292) rfl rfl rfl (htl _ mw_5) (htl _ mw_290) hd_yX13_in ⟨(Nat.le_of_ble_eq_true rfl), (Nat.le_of_ble_eq_true rfl)⟩, htl _ mw_291⟩ rfl hl.1 rfl (Nat.le_of_ble_eq_true rfl) dX13_image_9 ⟨(Nat.le_of_ble_eq_true rfl), (Nat.le_of_ble_eq_true rfl)⟩ (fun v4 H locs hpo hM hS => ?_)
  obtain ⟨hpo5, hpo6, hpo10, hpo11, hpo12, hpo13⟩ := hpo
  have hq_v4 := tk_rng v4
  refine lv_if_ne (tgt := 21) hx hb dX13_image_12 (by decide) (fun c9 => ?_) (fun c9 => ?_)
  · have hc15 : ¬ (v4.toInt = 0) := fun h9 => c9 ((fi_eq rfl (show (0 : Int32).toInt = 0 by decide)).mpr h9)
    have hwk_16 : 0 ≤ w3.toInt ∧ w3.toInt ≤ 1 := by omega
    refine lv_iconst (v := 0) hx hb dX13_image_21 (by decide) ?_
    refine lv_istore_n (lv' := [(2, .int 0), (0, .ref am), (1, .int p1)]) hx hb dX13_image_22 rfl hl (by decide) rfl (fun ls hl => ?_)
    have hI9 := hIR
    have hIR := hIR.hole (X := [4])
    obtain ⟨cf, ecf⟩ : ∃ z : Nat → Int32, Ra 3 = z := ⟨_, rfl⟩
    obtain ⟨cg, ecg⟩ : ∃ z : Nat → Int32, Ra 4 = z := ⟨_, rfl⟩
    have hl131 : ∀ (N_l131 : Nat) (v34 : Int32) (H : Heap) (locs : List Loc) (R : Nat → Nat → Int32), (0 ≤ v34.toInt) → (v34.toInt ≤ 5560) → (mz_S D cy ad am F Ga R Sa H) → (va_S (mz_W ad am) s.heap H locs) → (mz_IR [4] true R) → (∀ k : Nat, k ∉ ([2, 4, 5] : List Nat) → R k = Ra k) → (R 4 = va_cpy cf cg 0 (5560 * p1.toInt.toNat) v34.toInt.toNat) → (R 3 = cf) → ((-1) * v34.toInt + 5560 < (N_l131 : Int)) → ∀ ls : Array Slot, lv_has ls 3 [(2, .int v34), (0, .ref am), (1, .int p1)] → W p l e ({ frames := 4, cells := 0, slots := 0, locals := 210 }) s m args below meth c H locs 0 0 (MQ below (mz_i D cy ad am (fun r F G R S => mz_IF true F ∧ mz_IG G ∧ mz_IR [] true R ∧ (∀ k : Nat, k ∉ ([0, 1] : List Nat) → F k = Fa k) ∧ (∀ k : Nat, k ∉ ([2, 4, 5] : List Nat) → R k = Ra k) ∧ (∀ k : Nat, k ∉ ([] : List Nat) → G k = Ga k) ∧ (0 ≤ p1.toInt → p1.toInt ≤ 1 → r.toInt = 0) ∧ (p1.toInt ≤ (-1) → r.toInt + 1 = 0) ∧ (2 ≤ p1.toInt → r.toInt + 1 = 0))) args s 0 0 (mz_W ad am)) (F0 m 23 ls []) := by
      intro N_l131
      induction N_l131 with
      | zero => intro v34 H locs R hq0_l131 hq1_l131 hM hS hIR hRR hcp hcs hm_l131 ls hl; exfalso; omega
      | succ N_l131 ih_l131 =>
        intro v34 H locs R hq0_l131 hq1_l131 hM hS hIR hRR hcp hcs hm_l131 ls hl
        refine lv_iload_n hx hb dX13_image_23 rfl (lv_at hl 0 rfl) ?_
        refine lv_sipush (v := 5560) hx hb dX13_image_24 (by decide) ?_
        refine lv_icmp_ge (tgt := 54) hx hb dX13_image_27 (by decide) (fun c9 => ?_) (fun c9 => ?_)
        · have hc132 : 5560 ≤ v34.toInt := (fi_le (show (5560 : Int32).toInt = 5560 by decide) rfl).mp c9
          have e9 : v34.toInt.toNat = 5560 := by omega
          rw [e9] at hcp
          have hIR := hIR.close (by rw [hcp]; exact mz_img (by rw [← ecf]; exact hI9.at 3) (by rw [← ecg]; exact hI9.at 4))
          refine lv_aload_n hx hb dX13_image_54 rfl (lv_at hl 1 rfl) ?_
          refine mz_getR hx hb htl hown hK hM 5 (Nat.le_of_ble_eq_true rfl) (Nat.le_of_ble_eq_true rfl) (htl _ mw_190) (fun _ h9 => h9) dX13_image_55 ?_
          refine lv_iload_n hx hb dX13_image_58 rfl (lv_at hl 2 rfl) ?_
          refine lv_iconst (v := 1) hx hb dX13_image_59 (by decide) ?_
          have hk_1 : (1 : Int32).toInt = 1 := by decide
          refine mz_zast (x := 1) hx hb hK hD hM hS 5 (Nat.le_of_ble_eq_true rfl) rfl (nn := 2) rfl rfl (by omega) (by omega) dX13_image_60 (fun H locs R hM hS hw9 hj9 => ?_)
          have hIR := hIR.put hw9 hj9 trivial
          have hRR := mz_frp (K := [2, 4, 5]) (Fa := Ra) hj9 hRR (by decide)
          refine lv_aload_n hx hb dX13_image_61 rfl (lv_at hl 1 rfl) ?_
          refine lv_iconst (v := 0) hx hb dX13_image_62 (by decide) ?_
          have hk_0 : (0 : Int32).toInt = 0 := by decide
          refine mz_Vi (As := [.int 0]) (rest := []) ⟨hx, hb, hml, hown, hts⟩ hK hM hS (k_X13_tell l D cy ld ad am hD _ _ _ _ 0 hIF hIG hIR (by omega) (by omega)) ⟨callB_of 1 hts (wl_in mw_296) rfl rfl rfl (htl _ mw_5) (htl _ mw_293) hd_yX13_tell ⟨(Nat.le_of_ble_eq_true rfl), (Nat.le_of_ble_eq_true rfl)⟩, htl _ mw_294, htl _ mw_295⟩ rfl hl.1 rfl (Nat.le_of_ble_eq_true rfl) dX13_image_63 ⟨(Nat.le_of_ble_eq_true rfl), (Nat.le_of_ble_eq_true rfl)⟩ (fun v139 H locs F G R S hpo hM hS => ?_)
          obtain ⟨hIF, hIG, hIR, hfr9, hrr9, hgr9, hpo140⟩ := hpo
          have hq_v139 := tk_rng v139
          have hFF := mz_fr (K := [0, 1]) (Fa := Fa) hfr9 hFF (by decide)
          have hRR := mz_fr (K := [2, 4, 5]) (Fa := Ra) hrr9 hRR (by decide)
          have hGG := mz_fr (K := []) (Fa := Ga) hgr9 (fun _ _ => rfl) (by decide)
          have hf2 := (hfr9 0 (by decide)).trans hf2
          exact mz_iret (v := v139) hx hb hr rfl hlocks ⟨hIF, hIG, hIR, hFF, hRR, hGG, (by omega), (by omega), (by omega)⟩ hM hS dX13_image_66
        · have hc132 : ¬ (5560 ≤ v34.toInt) := fun h9 => c9 ((fi_le (show (5560 : Int32).toInt = 5560 by decide) rfl).mpr h9)
          refine lv_aload_n hx hb dX13_image_30 rfl (lv_at hl 1 rfl) ?_
          refine mz_getR hx hb htl hown hK hM 4 (Nat.le_of_ble_eq_true rfl) (Nat.le_of_ble_eq_true rfl) (htl _ mw_189) (fun _ h9 => h9) dX13_image_31 ?_
          refine lv_sipush (v := 5560) hx hb dX13_image_34 (by decide) ?_
          refine lv_iload_n hx hb dX13_image_37 rfl (lv_at hl 2 rfl) ?_
          refine lv_imul hx hb dX13_image_38 ?_
          refine tk_mul (show (5560 : Int32).toInt = 5560 by decide) rfl (by omega) (by omega) (fun v142 h_v142 => ?_)
          refine lv_iload_n hx hb dX13_image_39 rfl (lv_at hl 0 rfl) ?_
          refine lv_iadd hx hb dX13_image_40 ?_
          refine tk_add rfl rfl (by omega) (by omega) (fun v143 h_v143 => ?_)
          refine lv_aload_n hx hb dX13_image_41 rfl (lv_at hl 1 rfl) ?_
          refine mz_getR hx hb htl hown hK hM 3 (Nat.le_of_ble_eq_true rfl) (Nat.le_of_ble_eq_true rfl) (htl _ mw_188) (fun _ h9 => h9) dX13_image_42 ?_
          refine lv_iload_n hx hb dX13_image_45 rfl (lv_at hl 0 rfl) ?_
          refine mz_iald hx hb hK hM 3 (Nat.le_of_ble_eq_true rfl) rfl (nn := 5560) rfl rfl (by omega) (by omega) dX13_image_46 (fun v144 e_v144 => ?_)
          have hq_v144 := tk_rng v144
          refine mz_iast (x := v144) hx hb hK hD hM hS 4 (Nat.le_of_ble_eq_true rfl) rfl (nn := 11120) rfl rfl (by omega) (by omega) dX13_image_47 (fun H locs R hM hS hw9 hj9 => ?_)
          have hIR := hIR.putX hj9 (by decide)
          have hcp := mz_cps (sp := 0) (dp := (5560 * p1.toInt.toNat)) (n := v34.toInt.toNat) hw9 hcp (by omega) (by rw [← e_v144, hcs]; congr 1; have h9 := tk_nat (i := v34) rfl (by omega); omega)
          have hcs := (hj9 3 (by decide)).trans hcs
          have hRR := mz_frp (K := [2, 4, 5]) (Fa := Ra) hj9 hRR (by decide)
          have e_v144 : R 3 (v34 : Int32).toNatClampNeg = _ := (congrFun (hj9 3 (by decide)) _).trans e_v144
          obtain ⟨v146, h_v146, e_v146⟩ := tk_inc v34 1 (by decide) (by omega) (by omega)
          refine lv_iinc (v := v146) (lv' := [(2, .int v146), (0, .ref am), (1, .int p1)]) hx hb dX13_image_48 hl (k := 0) rfl e_v146 (by decide) rfl (fun ls hl => ?_)
          refine lv_goto (tgt := 23) hx hb dX13_image_51 (by decide) ?_
          exact ih_l131 v146 _ _ _ (by omega) (by omega) hM hS hIR hRR (by rw [show v146.toInt.toNat = v34.toInt.toNat + 1 by omega]; exact hcp) hcs (by omega) _ (lv_sub hl [0, 1, 2] rfl)
    have hk_0 : (0 : Int32).toInt = 0 := by decide
    exact hl131 5561 0 _ _ _ (by omega) (by omega) hM hS hIR (fun _ _ => rfl) (by rw [show (0 : Int32).toInt.toNat = 0 by decide, mz_cp0]; exact ecg) ecf (by omega) _ (lv_sub hl [0, 1, 2] rfl)
  · have hc15 : v4.toInt = 0 := (fi_eq rfl (show (0 : Int32).toInt = 0 by decide)).mp c9
    refine lv_aload_n hx hb dX13_image_15 rfl (lv_at hl 0 rfl) ?_
    refine lv_iconst (v := (-1)) hx hb dX13_image_16 (by decide) ?_
    have hk_m1 : ((-1) : Int32).toInt = (-1) := by decide
    refine mz_Vi (As := [.int (-1)]) (rest := []) ⟨hx, hb, hml, hown, hts⟩ hK hM hS (k_X13_tell l D cy ld ad am hD _ _ _ _ (-1) hIF hIG hIR (by omega) (by omega)) ⟨callB_of 1 hts (wl_in mw_296) rfl rfl rfl (htl _ mw_5) (htl _ mw_293) hd_yX13_tell ⟨(Nat.le_of_ble_eq_true rfl), (Nat.le_of_ble_eq_true rfl)⟩, htl _ mw_294, htl _ mw_295⟩ rfl hl.1 rfl (Nat.le_of_ble_eq_true rfl) dX13_image_17 ⟨(Nat.le_of_ble_eq_true rfl), (Nat.le_of_ble_eq_true rfl)⟩ (fun v147 H locs F G R S hpo hM hS => ?_)
    obtain ⟨hIF, hIG, hIR, hfr9, hrr9, hgr9, hpo148⟩ := hpo
    have hq_v147 := tk_rng v147
    have hFF := mz_fr (K := [0, 1]) (Fa := Fa) hfr9 hFF (by decide)
    have hRR := mz_fr (K := [2, 4, 5]) (Fa := Ra) hrr9 (fun _ _ => rfl) (by decide)
    have hGG := mz_fr (K := []) (Fa := Ga) hgr9 (fun _ _ => rfl) (by decide)
    have hf2 := (hfr9 0 (by decide)).trans hf2
    exact mz_iret (v := v147) hx hb hr rfl hlocks ⟨hIF, hIG, hIR, hFF, hRR, hGG, (by omega), (by omega), (by omega)⟩ hM hS dX13_image_20
