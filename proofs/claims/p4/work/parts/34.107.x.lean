theorem hd_yX12_singer : yX12_singer.cls ≠ "java/lang/invoke/MethodHandle" ∧ yX12_singer.cls ≠ "java/lang/invoke/VarHandle" ∧ (parseMethodDescriptor yX12_singer.desc).map (fun d => d.parameters.length) = some 3 := by decide +kernel
theorem hd_yX13_singer : yX13_singer.cls ≠ "java/lang/invoke/MethodHandle" ∧ yX13_singer.cls ≠ "java/lang/invoke/VarHandle" ∧ (parseMethodDescriptor yX13_singer.desc).map (fun d => d.parameters.length) = some 3 := by decide +kernel
theorem hd_yX12_of : yX12_of.cls ≠ "java/lang/invoke/MethodHandle" ∧ yX12_of.cls ≠ "java/lang/invoke/VarHandle" ∧ (parseMethodDescriptor yX12_of.desc).map (fun d => d.parameters.length) = some 2 := by decide +kernel
theorem hd_yX13_of : yX13_of.cls ≠ "java/lang/invoke/MethodHandle" ∧ yX13_of.cls ≠ "java/lang/invoke/VarHandle" ∧ (parseMethodDescriptor yX13_of.desc).map (fun d => d.parameters.length) = some 2 := by decide +kernel
theorem hd_yX12_verse : yX12_verse.cls ≠ "java/lang/invoke/MethodHandle" ∧ yX12_verse.cls ≠ "java/lang/invoke/VarHandle" ∧ (parseMethodDescriptor yX12_verse.desc).map (fun d => d.parameters.length) = some 2 := by decide +kernel
theorem hd_yX13_verse : yX13_verse.cls ≠ "java/lang/invoke/MethodHandle" ∧ yX13_verse.cls ≠ "java/lang/invoke/VarHandle" ∧ (parseMethodDescriptor yX13_verse.desc).map (fun d => d.parameters.length) = some 2 := by decide +kernel
theorem hd_yX12_at : yX12_at.cls ≠ "java/lang/invoke/MethodHandle" ∧ yX12_at.cls ≠ "java/lang/invoke/VarHandle" ∧ (parseMethodDescriptor yX12_at.desc).map (fun d => d.parameters.length) = some 2 := by decide +kernel
theorem hd_yX13_at : yX13_at.cls ≠ "java/lang/invoke/MethodHandle" ∧ yX13_at.cls ≠ "java/lang/invoke/VarHandle" ∧ (parseMethodDescriptor yX13_at.desc).map (fun d => d.parameters.length) = some 2 := by decide +kernel
theorem hd_yX12_piece : yX12_piece.cls ≠ "java/lang/invoke/MethodHandle" ∧ yX12_piece.cls ≠ "java/lang/invoke/VarHandle" ∧ (parseMethodDescriptor yX12_piece.desc).map (fun d => d.parameters.length) = some 3 := by decide +kernel
theorem hd_yX13_piece : yX13_piece.cls ≠ "java/lang/invoke/MethodHandle" ∧ yX13_piece.cls ≠ "java/lang/invoke/VarHandle" ∧ (parseMethodDescriptor yX13_piece.desc).map (fun d => d.parameters.length) = some 3 := by decide +kernel
theorem hd_yX12_hears : yX12_hears.cls ≠ "java/lang/invoke/MethodHandle" ∧ yX12_hears.cls ≠ "java/lang/invoke/VarHandle" ∧ (parseMethodDescriptor yX12_hears.desc).map (fun d => d.parameters.length) = some 3 := by decide +kernel
theorem hd_yX13_hears : yX13_hears.cls ≠ "java/lang/invoke/MethodHandle" ∧ yX13_hears.cls ≠ "java/lang/invoke/VarHandle" ∧ (parseMethodDescriptor yX13_hears.desc).map (fun d => d.parameters.length) = some 3 := by decide +kernel
theorem hd_yX12_cows : yX12_cows.cls ≠ "java/lang/invoke/MethodHandle" ∧ yX12_cows.cls ≠ "java/lang/invoke/VarHandle" ∧ (parseMethodDescriptor yX12_cows.desc).map (fun d => d.parameters.length) = some 2 := by decide +kernel
theorem hd_yX13_cows : yX13_cows.cls ≠ "java/lang/invoke/MethodHandle" ∧ yX13_cows.cls ≠ "java/lang/invoke/VarHandle" ∧ (parseMethodDescriptor yX13_cows.desc).map (fun d => d.parameters.length) = some 2 := by decide +kernel
theorem hd_yX12_terms : yX12_terms.cls ≠ "java/lang/invoke/MethodHandle" ∧ yX12_terms.cls ≠ "java/lang/invoke/VarHandle" ∧ (parseMethodDescriptor yX12_terms.desc).map (fun d => d.parameters.length) = some 2 := by decide +kernel
theorem hd_yX13_terms : yX13_terms.cls ≠ "java/lang/invoke/MethodHandle" ∧ yX13_terms.cls ≠ "java/lang/invoke/VarHandle" ∧ (parseMethodDescriptor yX13_terms.desc).map (fun d => d.parameters.length) = some 2 := by decide +kernel
theorem hd_yX12_feed : yX12_feed.cls ≠ "java/lang/invoke/MethodHandle" ∧ yX12_feed.cls ≠ "java/lang/invoke/VarHandle" ∧ (parseMethodDescriptor yX12_feed.desc).map (fun d => d.parameters.length) = some 5 := by decide +kernel
theorem hd_yX13_feed : yX13_feed.cls ≠ "java/lang/invoke/MethodHandle" ∧ yX13_feed.cls ≠ "java/lang/invoke/VarHandle" ∧ (parseMethodDescriptor yX13_feed.desc).map (fun d => d.parameters.length) = some 5 := by decide +kernel
theorem hd_yX12_end : yX12_end.cls ≠ "java/lang/invoke/MethodHandle" ∧ yX12_end.cls ≠ "java/lang/invoke/VarHandle" ∧ (parseMethodDescriptor yX12_end.desc).map (fun d => d.parameters.length) = some 1 := by decide +kernel
theorem hd_yX13_end : yX13_end.cls ≠ "java/lang/invoke/MethodHandle" ∧ yX13_end.cls ≠ "java/lang/invoke/VarHandle" ∧ (parseMethodDescriptor yX13_end.desc).map (fun d => d.parameters.length) = some 1 := by decide +kernel
theorem hd_yX12_row : yX12_row.cls ≠ "java/lang/invoke/MethodHandle" ∧ yX12_row.cls ≠ "java/lang/invoke/VarHandle" ∧ (parseMethodDescriptor yX12_row.desc).map (fun d => d.parameters.length) = some 0 := by decide +kernel
theorem hd_yX13_row : yX13_row.cls ≠ "java/lang/invoke/MethodHandle" ∧ yX13_row.cls ≠ "java/lang/invoke/VarHandle" ∧ (parseMethodDescriptor yX13_row.desc).map (fun d => d.parameters.length) = some 0 := by decide +kernel
theorem hd_yX12_coughs : yX12_coughs.cls ≠ "java/lang/invoke/MethodHandle" ∧ yX12_coughs.cls ≠ "java/lang/invoke/VarHandle" ∧ (parseMethodDescriptor yX12_coughs.desc).map (fun d => d.parameters.length) = some 0 := by decide +kernel
theorem hd_yX13_coughs : yX13_coughs.cls ≠ "java/lang/invoke/MethodHandle" ∧ yX13_coughs.cls ≠ "java/lang/invoke/VarHandle" ∧ (parseMethodDescriptor yX13_coughs.desc).map (fun d => d.parameters.length) = some 0 := by decide +kernel
theorem hd_yX12_law : yX12_law.cls ≠ "java/lang/invoke/MethodHandle" ∧ yX12_law.cls ≠ "java/lang/invoke/VarHandle" ∧ (parseMethodDescriptor yX12_law.desc).map (fun d => d.parameters.length) = some 0 := by decide +kernel
theorem hd_yX13_law : yX13_law.cls ≠ "java/lang/invoke/MethodHandle" ∧ yX13_law.cls ≠ "java/lang/invoke/VarHandle" ∧ (parseMethodDescriptor yX13_law.desc).map (fun d => d.parameters.length) = some 0 := by decide +kernel
theorem hd_yX12_orders : yX12_orders.cls ≠ "java/lang/invoke/MethodHandle" ∧ yX12_orders.cls ≠ "java/lang/invoke/VarHandle" ∧ (parseMethodDescriptor yX12_orders.desc).map (fun d => d.parameters.length) = some 0 := by decide +kernel
theorem hd_yX13_orders : yX13_orders.cls ≠ "java/lang/invoke/MethodHandle" ∧ yX13_orders.cls ≠ "java/lang/invoke/VarHandle" ∧ (parseMethodDescriptor yX13_orders.desc).map (fun d => d.parameters.length) = some 0 := by decide +kernel
theorem hd_yX12_fault : yX12_fault.cls ≠ "java/lang/invoke/MethodHandle" ∧ yX12_fault.cls ≠ "java/lang/invoke/VarHandle" ∧ (parseMethodDescriptor yX12_fault.desc).map (fun d => d.parameters.length) = some 0 := by decide +kernel
theorem hd_yX13_fault : yX13_fault.cls ≠ "java/lang/invoke/MethodHandle" ∧ yX13_fault.cls ≠ "java/lang/invoke/VarHandle" ∧ (parseMethodDescriptor yX13_fault.desc).map (fun d => d.parameters.length) = some 0 := by decide +kernel
theorem hd_yX12_stopped : yX12_stopped.cls ≠ "java/lang/invoke/MethodHandle" ∧ yX12_stopped.cls ≠ "java/lang/invoke/VarHandle" ∧ (parseMethodDescriptor yX12_stopped.desc).map (fun d => d.parameters.length) = some 0 := by decide +kernel
theorem hd_yX13_stopped : yX13_stopped.cls ≠ "java/lang/invoke/MethodHandle" ∧ yX13_stopped.cls ≠ "java/lang/invoke/VarHandle" ∧ (parseMethodDescriptor yX13_stopped.desc).map (fun d => d.parameters.length) = some 0 := by decide +kernel
theorem hd_yX12_force : yX12_force.cls ≠ "java/lang/invoke/MethodHandle" ∧ yX12_force.cls ≠ "java/lang/invoke/VarHandle" ∧ (parseMethodDescriptor yX12_force.desc).map (fun d => d.parameters.length) = some 1 := by decide +kernel
theorem hd_yX13_force : yX13_force.cls ≠ "java/lang/invoke/MethodHandle" ∧ yX13_force.cls ≠ "java/lang/invoke/VarHandle" ∧ (parseMethodDescriptor yX13_force.desc).map (fun d => d.parameters.length) = some 1 := by decide +kernel
theorem hd_yX12_asks : yX12_asks.cls ≠ "java/lang/invoke/MethodHandle" ∧ yX12_asks.cls ≠ "java/lang/invoke/VarHandle" ∧ (parseMethodDescriptor yX12_asks.desc).map (fun d => d.parameters.length) = some 2 := by decide +kernel
theorem hd_yX13_asks : yX13_asks.cls ≠ "java/lang/invoke/MethodHandle" ∧ yX13_asks.cls ≠ "java/lang/invoke/VarHandle" ∧ (parseMethodDescriptor yX13_asks.desc).map (fun d => d.parameters.length) = some 2 := by decide +kernel
theorem hd_yX12_wakes : yX12_wakes.cls ≠ "java/lang/invoke/MethodHandle" ∧ yX12_wakes.cls ≠ "java/lang/invoke/VarHandle" ∧ (parseMethodDescriptor yX12_wakes.desc).map (fun d => d.parameters.length) = some 1 := by decide +kernel
theorem hd_yX13_wakes : yX13_wakes.cls ≠ "java/lang/invoke/MethodHandle" ∧ yX13_wakes.cls ≠ "java/lang/invoke/VarHandle" ∧ (parseMethodDescriptor yX13_wakes.desc).map (fun d => d.parameters.length) = some 1 := by decide +kernel
theorem hd_yX12_begin : yX12_begin.cls ≠ "java/lang/invoke/MethodHandle" ∧ yX12_begin.cls ≠ "java/lang/invoke/VarHandle" ∧ (parseMethodDescriptor yX12_begin.desc).map (fun d => d.parameters.length) = some 3 := by decide +kernel
theorem hd_yX13_begin : yX13_begin.cls ≠ "java/lang/invoke/MethodHandle" ∧ yX13_begin.cls ≠ "java/lang/invoke/VarHandle" ∧ (parseMethodDescriptor yX13_begin.desc).map (fun d => d.parameters.length) = some 3 := by decide +kernel
theorem hd_yX12_duel : yX12_duel.cls ≠ "java/lang/invoke/MethodHandle" ∧ yX12_duel.cls ≠ "java/lang/invoke/VarHandle" ∧ (parseMethodDescriptor yX12_duel.desc).map (fun d => d.parameters.length) = some 1 := by decide +kernel
theorem hd_yX13_duel : yX13_duel.cls ≠ "java/lang/invoke/MethodHandle" ∧ yX13_duel.cls ≠ "java/lang/invoke/VarHandle" ∧ (parseMethodDescriptor yX13_duel.desc).map (fun d => d.parameters.length) = some 1 := by decide +kernel
theorem hd_yX12_sing : yX12_sing.cls ≠ "java/lang/invoke/MethodHandle" ∧ yX12_sing.cls ≠ "java/lang/invoke/VarHandle" ∧ (parseMethodDescriptor yX12_sing.desc).map (fun d => d.parameters.length) = some 1 := by decide +kernel
theorem hd_yX13_sing : yX13_sing.cls ≠ "java/lang/invoke/MethodHandle" ∧ yX13_sing.cls ≠ "java/lang/invoke/VarHandle" ∧ (parseMethodDescriptor yX13_sing.desc).map (fun d => d.parameters.length) = some 1 := by decide +kernel
theorem hd_yX12_part : yX12_part.cls ≠ "java/lang/invoke/MethodHandle" ∧ yX12_part.cls ≠ "java/lang/invoke/VarHandle" ∧ (parseMethodDescriptor yX12_part.desc).map (fun d => d.parameters.length) = some 0 := by decide +kernel
theorem hd_yX13_part : yX13_part.cls ≠ "java/lang/invoke/MethodHandle" ∧ yX13_part.cls ≠ "java/lang/invoke/VarHandle" ∧ (parseMethodDescriptor yX13_part.desc).map (fun d => d.parameters.length) = some 0 := by decide +kernel
theorem hd_yX12_dawn : yX12_dawn.cls ≠ "java/lang/invoke/MethodHandle" ∧ yX12_dawn.cls ≠ "java/lang/invoke/VarHandle" ∧ (parseMethodDescriptor yX12_dawn.desc).map (fun d => d.parameters.length) = some 0 := by decide +kernel
theorem hd_yX13_dawn : yX13_dawn.cls ≠ "java/lang/invoke/MethodHandle" ∧ yX13_dawn.cls ≠ "java/lang/invoke/VarHandle" ∧ (parseMethodDescriptor yX13_dawn.desc).map (fun d => d.parameters.length) = some 0 := by decide +kernel
theorem hd_yX12_undo : yX12_undo.cls ≠ "java/lang/invoke/MethodHandle" ∧ yX12_undo.cls ≠ "java/lang/invoke/VarHandle" ∧ (parseMethodDescriptor yX12_undo.desc).map (fun d => d.parameters.length) = some 0 := by decide +kernel
theorem hd_yX13_undo : yX13_undo.cls ≠ "java/lang/invoke/MethodHandle" ∧ yX13_undo.cls ≠ "java/lang/invoke/VarHandle" ∧ (parseMethodDescriptor yX13_undo.desc).map (fun d => d.parameters.length) = some 0 := by decide +kernel
theorem hd_yX12_game : yX12_game.cls ≠ "java/lang/invoke/MethodHandle" ∧ yX12_game.cls ≠ "java/lang/invoke/VarHandle" ∧ (parseMethodDescriptor yX12_game.desc).map (fun d => d.parameters.length) = some 2 := by decide +kernel
theorem hd_yX13_game : yX13_game.cls ≠ "java/lang/invoke/MethodHandle" ∧ yX13_game.cls ≠ "java/lang/invoke/VarHandle" ∧ (parseMethodDescriptor yX13_game.desc).map (fun d => d.parameters.length) = some 2 := by decide +kernel
theorem hd_yX12_saddle : yX12_saddle.cls ≠ "java/lang/invoke/MethodHandle" ∧ yX12_saddle.cls ≠ "java/lang/invoke/VarHandle" ∧ (parseMethodDescriptor yX12_saddle.desc).map (fun d => d.parameters.length) = some 3 := by decide +kernel
theorem hd_yX13_saddle : yX13_saddle.cls ≠ "java/lang/invoke/MethodHandle" ∧ yX13_saddle.cls ≠ "java/lang/invoke/VarHandle" ∧ (parseMethodDescriptor yX13_saddle.desc).map (fun d => d.parameters.length) = some 3 := by decide +kernel
theorem hd_yX12_rule : yX12_rule.cls ≠ "java/lang/invoke/MethodHandle" ∧ yX12_rule.cls ≠ "java/lang/invoke/VarHandle" ∧ (parseMethodDescriptor yX12_rule.desc).map (fun d => d.parameters.length) = some 2 := by decide +kernel
theorem hd_yX13_rule : yX13_rule.cls ≠ "java/lang/invoke/MethodHandle" ∧ yX13_rule.cls ≠ "java/lang/invoke/VarHandle" ∧ (parseMethodDescriptor yX13_rule.desc).map (fun d => d.parameters.length) = some 2 := by decide +kernel
theorem hd_yX12_champions : yX12_champions.cls ≠ "java/lang/invoke/MethodHandle" ∧ yX12_champions.cls ≠ "java/lang/invoke/VarHandle" ∧ (parseMethodDescriptor yX12_champions.desc).map (fun d => d.parameters.length) = some 1 := by decide +kernel
theorem hd_yX13_champions : yX13_champions.cls ≠ "java/lang/invoke/MethodHandle" ∧ yX13_champions.cls ≠ "java/lang/invoke/VarHandle" ∧ (parseMethodDescriptor yX13_champions.desc).map (fun d => d.parameters.length) = some 1 := by decide +kernel
theorem hd_yX12_made : yX12_made.cls ≠ "java/lang/invoke/MethodHandle" ∧ yX12_made.cls ≠ "java/lang/invoke/VarHandle" ∧ (parseMethodDescriptor yX12_made.desc).map (fun d => d.parameters.length) = some 2 := by decide +kernel
theorem hd_yX13_made : yX13_made.cls ≠ "java/lang/invoke/MethodHandle" ∧ yX13_made.cls ≠ "java/lang/invoke/VarHandle" ∧ (parseMethodDescriptor yX13_made.desc).map (fun d => d.parameters.length) = some 2 := by decide +kernel
theorem hd_yX12_sight : yX12_sight.cls ≠ "java/lang/invoke/MethodHandle" ∧ yX12_sight.cls ≠ "java/lang/invoke/VarHandle" ∧ (parseMethodDescriptor yX12_sight.desc).map (fun d => d.parameters.length) = some 5 := by decide +kernel
theorem hd_yX13_sight : yX13_sight.cls ≠ "java/lang/invoke/MethodHandle" ∧ yX13_sight.cls ≠ "java/lang/invoke/VarHandle" ∧ (parseMethodDescriptor yX13_sight.desc).map (fun d => d.parameters.length) = some 5 := by decide +kernel
theorem hd_yX12_forget : yX12_forget.cls ≠ "java/lang/invoke/MethodHandle" ∧ yX12_forget.cls ≠ "java/lang/invoke/VarHandle" ∧ (parseMethodDescriptor yX12_forget.desc).map (fun d => d.parameters.length) = some 0 := by decide +kernel
theorem hd_yX13_forget : yX13_forget.cls ≠ "java/lang/invoke/MethodHandle" ∧ yX13_forget.cls ≠ "java/lang/invoke/VarHandle" ∧ (parseMethodDescriptor yX13_forget.desc).map (fun d => d.parameters.length) = some 0 := by decide +kernel
theorem hd_yX12_fits : yX12_fits.cls ≠ "java/lang/invoke/MethodHandle" ∧ yX12_fits.cls ≠ "java/lang/invoke/VarHandle" ∧ (parseMethodDescriptor yX12_fits.desc).map (fun d => d.parameters.length) = some 2 := by decide +kernel
theorem hd_yX13_fits : yX13_fits.cls ≠ "java/lang/invoke/MethodHandle" ∧ yX13_fits.cls ≠ "java/lang/invoke/VarHandle" ∧ (parseMethodDescriptor yX13_fits.desc).map (fun d => d.parameters.length) = some 2 := by decide +kernel
theorem hd_yX12_catching : yX12_catching.cls ≠ "java/lang/invoke/MethodHandle" ∧ yX12_catching.cls ≠ "java/lang/invoke/VarHandle" ∧ (parseMethodDescriptor yX12_catching.desc).map (fun d => d.parameters.length) = some 2 := by decide +kernel
theorem hd_yX13_catching : yX13_catching.cls ≠ "java/lang/invoke/MethodHandle" ∧ yX13_catching.cls ≠ "java/lang/invoke/VarHandle" ∧ (parseMethodDescriptor yX13_catching.desc).map (fun d => d.parameters.length) = some 2 := by decide +kernel
theorem hd_yX12_keep : yX12_keep.cls ≠ "java/lang/invoke/MethodHandle" ∧ yX12_keep.cls ≠ "java/lang/invoke/VarHandle" ∧ (parseMethodDescriptor yX12_keep.desc).map (fun d => d.parameters.length) = some 3 := by decide +kernel
theorem hd_yX13_keep : yX13_keep.cls ≠ "java/lang/invoke/MethodHandle" ∧ yX13_keep.cls ≠ "java/lang/invoke/VarHandle" ∧ (parseMethodDescriptor yX13_keep.desc).map (fun d => d.parameters.length) = some 3 := by decide +kernel
theorem hd_yX12_decade : yX12_decade.cls ≠ "java/lang/invoke/MethodHandle" ∧ yX12_decade.cls ≠ "java/lang/invoke/VarHandle" ∧ (parseMethodDescriptor yX12_decade.desc).map (fun d => d.parameters.length) = some 2 := by decide +kernel
theorem hd_yX13_decade : yX13_decade.cls ≠ "java/lang/invoke/MethodHandle" ∧ yX13_decade.cls ≠ "java/lang/invoke/VarHandle" ∧ (parseMethodDescriptor yX13_decade.desc).map (fun d => d.parameters.length) = some 2 := by decide +kernel
theorem hd_yX12_drawn : yX12_drawn.cls ≠ "java/lang/invoke/MethodHandle" ∧ yX12_drawn.cls ≠ "java/lang/invoke/VarHandle" ∧ (parseMethodDescriptor yX12_drawn.desc).map (fun d => d.parameters.length) = some 2 := by decide +kernel
theorem hd_yX13_drawn : yX13_drawn.cls ≠ "java/lang/invoke/MethodHandle" ∧ yX13_drawn.cls ≠ "java/lang/invoke/VarHandle" ∧ (parseMethodDescriptor yX13_drawn.desc).map (fun d => d.parameters.length) = some 2 := by decide +kernel
theorem hd_yX12_image : yX12_image.cls ≠ "java/lang/invoke/MethodHandle" ∧ yX12_image.cls ≠ "java/lang/invoke/VarHandle" ∧ (parseMethodDescriptor yX12_image.desc).map (fun d => d.parameters.length) = some 1 := by decide +kernel
theorem hd_yX13_image : yX13_image.cls ≠ "java/lang/invoke/MethodHandle" ∧ yX13_image.cls ≠ "java/lang/invoke/VarHandle" ∧ (parseMethodDescriptor yX13_image.desc).map (fun d => d.parameters.length) = some 1 := by decide +kernel
theorem hd_yX12_back : yX12_back.cls ≠ "java/lang/invoke/MethodHandle" ∧ yX12_back.cls ≠ "java/lang/invoke/VarHandle" ∧ (parseMethodDescriptor yX12_back.desc).map (fun d => d.parameters.length) = some 1 := by decide +kernel
theorem hd_yX13_back : yX13_back.cls ≠ "java/lang/invoke/MethodHandle" ∧ yX13_back.cls ≠ "java/lang/invoke/VarHandle" ∧ (parseMethodDescriptor yX13_back.desc).map (fun d => d.parameters.length) = some 1 := by decide +kernel
theorem hd_yX12_count : yX12_count.cls ≠ "java/lang/invoke/MethodHandle" ∧ yX12_count.cls ≠ "java/lang/invoke/VarHandle" ∧ (parseMethodDescriptor yX12_count.desc).map (fun d => d.parameters.length) = some 1 := by decide +kernel
theorem hd_yX13_count : yX13_count.cls ≠ "java/lang/invoke/MethodHandle" ∧ yX13_count.cls ≠ "java/lang/invoke/VarHandle" ∧ (parseMethodDescriptor yX13_count.desc).map (fun d => d.parameters.length) = some 1 := by decide +kernel
theorem hd_yX12_status : yX12_status.cls ≠ "java/lang/invoke/MethodHandle" ∧ yX12_status.cls ≠ "java/lang/invoke/VarHandle" ∧ (parseMethodDescriptor yX12_status.desc).map (fun d => d.parameters.length) = some 0 := by decide +kernel
theorem hd_yX13_status : yX13_status.cls ≠ "java/lang/invoke/MethodHandle" ∧ yX13_status.cls ≠ "java/lang/invoke/VarHandle" ∧ (parseMethodDescriptor yX13_status.desc).map (fun d => d.parameters.length) = some 0 := by decide +kernel
theorem hd_yX12_init : yX12_init.cls ≠ "java/lang/invoke/MethodHandle" ∧ yX12_init.cls ≠ "java/lang/invoke/VarHandle" ∧ (parseMethodDescriptor yX12_init.desc).map (fun d => d.parameters.length) = some 0 := by decide +kernel
theorem hd_yX13_init : yX13_init.cls ≠ "java/lang/invoke/MethodHandle" ∧ yX13_init.cls ≠ "java/lang/invoke/VarHandle" ∧ (parseMethodDescriptor yX13_init.desc).map (fun d => d.parameters.length) = some 0 := by decide +kernel
set_option maxHeartbeats 4000000 in
set_option maxRecDepth 100000 in
theorem k_X13_singer_x (l : Launch) (D : va_G) (cy : Nat → ClassId) (ld ad : Nat → Nat) (am : Nat) (hD : mz_D ad am) (Fa : Nat → Int32) (Ga : Nat → Int64) (Ra : Nat → Nat → Int32) (Sa : Nat → Nat → Int64) (p1 : Int32) (p2 : Int32) (p3 : Int32) (g0 : Int32) (hIF : mz_IF true Fa) (hIG : mz_IG Ga) (hIR : mz_IR [] true Ra) (hg_0 : Ra 3 0 = g0) : Met l yX13_singer (wl yX13_singer cX13_singer 6 (some .int)) ({ frames := 4, cells := 0, slots := 0, locals := 210 }) (mz_p D cy ld ad am Fa Ga Ra Sa [.ref am, .int p1, .int p2, .int p3]) (mz_i D cy ad am (fun r F G R S => mz_IF true F ∧ mz_IG G ∧ mz_IR [] true R ∧ (∀ k : Nat, k ∉ ([0, 1, 8] : List Nat) → F k = Fa k) ∧ (∀ k : Nat, k ∉ ([2, 3] : List Nat) → R k = Ra k) ∧ (∀ k : Nat, k ∉ ([] : List Nat) → G k = Ga k) ∧ (p1.toInt ≤ (-1) → r.toInt + 1 = 0) ∧ (1000 ≤ p1.toInt → r.toInt + 1 = 0) ∧ (p2.toInt ≤ (-1) → r.toInt + 1 = 0) ∧ (10 ≤ p2.toInt → r.toInt + 1 = 0) ∧ (p3.toInt ≤ (-1) → r.toInt + 1 = 0) ∧ (2 ≤ p3.toInt → r.toInt + 1 = 0) ∧ (0 ≤ p1.toInt → p1.toInt ≤ 999 → 0 ≤ p2.toInt → p2.toInt ≤ 9 → 0 ≤ p3.toInt → p3.toInt ≤ 1 → 8 ≤ g0.toInt → r.toInt + 5 = 0) ∧ (0 ≤ p1.toInt → p1.toInt ≤ 999 → 0 ≤ p2.toInt → p2.toInt ≤ 9 → 0 ≤ p3.toInt → p3.toInt ≤ 1 → g0.toInt ≤ 7 → (-1) * g0.toInt + r.toInt = 0) ∧ (-6) ≤ r.toInt ∧ r.toInt ≤ 8 ∧ jW r (∃ z : Int32, z.toInt = g0.toInt + 1 ∧ R 3 = upd (upd (upd (upd (upd (upd (upd (Ra 3) (18 + 5 * g0.toInt.toNat) p1) (19 + 5 * g0.toInt.toNat) p2) (20 + 5 * g0.toInt.toNat) p3) (21 + 5 * g0.toInt.toNat) 0) (22 + 5 * g0.toInt.toNat) 0) (108 + g0.toInt.toNat) 0) (0) z) (R 3 = Ra 3))) 0 0 (mz_W ad am) := by
  refine mz_met (y := yX13_singer) (cc := cX13_singer) (maxL := 6) (ret := (some .int)) (av := [.ref am, .int p1, .int p2, .int p3]) _ (by decide) (Nat.le_of_ble_eq_true rfl) ?_
  intro p e s m args below meth c hx hb hr hml hts htl hown hlocks hK H locs hM hS ls hl
  have hown : s.vm.findClass RX13 = some m.cls := hown
  have hl : lv_has ls 6 [(0, .ref am), (1, .int p1), (2, .int p2), (3, .int p3)] := hl
  have hr_p1 := tk_rng p1
  have hr_p2 := tk_rng p2
  have hr_p3 := tk_rng p3
  have hq_g0 := tk_rng g0
  have hr_g0 : 0 ≤ g0.toInt ∧ g0.toInt ≤ 8 := by have h9 := mz_r3c 0 (hIR.at 3) hg_0 (by decide); unfold mE at h9; omega
  refine lv_aload_n hx hb dX13_singer_0 rfl (lv_at hl 0 rfl) ?_
  refine lv_iconst (v := 0) hx hb dX13_singer_1 (by decide) ?_
  have hk_0 : (0 : Int32).toInt = 0 := by decide
  refine mz_putI (ty := .int) (x := 0) hx hb htl hown hK hD hM hS 0 (Nat.le_of_ble_eq_true rfl) rfl (htl _ mw_286) (fun _ h9 => h9) rfl (tyX13_ok 0 (by decide)) rfl rfl dX13_singer_2 (fun H locs F hM hS hf9 hj9 => ?_)
  have hIF := hIF.put hf9 hj9 (tk_rng _).1 (tk_rng _).2 (by decide)
  have hFF := mz_frp (K := [0, 1, 8]) (Fa := Fa) hj9 (fun _ _ => rfl) (by decide)
  have hf2 := hf9
  refine lv_iload_n hx hb dX13_singer_5 rfl (lv_at hl 1 rfl) ?_
  obtain ⟨w3, e_w3, h_w3⟩ : ∃ z : Int64, p1.toInt64 = z ∧ z.toInt = p1.toInt := ⟨_, rfl, fl_w _⟩
  refine lv_i2l (v := w3) hx hb dX13_singer_6 e_w3 ?_
  refine lv_lconst (v := 0) hx hb dX13_singer_7 (by decide) ?_
  refine lv_ldc2 hx hb hown (htl _ mw_287) dX13_singer_8 ?_
  have hk_0 : (0 : Int64).toInt = 0 := by decide
  have hk_999 : (999 : Int64).toInt = 999 := by decide
  refine mz_Sj (As := [.long w3, .long 0, .long 999]) (rest := []) ⟨hx, hb, hml, hown, hts⟩ hK hM hS (k_X13_in l D cy ld ad am hD _ _ _ _ w3 0 999) ⟨callB_of 3 hts (wl_in mw_292) rfl rfl rfl (htl _ mw_5) (htl _ mw_290) hd_yX13_in ⟨(Nat.le_of_ble_eq_true rfl), (Nat.le_of_ble_eq_true rfl)⟩, htl _ mw_291⟩ rfl hl.1 rfl (Nat.le_of_ble_eq_true rfl) dX13_singer_11 ⟨(Nat.le_of_ble_eq_true rfl), (Nat.le_of_ble_eq_true rfl)⟩ (fun v4 H locs hpo hM hS => ?_)
  obtain ⟨hpo5, hpo6, hpo10, hpo11, hpo12, hpo13⟩ := hpo
  have hq_v4 := tk_rng v4
  refine lv_if_eq (tgt := 39) hx hb dX13_singer_14 (by decide) (fun c9 => ?_) (fun c9 => ?_)
  · have hc15 : v4.toInt = 0 := (fi_eq rfl (show (0 : Int32).toInt = 0 by decide)).mp c9
    refine lv_aload_n hx hb dX13_singer_39 rfl (lv_at hl 0 rfl) ?_
    refine lv_iconst (v := (-1)) hx hb dX13_singer_40 (by decide) ?_
    have hk_m1 : ((-1) : Int32).toInt = (-1) := by decide
    refine mz_Vi (As := [.int (-1)]) (rest := []) ⟨hx, hb, hml, hown, hts⟩ hK hM hS (k_X13_tell l D cy ld ad am hD _ _ _ _ (-1) hIF hIG hIR (by omega) (by omega)) ⟨callB_of 1 hts (wl_in mw_296) rfl rfl rfl (htl _ mw_5) (htl _ mw_293) hd_yX13_tell ⟨(Nat.le_of_ble_eq_true rfl), (Nat.le_of_ble_eq_true rfl)⟩, htl _ mw_294, htl _ mw_295⟩ rfl hl.1 rfl (Nat.le_of_ble_eq_true rfl) dX13_singer_41 ⟨(Nat.le_of_ble_eq_true rfl), (Nat.le_of_ble_eq_true rfl)⟩ (fun v16 H locs F G R S hpo hM hS => ?_)
    obtain ⟨hIF, hIG, hIR, hfr9, hrr9, hgr9, hpo17⟩ := hpo
    have hq_v16 := tk_rng v16
    have hFF := mz_fr (K := [0, 1, 8]) (Fa := Fa) hfr9 hFF (by decide)
    have hRR := mz_fr (K := [2, 3]) (Fa := Ra) hrr9 (fun _ _ => rfl) (by decide)
    have hGG := mz_fr (K := []) (Fa := Ga) hgr9 (fun _ _ => rfl) (by decide)
    have hre_3 : R 3 = Ra 3 := (hrr9 3 (by decide)).trans (rfl : Ra 3 = Ra 3)
    have hg_0 : R 3 0 = _ := (congrFun (hrr9 3 (by decide)) 0).trans hg_0
    have hf2 := (hfr9 0 (by decide)).trans hf2
    exact mz_iret (v := v16) hx hb hr rfl hlocks ⟨hIF, hIG, hIR, hFF, hRR, hGG, (by omega), (by omega), (by omega), (by omega), (by omega), (by omega), (by omega), (by omega), (by omega), (by omega), ⟨(fun h9 => (show False by omega).elim), (fun _ => hre_3)⟩⟩ hM hS dX13_singer_44
  · have hc15 : ¬ (v4.toInt = 0) := fun h9 => c9 ((fi_eq rfl (show (0 : Int32).toInt = 0 by decide)).mpr h9)
    have hwk_19 : 0 ≤ w3.toInt ∧ w3.toInt ≤ 999 := by omega
    refine lv_iload_n hx hb dX13_singer_17 rfl (lv_at hl 2 rfl) ?_
    obtain ⟨w20, e_w20, h_w20⟩ : ∃ z : Int64, p2.toInt64 = z ∧ z.toInt = p2.toInt := ⟨_, rfl, fl_w _⟩
    refine lv_i2l (v := w20) hx hb dX13_singer_18 e_w20 ?_
    refine lv_lconst (v := 0) hx hb dX13_singer_19 (by decide) ?_
    refine lv_ldc2 hx hb hown (htl _ mw_288) dX13_singer_20 ?_
    have hk_0 : (0 : Int64).toInt = 0 := by decide
    have hk_9 : (9 : Int64).toInt = 9 := by decide
    refine mz_Sj (As := [.long w20, .long 0, .long 9]) (rest := []) ⟨hx, hb, hml, hown, hts⟩ hK hM hS (k_X13_in l D cy ld ad am hD _ _ _ _ w20 0 9) ⟨callB_of 3 hts (wl_in mw_292) rfl rfl rfl (htl _ mw_5) (htl _ mw_290) hd_yX13_in ⟨(Nat.le_of_ble_eq_true rfl), (Nat.le_of_ble_eq_true rfl)⟩, htl _ mw_291⟩ rfl hl.1 rfl (Nat.le_of_ble_eq_true rfl) dX13_singer_23 ⟨(Nat.le_of_ble_eq_true rfl), (Nat.le_of_ble_eq_true rfl)⟩ (fun v21 H locs hpo hM hS => ?_)
    obtain ⟨hpo22, hpo23, hpo24, hpo25, hpo26, hpo27⟩ := hpo
    have hq_v21 := tk_rng v21
    refine lv_if_eq (tgt := 39) hx hb dX13_singer_26 (by decide) (fun c9 => ?_) (fun c9 => ?_)
    · have hc29 : v21.toInt = 0 := (fi_eq rfl (show (0 : Int32).toInt = 0 by decide)).mp c9
      refine lv_aload_n hx hb dX13_singer_39 rfl (lv_at hl 0 rfl) ?_
      refine lv_iconst (v := (-1)) hx hb dX13_singer_40 (by decide) ?_
      have hk_m1 : ((-1) : Int32).toInt = (-1) := by decide
      refine mz_Vi (As := [.int (-1)]) (rest := []) ⟨hx, hb, hml, hown, hts⟩ hK hM hS (k_X13_tell l D cy ld ad am hD _ _ _ _ (-1) hIF hIG hIR (by omega) (by omega)) ⟨callB_of 1 hts (wl_in mw_296) rfl rfl rfl (htl _ mw_5) (htl _ mw_293) hd_yX13_tell ⟨(Nat.le_of_ble_eq_true rfl), (Nat.le_of_ble_eq_true rfl)⟩, htl _ mw_294, htl _ mw_295⟩ rfl hl.1 rfl (Nat.le_of_ble_eq_true rfl) dX13_singer_41 ⟨(Nat.le_of_ble_eq_true rfl), (Nat.le_of_ble_eq_true rfl)⟩ (fun v30 H locs F G R S hpo hM hS => ?_)
      obtain ⟨hIF, hIG, hIR, hfr9, hrr9, hgr9, hpo31⟩ := hpo
      have hq_v30 := tk_rng v30
      have hFF := mz_fr (K := [0, 1, 8]) (Fa := Fa) hfr9 hFF (by decide)
      have hRR := mz_fr (K := [2, 3]) (Fa := Ra) hrr9 (fun _ _ => rfl) (by decide)
      have hGG := mz_fr (K := []) (Fa := Ga) hgr9 (fun _ _ => rfl) (by decide)
      have hre_3 : R 3 = Ra 3 := (hrr9 3 (by decide)).trans (rfl : Ra 3 = Ra 3)
      have hg_0 : R 3 0 = _ := (congrFun (hrr9 3 (by decide)) 0).trans hg_0
      have hf2 := (hfr9 0 (by decide)).trans hf2
      exact mz_iret (v := v30) hx hb hr rfl hlocks ⟨hIF, hIG, hIR, hFF, hRR, hGG, (by omega), (by omega), (by omega), (by omega), (by omega), (by omega), (by omega), (by omega), (by omega), (by omega), ⟨(fun h9 => (show False by omega).elim), (fun _ => hre_3)⟩⟩ hM hS dX13_singer_44
    · have hc29 : ¬ (v21.toInt = 0) := fun h9 => c9 ((fi_eq rfl (show (0 : Int32).toInt = 0 by decide)).mpr h9)
      have hwk_33 : 0 ≤ w20.toInt ∧ w20.toInt ≤ 9 := by omega
      refine lv_iload_n hx hb dX13_singer_29 rfl (lv_at hl 3 rfl) ?_
      obtain ⟨w34, e_w34, h_w34⟩ : ∃ z : Int64, p3.toInt64 = z ∧ z.toInt = p3.toInt := ⟨_, rfl, fl_w _⟩
      refine lv_i2l (v := w34) hx hb dX13_singer_30 e_w34 ?_
      refine lv_lconst (v := 0) hx hb dX13_singer_31 (by decide) ?_
      refine lv_lconst (v := 1) hx hb dX13_singer_32 (by decide) ?_
      have hk_0 : (0 : Int64).toInt = 0 := by decide
      have hk_1 : (1 : Int64).toInt = 1 := by decide
      refine mz_Sj (As := [.long w34, .long 0, .long 1]) (rest := []) ⟨hx, hb, hml, hown, hts⟩ hK hM hS (k_X13_in l D cy ld ad am hD _ _ _ _ w34 0 1) ⟨callB_of 3 hts (wl_in mw_292) rfl rfl rfl (htl _ mw_5) (htl _ mw_290) hd_yX13_in ⟨(Nat.le_of_ble_eq_true rfl), (Nat.le_of_ble_eq_true rfl)⟩, htl _ mw_291⟩ rfl hl.1 rfl (Nat.le_of_ble_eq_true rfl) dX13_singer_33 ⟨(Nat.le_of_ble_eq_true rfl), (Nat.le_of_ble_eq_true rfl)⟩ (fun v35 H locs hpo hM hS => ?_)
      obtain ⟨hpo36, hpo37, hpo38, hpo39, hpo40, hpo41⟩ := hpo
      have hq_v35 := tk_rng v35
      refine lv_if_ne (tgt := 45) hx hb dX13_singer_36 (by decide) (fun c9 => ?_) (fun c9 => ?_)
      · have hc43 : ¬ (v35.toInt = 0) := fun h9 => c9 ((fi_eq rfl (show (0 : Int32).toInt = 0 by decide)).mpr h9)
        have hwk_44 : 0 ≤ w34.toInt ∧ w34.toInt ≤ 1 := by omega
        refine lv_aload_n hx hb dX13_singer_45 rfl (lv_at hl 0 rfl) ?_
        refine mz_getR hx hb htl hown hK hM 3 (Nat.le_of_ble_eq_true rfl) (Nat.le_of_ble_eq_true rfl) (htl _ mw_188) (fun _ h9 => h9) dX13_singer_46 ?_
        refine lv_iconst (v := 0) hx hb dX13_singer_49 (by decide) ?_
        refine mz_iald hx hb hK hM 3 (Nat.le_of_ble_eq_true rfl) rfl (nn := 5560) rfl (I := 0) (by decide) (by decide) (by decide) dX13_singer_50 (fun v9 e9 => ?_)
        refine fx_ti (v := g0) (e9.symm.trans (show Ra 3 (0 : Int32).toNatClampNeg = _ from hg_0)) ?_
        refine lv_istore (lv' := [(4, .int g0), (0, .ref am), (1, .int p1), (2, .int p2), (3, .int p3)]) hx hb dX13_singer_51 hl (by decide) rfl (fun ls hl => ?_)
        refine lv_iload hx hb dX13_singer_53 (lv_at hl 0 rfl) ?_
        refine lv_bipush (v := 8) hx hb dX13_singer_55 (by decide) ?_
        refine lv_icmp_ne (tgt := 67) hx hb dX13_singer_57 (by decide) (fun c9 => ?_) (fun c9 => ?_)
        · have hc45 : ¬ (g0.toInt = 8) := fun h9 => c9 ((fi_eq rfl (show (8 : Int32).toInt = 8 by decide)).mpr h9)
          refine lv_bipush (v := 18) hx hb dX13_singer_67 (by decide) ?_
          refine lv_iconst (v := 5) hx hb dX13_singer_69 (by decide) ?_
          refine lv_iload hx hb dX13_singer_70 (lv_at hl 0 rfl) ?_
          refine lv_imul hx hb dX13_singer_72 ?_
          refine tk_mul (show (5 : Int32).toInt = 5 by decide) rfl (by omega) (by omega) (fun v46 h_v46 => ?_)
          refine lv_iadd hx hb dX13_singer_73 ?_
          refine tk_add (show (18 : Int32).toInt = 18 by decide) rfl (by omega) (by omega) (fun v47 h_v47 => ?_)
          refine lv_istore (lv' := [(5, .int v47), (4, .int g0), (0, .ref am), (1, .int p1), (2, .int p2), (3, .int p3)]) hx hb dX13_singer_74 hl (by decide) rfl (fun ls hl => ?_)
          refine lv_aload_n hx hb dX13_singer_76 rfl (lv_at hl 2 rfl) ?_
          refine mz_getR hx hb htl hown hK hM 3 (Nat.le_of_ble_eq_true rfl) (Nat.le_of_ble_eq_true rfl) (htl _ mw_188) (fun _ h9 => h9) dX13_singer_77 ?_
          refine lv_iload hx hb dX13_singer_80 (lv_at hl 0 rfl) ?_
          refine lv_iload_n hx hb dX13_singer_82 rfl (lv_at hl 3 rfl) ?_
          refine mz_iast (x := p1) hx hb hK hD hM hS 3 (Nat.le_of_ble_eq_true rfl) rfl (nn := 5560) rfl rfl (by omega) (by omega) dX13_singer_83 (fun H locs R hM hS hw9 hj9 => ?_)
          have hIR := hIR.put hw9 hj9 (mz_r3 (hIR.at 3) (I := v47.toInt) rfl (by omega) (by omega) (fun h9 => by first | (cases h9; done) | omega) (by unfold mE; omega))
          have hRR := mz_frp (K := [2, 3]) (Fa := Ra) hj9 (fun _ _ => rfl) (by decide)
          have hre_3 : R 3 = upd (Ra 3) (v47 : Int32).toNatClampNeg p1 := hw9.trans (congrArg (fun f => upd f (v47 : Int32).toNatClampNeg p1) (rfl : Ra 3 = Ra 3))
          have hg_0 : R 3 0 = _ := (congrFun hw9 0).trans ((pk_un (fun h9 => by have h8 := tk_nat (i := v47) rfl (by omega); omega)).trans hg_0)
          refine lv_aload_n hx hb dX13_singer_84 rfl (lv_at hl 2 rfl) ?_
          refine mz_getR hx hb htl hown hK hM 3 (Nat.le_of_ble_eq_true rfl) (Nat.le_of_ble_eq_true rfl) (htl _ mw_188) (fun _ h9 => h9) dX13_singer_85 ?_
          refine lv_iload hx hb dX13_singer_88 (lv_at hl 0 rfl) ?_
          refine lv_iconst (v := 1) hx hb dX13_singer_90 (by decide) ?_
          refine lv_iadd hx hb dX13_singer_91 ?_
          refine tk_add rfl (show (1 : Int32).toInt = 1 by decide) (by omega) (by omega) (fun v49 h_v49 => ?_)
          refine lv_iload_n hx hb dX13_singer_92 rfl (lv_at hl 4 rfl) ?_
          refine mz_iast (x := p2) hx hb hK hD hM hS 3 (Nat.le_of_ble_eq_true rfl) rfl (nn := 5560) rfl rfl (by omega) (by omega) dX13_singer_93 (fun H locs R hM hS hw9 hj9 => ?_)
          have hIR := hIR.put hw9 hj9 (mz_r3 (hIR.at 3) (I := v49.toInt) rfl (by omega) (by omega) (fun h9 => by first | (cases h9; done) | omega) (by unfold mE; omega))
          have hRR := mz_frp (K := [2, 3]) (Fa := Ra) hj9 hRR (by decide)
          have hre_3 : R 3 = upd (upd (Ra 3) (v47 : Int32).toNatClampNeg p1) (v49 : Int32).toNatClampNeg p2 := hw9.trans (congrArg (fun f => upd f (v49 : Int32).toNatClampNeg p2) hre_3)
          have hg_0 : R 3 0 = _ := (congrFun hw9 0).trans ((pk_un (fun h9 => by have h8 := tk_nat (i := v49) rfl (by omega); omega)).trans hg_0)
          refine lv_aload_n hx hb dX13_singer_94 rfl (lv_at hl 2 rfl) ?_
          refine mz_getR hx hb htl hown hK hM 3 (Nat.le_of_ble_eq_true rfl) (Nat.le_of_ble_eq_true rfl) (htl _ mw_188) (fun _ h9 => h9) dX13_singer_95 ?_
          refine lv_iload hx hb dX13_singer_98 (lv_at hl 0 rfl) ?_
          refine lv_iconst (v := 2) hx hb dX13_singer_100 (by decide) ?_
          refine lv_iadd hx hb dX13_singer_101 ?_
          refine tk_add rfl (show (2 : Int32).toInt = 2 by decide) (by omega) (by omega) (fun v51 h_v51 => ?_)
          refine lv_iload_n hx hb dX13_singer_102 rfl (lv_at hl 5 rfl) ?_
          refine mz_iast (x := p3) hx hb hK hD hM hS 3 (Nat.le_of_ble_eq_true rfl) rfl (nn := 5560) rfl rfl (by omega) (by omega) dX13_singer_103 (fun H locs R hM hS hw9 hj9 => ?_)
          have hIR := hIR.put hw9 hj9 (mz_r3 (hIR.at 3) (I := v51.toInt) rfl (by omega) (by omega) (fun h9 => by first | (cases h9; done) | omega) (by unfold mE; omega))
          have hRR := mz_frp (K := [2, 3]) (Fa := Ra) hj9 hRR (by decide)
          have hre_3 : R 3 = upd (upd (upd (Ra 3) (v47 : Int32).toNatClampNeg p1) (v49 : Int32).toNatClampNeg p2) (v51 : Int32).toNatClampNeg p3 := hw9.trans (congrArg (fun f => upd f (v51 : Int32).toNatClampNeg p3) hre_3)
          have hg_0 : R 3 0 = _ := (congrFun hw9 0).trans ((pk_un (fun h9 => by have h8 := tk_nat (i := v51) rfl (by omega); omega)).trans hg_0)
          refine lv_aload_n hx hb dX13_singer_104 rfl (lv_at hl 2 rfl) ?_
          refine mz_getR hx hb htl hown hK hM 3 (Nat.le_of_ble_eq_true rfl) (Nat.le_of_ble_eq_true rfl) (htl _ mw_188) (fun _ h9 => h9) dX13_singer_105 ?_
          refine lv_iload hx hb dX13_singer_108 (lv_at hl 0 rfl) ?_
          refine lv_iconst (v := 3) hx hb dX13_singer_110 (by decide) ?_
          refine lv_iadd hx hb dX13_singer_111 ?_
          refine tk_add rfl (show (3 : Int32).toInt = 3 by decide) (by omega) (by omega) (fun v53 h_v53 => ?_)
          refine lv_iconst (v := 0) hx hb dX13_singer_112 (by decide) ?_
          have hk_0 : (0 : Int32).toInt = 0 := by decide
          refine mz_iast (x := 0) hx hb hK hD hM hS 3 (Nat.le_of_ble_eq_true rfl) rfl (nn := 5560) rfl rfl (by omega) (by omega) dX13_singer_113 (fun H locs R hM hS hw9 hj9 => ?_)
          have hIR := hIR.put hw9 hj9 (mz_r3 (hIR.at 3) (I := v53.toInt) rfl (by omega) (by omega) (fun h9 => by first | (cases h9; done) | omega) (by unfold mE; omega))
          have hRR := mz_frp (K := [2, 3]) (Fa := Ra) hj9 hRR (by decide)
          have hre_3 : R 3 = upd (upd (upd (upd (Ra 3) (v47 : Int32).toNatClampNeg p1) (v49 : Int32).toNatClampNeg p2) (v51 : Int32).toNatClampNeg p3) (v53 : Int32).toNatClampNeg 0 := hw9.trans (congrArg (fun f => upd f (v53 : Int32).toNatClampNeg 0) hre_3)
          have hg_0 : R 3 0 = _ := (congrFun hw9 0).trans ((pk_un (fun h9 => by have h8 := tk_nat (i := v53) rfl (by omega); omega)).trans hg_0)
          refine lv_aload_n hx hb dX13_singer_114 rfl (lv_at hl 2 rfl) ?_
          refine mz_getR hx hb htl hown hK hM 3 (Nat.le_of_ble_eq_true rfl) (Nat.le_of_ble_eq_true rfl) (htl _ mw_188) (fun _ h9 => h9) dX13_singer_115 ?_
          refine lv_iload hx hb dX13_singer_118 (lv_at hl 0 rfl) ?_
          refine lv_iconst (v := 4) hx hb dX13_singer_120 (by decide) ?_
          refine lv_iadd hx hb dX13_singer_121 ?_
          refine tk_add rfl (show (4 : Int32).toInt = 4 by decide) (by omega) (by omega) (fun v55 h_v55 => ?_)
          refine lv_iconst (v := 0) hx hb dX13_singer_122 (by decide) ?_
          have hk_0 : (0 : Int32).toInt = 0 := by decide
          refine mz_iast (x := 0) hx hb hK hD hM hS 3 (Nat.le_of_ble_eq_true rfl) rfl (nn := 5560) rfl rfl (by omega) (by omega) dX13_singer_123 (fun H locs R hM hS hw9 hj9 => ?_)
          have hIR := hIR.put hw9 hj9 (mz_r3 (hIR.at 3) (I := v55.toInt) rfl (by omega) (by omega) (fun h9 => by first | (cases h9; done) | omega) (by unfold mE; omega))
          have hRR := mz_frp (K := [2, 3]) (Fa := Ra) hj9 hRR (by decide)
          have hre_3 : R 3 = upd (upd (upd (upd (upd (Ra 3) (v47 : Int32).toNatClampNeg p1) (v49 : Int32).toNatClampNeg p2) (v51 : Int32).toNatClampNeg p3) (v53 : Int32).toNatClampNeg 0) (v55 : Int32).toNatClampNeg 0 := hw9.trans (congrArg (fun f => upd f (v55 : Int32).toNatClampNeg 0) hre_3)
          have hg_0 : R 3 0 = _ := (congrFun hw9 0).trans ((pk_un (fun h9 => by have h8 := tk_nat (i := v55) rfl (by omega); omega)).trans hg_0)
          refine lv_aload_n hx hb dX13_singer_124 rfl (lv_at hl 2 rfl) ?_
          refine mz_getR hx hb htl hown hK hM 3 (Nat.le_of_ble_eq_true rfl) (Nat.le_of_ble_eq_true rfl) (htl _ mw_188) (fun _ h9 => h9) dX13_singer_125 ?_
          refine lv_bipush (v := 108) hx hb dX13_singer_128 (by decide) ?_
          refine lv_iload hx hb dX13_singer_130 (lv_at hl 1 rfl) ?_
          refine lv_iadd hx hb dX13_singer_132 ?_
          refine tk_add (show (108 : Int32).toInt = 108 by decide) rfl (by omega) (by omega) (fun v57 h_v57 => ?_)
          refine lv_iconst (v := 0) hx hb dX13_singer_133 (by decide) ?_
          have hk_0 : (0 : Int32).toInt = 0 := by decide
          refine mz_iast (x := 0) hx hb hK hD hM hS 3 (Nat.le_of_ble_eq_true rfl) rfl (nn := 5560) rfl rfl (by omega) (by omega) dX13_singer_134 (fun H locs R hM hS hw9 hj9 => ?_)
          have hIR := hIR.put hw9 hj9 (mz_r3 (hIR.at 3) (I := v57.toInt) rfl (by omega) (by omega) (fun h9 => by first | (cases h9; done) | omega) (by unfold mE; omega))
          have hRR := mz_frp (K := [2, 3]) (Fa := Ra) hj9 hRR (by decide)
          have hre_3 : R 3 = upd (upd (upd (upd (upd (upd (Ra 3) (v47 : Int32).toNatClampNeg p1) (v49 : Int32).toNatClampNeg p2) (v51 : Int32).toNatClampNeg p3) (v53 : Int32).toNatClampNeg 0) (v55 : Int32).toNatClampNeg 0) (v57 : Int32).toNatClampNeg 0 := hw9.trans (congrArg (fun f => upd f (v57 : Int32).toNatClampNeg 0) hre_3)
          have hg_0 : R 3 0 = _ := (congrFun hw9 0).trans ((pk_un (fun h9 => by have h8 := tk_nat (i := v57) rfl (by omega); omega)).trans hg_0)
          refine lv_aload_n hx hb dX13_singer_135 rfl (lv_at hl 2 rfl) ?_
          refine mz_getR hx hb htl hown hK hM 3 (Nat.le_of_ble_eq_true rfl) (Nat.le_of_ble_eq_true rfl) (htl _ mw_188) (fun _ h9 => h9) dX13_singer_136 ?_
          refine lv_iconst (v := 0) hx hb dX13_singer_139 (by decide) ?_
          refine lv_dup2_11 hx hb dX13_singer_140 rfl rfl ?_
          refine mz_iald hx hb hK hM 3 (Nat.le_of_ble_eq_true rfl) rfl (nn := 5560) rfl (I := 0) (by decide) (by decide) (by decide) dX13_singer_141 (fun v9 e9 => ?_)
          refine fx_ti (v := g0) (e9.symm.trans (show R 3 (0 : Int32).toNatClampNeg = _ from hg_0)) ?_
          refine lv_iconst (v := 1) hx hb dX13_singer_142 (by decide) ?_
          refine lv_iadd hx hb dX13_singer_143 ?_
          refine tk_add rfl (show (1 : Int32).toInt = 1 by decide) (by omega) (by omega) (fun v59 h_v59 => ?_)
          have hk_0 : (0 : Int32).toInt = 0 := by decide
          refine mz_iast (x := v59) hx hb hK hD hM hS 3 (Nat.le_of_ble_eq_true rfl) rfl (nn := 5560) rfl (I := 0) (by decide) (by decide) (by decide) dX13_singer_144 (fun H locs R hM hS hw9 hj9 => ?_)
          have hIR := hIR.put hw9 hj9 (mz_r3 (hIR.at 3) (I := 0) (by decide) (by omega) (by omega) (fun h9 => by first | (cases h9; done) | omega) (by unfold mE; omega))
          have hRR := mz_frp (K := [2, 3]) (Fa := Ra) hj9 hRR (by decide)
          have hre_3 : R 3 = upd (upd (upd (upd (upd (upd (upd (Ra 3) (v47 : Int32).toNatClampNeg p1) (v49 : Int32).toNatClampNeg p2) (v51 : Int32).toNatClampNeg p3) (v53 : Int32).toNatClampNeg 0) (v55 : Int32).toNatClampNeg 0) (v57 : Int32).toNatClampNeg 0) (0 : Int32).toNatClampNeg v59 := hw9.trans (congrArg (fun f => upd f (0 : Int32).toNatClampNeg v59) hre_3)
          have hf61 : R 3 0 = v59 := (congrFun hw9 0).trans pk_us
          refine lv_aload_n hx hb dX13_singer_145 rfl (lv_at hl 2 rfl) ?_
          refine lv_iconst (v := 0) hx hb dX13_singer_146 (by decide) ?_
          have hk_0 : (0 : Int32).toInt = 0 := by decide
          have hk_0 : (0 : Int32).toInt = 0 := by decide
          refine mz_putI (ty := .int) (x := 0) hx hb htl hown hK hD hM hS 8 (Nat.le_of_ble_eq_true rfl) rfl (htl _ mw_289) (fun _ h9 => h9) rfl (tyX13_ok 8 (by decide)) rfl rfl dX13_singer_147 (fun H locs F hM hS hf9 hj9 => ?_)
          have hIF := hIF.put hf9 hj9 (show 0 ≤ (0 : Int32).toInt by omega) (show (0 : Int32).toInt ≤ 16 by omega) (by decide)
          have hFF := mz_frp (K := [0, 1, 8]) (Fa := Fa) hj9 hFF (by decide)
          have hf2 := (hj9 0 (by decide)).trans hf2
          have hf63 := hf9
          refine lv_aload_n hx hb dX13_singer_150 rfl (lv_at hl 2 rfl) ?_
          refine lv_iload hx hb dX13_singer_151 (lv_at hl 1 rfl) ?_
          refine mz_Vi (As := [.int g0]) (rest := []) ⟨hx, hb, hml, hown, hts⟩ hK hM hS (k_X13_tell l D cy ld ad am hD _ _ _ _ g0 hIF hIG hIR (by omega) (by omega)) ⟨callB_of 1 hts (wl_in mw_296) rfl rfl rfl (htl _ mw_5) (htl _ mw_293) hd_yX13_tell ⟨(Nat.le_of_ble_eq_true rfl), (Nat.le_of_ble_eq_true rfl)⟩, htl _ mw_294, htl _ mw_295⟩ rfl hl.1 rfl (Nat.le_of_ble_eq_true rfl) dX13_singer_153 ⟨(Nat.le_of_ble_eq_true rfl), (Nat.le_of_ble_eq_true rfl)⟩ (fun v64 H locs F G R S hpo hM hS => ?_)
          obtain ⟨hIF, hIG, hIR, hfr9, hrr9, hgr9, hpo65⟩ := hpo
          have hq_v64 := tk_rng v64
          have hFF := mz_fr (K := [0, 1, 8]) (Fa := Fa) hfr9 hFF (by decide)
          have hRR := mz_fr (K := [2, 3]) (Fa := Ra) hrr9 hRR (by decide)
          have hGG := mz_fr (K := []) (Fa := Ga) hgr9 (fun _ _ => rfl) (by decide)
          have hre_3 : R 3 = upd (upd (upd (upd (upd (upd (upd (Ra 3) (v47 : Int32).toNatClampNeg p1) (v49 : Int32).toNatClampNeg p2) (v51 : Int32).toNatClampNeg p3) (v53 : Int32).toNatClampNeg 0) (v55 : Int32).toNatClampNeg 0) (v57 : Int32).toNatClampNeg 0) (0 : Int32).toNatClampNeg v59 := (hrr9 3 (by decide)).trans hre_3
          have hf2 := (hfr9 0 (by decide)).trans hf2
          have hf61 : R 3 0 = _ := (congrFun (hrr9 3 (by decide)) 0).trans hf61
          have hf63 := (hfr9 8 (by decide)).trans hf63
          exact mz_iret (v := v64) hx hb hr rfl hlocks ⟨hIF, hIG, hIR, hFF, hRR, hGG, (by omega), (by omega), (by omega), (by omega), (by omega), (by omega), (by omega), (by omega), (by omega), (by omega), ⟨(fun _ => ⟨v59, by omega, hre_3.trans (by rw [show (v47 : Int32).toNatClampNeg = 18 + 5 * g0.toInt.toNat by show v47.toInt.toNat = _; omega, show (v49 : Int32).toNatClampNeg = 19 + 5 * g0.toInt.toNat by show v49.toInt.toNat = _; omega, show (v51 : Int32).toNatClampNeg = 20 + 5 * g0.toInt.toNat by show v51.toInt.toNat = _; omega, show (v53 : Int32).toNatClampNeg = 21 + 5 * g0.toInt.toNat by show v53.toInt.toNat = _; omega, show (v55 : Int32).toNatClampNeg = 22 + 5 * g0.toInt.toNat by show v55.toInt.toNat = _; omega, show (v57 : Int32).toNatClampNeg = 108 + g0.toInt.toNat by show v57.toInt.toNat = _; omega, show (0 : Int32).toNatClampNeg = 0 by decide])⟩), (fun h9 => (show False by omega).elim)⟩⟩ hM hS dX13_singer_156
        · have hc45 : g0.toInt = 8 := (fi_eq rfl (show (8 : Int32).toInt = 8 by decide)).mp c9
          refine lv_aload_n hx hb dX13_singer_60 rfl (lv_at hl 1 rfl) ?_
          refine lv_bipush (v := (-5)) hx hb dX13_singer_61 (by decide) ?_
          have hk_m5 : ((-5) : Int32).toInt = (-5) := by decide
          refine mz_Vi (As := [.int (-5)]) (rest := []) ⟨hx, hb, hml, hown, hts⟩ hK hM hS (k_X13_tell l D cy ld ad am hD _ _ _ _ (-5) hIF hIG hIR (by omega) (by omega)) ⟨callB_of 1 hts (wl_in mw_296) rfl rfl rfl (htl _ mw_5) (htl _ mw_293) hd_yX13_tell ⟨(Nat.le_of_ble_eq_true rfl), (Nat.le_of_ble_eq_true rfl)⟩, htl _ mw_294, htl _ mw_295⟩ rfl hl.1 rfl (Nat.le_of_ble_eq_true rfl) dX13_singer_63 ⟨(Nat.le_of_ble_eq_true rfl), (Nat.le_of_ble_eq_true rfl)⟩ (fun v67 H locs F G R S hpo hM hS => ?_)
          obtain ⟨hIF, hIG, hIR, hfr9, hrr9, hgr9, hpo68⟩ := hpo
          have hq_v67 := tk_rng v67
          have hFF := mz_fr (K := [0, 1, 8]) (Fa := Fa) hfr9 hFF (by decide)
          have hRR := mz_fr (K := [2, 3]) (Fa := Ra) hrr9 (fun _ _ => rfl) (by decide)
          have hGG := mz_fr (K := []) (Fa := Ga) hgr9 (fun _ _ => rfl) (by decide)
          have hre_3 : R 3 = Ra 3 := (hrr9 3 (by decide)).trans (rfl : Ra 3 = Ra 3)
          have hg_0 : R 3 0 = _ := (congrFun (hrr9 3 (by decide)) 0).trans hg_0
          have hf2 := (hfr9 0 (by decide)).trans hf2
          exact mz_iret (v := v67) hx hb hr rfl hlocks ⟨hIF, hIG, hIR, hFF, hRR, hGG, (by omega), (by omega), (by omega), (by omega), (by omega), (by omega), (by omega), (by omega), (by omega), (by omega), ⟨(fun h9 => (show False by omega).elim), (fun _ => hre_3)⟩⟩ hM hS dX13_singer_66
      · have hc43 : v35.toInt = 0 := (fi_eq rfl (show (0 : Int32).toInt = 0 by decide)).mp c9
        refine lv_aload_n hx hb dX13_singer_39 rfl (lv_at hl 0 rfl) ?_
        refine lv_iconst (v := (-1)) hx hb dX13_singer_40 (by decide) ?_
        have hk_m1 : ((-1) : Int32).toInt = (-1) := by decide
        refine mz_Vi (As := [.int (-1)]) (rest := []) ⟨hx, hb, hml, hown, hts⟩ hK hM hS (k_X13_tell l D cy ld ad am hD _ _ _ _ (-1) hIF hIG hIR (by omega) (by omega)) ⟨callB_of 1 hts (wl_in mw_296) rfl rfl rfl (htl _ mw_5) (htl _ mw_293) hd_yX13_tell ⟨(Nat.le_of_ble_eq_true rfl), (Nat.le_of_ble_eq_true rfl)⟩, htl _ mw_294, htl _ mw_295⟩ rfl hl.1 rfl (Nat.le_of_ble_eq_true rfl) dX13_singer_41 ⟨(Nat.le_of_ble_eq_true rfl), (Nat.le_of_ble_eq_true rfl)⟩ (fun v70 H locs F G R S hpo hM hS => ?_)
        obtain ⟨hIF, hIG, hIR, hfr9, hrr9, hgr9, hpo71⟩ := hpo
        have hq_v70 := tk_rng v70
        have hFF := mz_fr (K := [0, 1, 8]) (Fa := Fa) hfr9 hFF (by decide)
        have hRR := mz_fr (K := [2, 3]) (Fa := Ra) hrr9 (fun _ _ => rfl) (by decide)
        have hGG := mz_fr (K := []) (Fa := Ga) hgr9 (fun _ _ => rfl) (by decide)
        have hre_3 : R 3 = Ra 3 := (hrr9 3 (by decide)).trans (rfl : Ra 3 = Ra 3)
        have hg_0 : R 3 0 = _ := (congrFun (hrr9 3 (by decide)) 0).trans hg_0
        have hf2 := (hfr9 0 (by decide)).trans hf2
        exact mz_iret (v := v70) hx hb hr rfl hlocks ⟨hIF, hIG, hIR, hFF, hRR, hGG, (by omega), (by omega), (by omega), (by omega), (by omega), (by omega), (by omega), (by omega), (by omega), (by omega), ⟨(fun h9 => (show False by omega).elim), (fun _ => hre_3)⟩⟩ hM hS dX13_singer_44
set_option maxHeartbeats 4000000 in
set_option maxRecDepth 100000 in
theorem k_X13_verse1_x (l : Launch) (D : va_G) (cy : Nat → ClassId) (ld ad : Nat → Nat) (am : Nat) (hD : mz_D ad am) (Fa : Nat → Int32) (Ga : Nat → Int64) (Ra : Nat → Nat → Int32) (Sa : Nat → Nat → Int64) (p1 : Int32) (p2 : Int32) (g1 : Int32) (hIF : mz_IF true Fa) (hIG : mz_IG Ga) (hIR : mz_IR [] true Ra) (hg_0 : Ra 3 1 = g1) : Met l yX13_verse1 (wl yX13_verse1 cX13_verse1 4 (some .int)) ({ frames := 4, cells := 0, slots := 0, locals := 210 }) (mz_p D cy ld ad am Fa Ga Ra Sa [.ref am, .int p1, .int p2]) (mz_i D cy ad am (fun r F G R S => mz_IF true F ∧ mz_IG G ∧ mz_IR [] true R ∧ (∀ k : Nat, k ∉ ([] : List Nat) → F k = Fa k) ∧ (∀ k : Nat, k ∉ ([3] : List Nat) → R k = Ra k) ∧ (∀ k : Nat, k ∉ ([] : List Nat) → G k = Ga k) ∧ (p1.toInt ≤ 0 → r.toInt + 1 = 0) ∧ (100 ≤ p1.toInt → r.toInt + 1 = 0) ∧ (p2.toInt ≤ (-1) → r.toInt + 1 = 0) ∧ (5 ≤ p2.toInt → r.toInt + 1 = 0) ∧ (1 ≤ p1.toInt → p1.toInt ≤ 99 → 0 ≤ p2.toInt → p2.toInt ≤ 4 → 10 ≤ g1.toInt → r.toInt + 5 = 0) ∧ (1 ≤ p1.toInt → p1.toInt ≤ 99 → 0 ≤ p2.toInt → p2.toInt ≤ 4 → g1.toInt ≤ 9 → (-1) * g1.toInt + r.toInt = 0) ∧ (-6) ≤ r.toInt ∧ r.toInt ≤ 10 ∧ jW r (∃ z : Int32, z.toInt = g1.toInt + 1 ∧ R 3 = upd (upd (upd (Ra 3) (58 + 2 * g1.toInt.toNat) p1) (59 + 2 * g1.toInt.toNat) p2) (1) z) (R 3 = Ra 3))) 0 0 (mz_W ad am) := by
  refine mz_met (y := yX13_verse1) (cc := cX13_verse1) (maxL := 4) (ret := (some .int)) (av := [.ref am, .int p1, .int p2]) _ (by decide) (Nat.le_of_ble_eq_true rfl) ?_
  intro p e s m args below meth c hx hb hr hml hts htl hown hlocks hK H locs hM hS ls hl
  have hown : s.vm.findClass RX13 = some m.cls := hown
  have hl : lv_has ls 4 [(0, .ref am), (1, .int p1), (2, .int p2)] := hl
  have hr_p1 := tk_rng p1
  have hr_p2 := tk_rng p2
  have hq_g1 := tk_rng g1
  have hr_g1 : 0 ≤ g1.toInt ∧ g1.toInt ≤ 10 := by have h9 := mz_r3c 1 (hIR.at 3) hg_0 (by decide); unfold mE at h9; omega
  refine lv_iload_n hx hb dX13_verse1_0 rfl (lv_at hl 1 rfl) ?_
  obtain ⟨w1, e_w1, h_w1⟩ : ∃ z : Int64, p1.toInt64 = z ∧ z.toInt = p1.toInt := ⟨_, rfl, fl_w _⟩
  refine lv_i2l (v := w1) hx hb dX13_verse1_1 e_w1 ?_
  refine lv_lconst (v := 1) hx hb dX13_verse1_2 (by decide) ?_
  refine lv_ldc2 hx hb hown (htl _ mw_342) dX13_verse1_3 ?_
  have hk_1 : (1 : Int64).toInt = 1 := by decide
  have hk_99 : (99 : Int64).toInt = 99 := by decide
  refine mz_Sj (As := [.long w1, .long 1, .long 99]) (rest := []) ⟨hx, hb, hml, hown, hts⟩ hK hM hS (k_X13_in l D cy ld ad am hD _ _ _ _ w1 1 99) ⟨callB_of 3 hts (wl_in mw_292) rfl rfl rfl (htl _ mw_5) (htl _ mw_290) hd_yX13_in ⟨(Nat.le_of_ble_eq_true rfl), (Nat.le_of_ble_eq_true rfl)⟩, htl _ mw_291⟩ rfl hl.1 rfl (Nat.le_of_ble_eq_true rfl) dX13_verse1_6 ⟨(Nat.le_of_ble_eq_true rfl), (Nat.le_of_ble_eq_true rfl)⟩ (fun v2 H locs hpo hM hS => ?_)
  obtain ⟨hpo3, hpo4, hpo5, hpo6, hpo10, hpo11⟩ := hpo
  have hq_v2 := tk_rng v2
  refine lv_if_eq (tgt := 24) hx hb dX13_verse1_9 (by decide) (fun c9 => ?_) (fun c9 => ?_)
  · have hc13 : v2.toInt = 0 := (fi_eq rfl (show (0 : Int32).toInt = 0 by decide)).mp c9
    refine lv_iconst (v := (-1)) hx hb dX13_verse1_24 (by decide) ?_
    have hk_m1 : ((-1) : Int32).toInt = (-1) := by decide
    have hk_m1 : ((-1) : Int32).toInt = (-1) := by decide
    exact mz_iret (v := (-1)) hx hb hr rfl hlocks ⟨hIF, hIG, hIR, (fun _ _ => rfl), (fun _ _ => rfl), (fun _ _ => rfl), (by omega), (by omega), (by omega), (by omega), (by omega), (by omega), (by omega), (by omega), ⟨(fun h9 => (show False by omega).elim), (fun _ => (rfl : Ra 3 = Ra 3))⟩⟩ hM hS dX13_verse1_25
  · have hc13 : ¬ (v2.toInt = 0) := fun h9 => c9 ((fi_eq rfl (show (0 : Int32).toInt = 0 by decide)).mpr h9)
    have hwk_14 : 1 ≤ w1.toInt ∧ w1.toInt ≤ 99 := by omega
    refine lv_iload_n hx hb dX13_verse1_12 rfl (lv_at hl 2 rfl) ?_
    obtain ⟨w15, e_w15, h_w15⟩ : ∃ z : Int64, p2.toInt64 = z ∧ z.toInt = p2.toInt := ⟨_, rfl, fl_w _⟩
    refine lv_i2l (v := w15) hx hb dX13_verse1_13 e_w15 ?_
    refine lv_lconst (v := 0) hx hb dX13_verse1_14 (by decide) ?_
    refine lv_ldc2 hx hb hown (htl _ mw_316) dX13_verse1_15 ?_
    have hk_0 : (0 : Int64).toInt = 0 := by decide
    have hk_4 : (4 : Int64).toInt = 4 := by decide
    refine mz_Sj (As := [.long w15, .long 0, .long 4]) (rest := []) ⟨hx, hb, hml, hown, hts⟩ hK hM hS (k_X13_in l D cy ld ad am hD _ _ _ _ w15 0 4) ⟨callB_of 3 hts (wl_in mw_292) rfl rfl rfl (htl _ mw_5) (htl _ mw_290) hd_yX13_in ⟨(Nat.le_of_ble_eq_true rfl), (Nat.le_of_ble_eq_true rfl)⟩, htl _ mw_291⟩ rfl hl.1 rfl (Nat.le_of_ble_eq_true rfl) dX13_verse1_18 ⟨(Nat.le_of_ble_eq_true rfl), (Nat.le_of_ble_eq_true rfl)⟩ (fun v16 H locs hpo hM hS => ?_)
    obtain ⟨hpo17, hpo18, hpo19, hpo20, hpo21, hpo22⟩ := hpo
    have hq_v16 := tk_rng v16
    refine lv_if_ne (tgt := 26) hx hb dX13_verse1_21 (by decide) (fun c9 => ?_) (fun c9 => ?_)
    · have hc24 : ¬ (v16.toInt = 0) := fun h9 => c9 ((fi_eq rfl (show (0 : Int32).toInt = 0 by decide)).mpr h9)
      have hwk_25 : 0 ≤ w15.toInt ∧ w15.toInt ≤ 4 := by omega
      refine lv_aload_n hx hb dX13_verse1_26 rfl (lv_at hl 0 rfl) ?_
      refine mz_getR hx hb htl hown hK hM 3 (Nat.le_of_ble_eq_true rfl) (Nat.le_of_ble_eq_true rfl) (htl _ mw_188) (fun _ h9 => h9) dX13_verse1_27 ?_
      refine lv_iconst (v := 1) hx hb dX13_verse1_30 (by decide) ?_
      refine mz_iald hx hb hK hM 3 (Nat.le_of_ble_eq_true rfl) rfl (nn := 5560) rfl (I := 1) (by decide) (by decide) (by decide) dX13_verse1_31 (fun v9 e9 => ?_)
      refine fx_ti (v := g1) (e9.symm.trans (show Ra 3 (1 : Int32).toNatClampNeg = _ from hg_0)) ?_
      refine lv_istore_n (lv' := [(3, .int g1), (0, .ref am), (1, .int p1), (2, .int p2)]) hx hb dX13_verse1_32 rfl hl (by decide) rfl (fun ls hl => ?_)
      refine lv_iload_n hx hb dX13_verse1_33 rfl (lv_at hl 0 rfl) ?_
      refine lv_bipush (v := 10) hx hb dX13_verse1_34 (by decide) ?_
      refine lv_icmp_ne (tgt := 42) hx hb dX13_verse1_36 (by decide) (fun c9 => ?_) (fun c9 => ?_)
      · have hc26 : ¬ (g1.toInt = 10) := fun h9 => c9 ((fi_eq rfl (show (10 : Int32).toInt = 10 by decide)).mpr h9)
        refine lv_aload_n hx hb dX13_verse1_42 rfl (lv_at hl 1 rfl) ?_
        refine mz_getR hx hb htl hown hK hM 3 (Nat.le_of_ble_eq_true rfl) (Nat.le_of_ble_eq_true rfl) (htl _ mw_188) (fun _ h9 => h9) dX13_verse1_43 ?_
        refine lv_bipush (v := 58) hx hb dX13_verse1_46 (by decide) ?_
        refine lv_iconst (v := 2) hx hb dX13_verse1_48 (by decide) ?_
        refine lv_iload_n hx hb dX13_verse1_49 rfl (lv_at hl 0 rfl) ?_
        refine lv_imul hx hb dX13_verse1_50 ?_
        refine tk_mul (show (2 : Int32).toInt = 2 by decide) rfl (by omega) (by omega) (fun v27 h_v27 => ?_)
        refine lv_iadd hx hb dX13_verse1_51 ?_
        refine tk_add (show (58 : Int32).toInt = 58 by decide) rfl (by omega) (by omega) (fun v28 h_v28 => ?_)
        refine lv_iload_n hx hb dX13_verse1_52 rfl (lv_at hl 2 rfl) ?_
        refine mz_iast (x := p1) hx hb hK hD hM hS 3 (Nat.le_of_ble_eq_true rfl) rfl (nn := 5560) rfl rfl (by omega) (by omega) dX13_verse1_53 (fun H locs R hM hS hw9 hj9 => ?_)
        have hIR := hIR.put hw9 hj9 (mz_r3 (hIR.at 3) (I := v28.toInt) rfl (by omega) (by omega) (fun h9 => by first | (cases h9; done) | omega) (by unfold mE; omega))
        have hRR := mz_frp (K := [3]) (Fa := Ra) hj9 (fun _ _ => rfl) (by decide)
        have hre_3 : R 3 = upd (Ra 3) (v28 : Int32).toNatClampNeg p1 := hw9.trans (congrArg (fun f => upd f (v28 : Int32).toNatClampNeg p1) (rfl : Ra 3 = Ra 3))
        have hg_0 : R 3 1 = _ := (congrFun hw9 1).trans ((pk_un (fun h9 => by have h8 := tk_nat (i := v28) rfl (by omega); omega)).trans hg_0)
        refine lv_aload_n hx hb dX13_verse1_54 rfl (lv_at hl 1 rfl) ?_
        refine mz_getR hx hb htl hown hK hM 3 (Nat.le_of_ble_eq_true rfl) (Nat.le_of_ble_eq_true rfl) (htl _ mw_188) (fun _ h9 => h9) dX13_verse1_55 ?_
        refine lv_bipush (v := 58) hx hb dX13_verse1_58 (by decide) ?_
        refine lv_iconst (v := 2) hx hb dX13_verse1_60 (by decide) ?_
        refine lv_iload_n hx hb dX13_verse1_61 rfl (lv_at hl 0 rfl) ?_
        refine lv_imul hx hb dX13_verse1_62 ?_
        refine tk_mul (show (2 : Int32).toInt = 2 by decide) rfl (by omega) (by omega) (fun v30 h_v30 => ?_)
        refine lv_iadd hx hb dX13_verse1_63 ?_
        refine tk_add (show (58 : Int32).toInt = 58 by decide) rfl (by omega) (by omega) (fun v31 h_v31 => ?_)
        refine lv_iconst (v := 1) hx hb dX13_verse1_64 (by decide) ?_
        refine lv_iadd hx hb dX13_verse1_65 ?_
        refine tk_add rfl (show (1 : Int32).toInt = 1 by decide) (by omega) (by omega) (fun v32 h_v32 => ?_)
        refine lv_iload_n hx hb dX13_verse1_66 rfl (lv_at hl 3 rfl) ?_
        refine mz_iast (x := p2) hx hb hK hD hM hS 3 (Nat.le_of_ble_eq_true rfl) rfl (nn := 5560) rfl rfl (by omega) (by omega) dX13_verse1_67 (fun H locs R hM hS hw9 hj9 => ?_)
        have hIR := hIR.put hw9 hj9 (mz_r3 (hIR.at 3) (I := v32.toInt) rfl (by omega) (by omega) (fun h9 => by first | (cases h9; done) | omega) (by unfold mE; omega))
        have hRR := mz_frp (K := [3]) (Fa := Ra) hj9 hRR (by decide)
        have hre_3 : R 3 = upd (upd (Ra 3) (v28 : Int32).toNatClampNeg p1) (v32 : Int32).toNatClampNeg p2 := hw9.trans (congrArg (fun f => upd f (v32 : Int32).toNatClampNeg p2) hre_3)
        have hg_0 : R 3 1 = _ := (congrFun hw9 1).trans ((pk_un (fun h9 => by have h8 := tk_nat (i := v32) rfl (by omega); omega)).trans hg_0)
        refine lv_aload_n hx hb dX13_verse1_68 rfl (lv_at hl 1 rfl) ?_
        refine mz_getR hx hb htl hown hK hM 3 (Nat.le_of_ble_eq_true rfl) (Nat.le_of_ble_eq_true rfl) (htl _ mw_188) (fun _ h9 => h9) dX13_verse1_69 ?_
        refine lv_iconst (v := 1) hx hb dX13_verse1_72 (by decide) ?_
        refine lv_dup2_11 hx hb dX13_verse1_73 rfl rfl ?_
        refine mz_iald hx hb hK hM 3 (Nat.le_of_ble_eq_true rfl) rfl (nn := 5560) rfl (I := 1) (by decide) (by decide) (by decide) dX13_verse1_74 (fun v9 e9 => ?_)
        refine fx_ti (v := g1) (e9.symm.trans (show R 3 (1 : Int32).toNatClampNeg = _ from hg_0)) ?_
        refine lv_iconst (v := 1) hx hb dX13_verse1_75 (by decide) ?_
        refine lv_iadd hx hb dX13_verse1_76 ?_
        refine tk_add rfl (show (1 : Int32).toInt = 1 by decide) (by omega) (by omega) (fun v34 h_v34 => ?_)
        have hk_1 : (1 : Int32).toInt = 1 := by decide
        refine mz_iast (x := v34) hx hb hK hD hM hS 3 (Nat.le_of_ble_eq_true rfl) rfl (nn := 5560) rfl (I := 1) (by decide) (by decide) (by decide) dX13_verse1_77 (fun H locs R hM hS hw9 hj9 => ?_)
        have hIR := hIR.put hw9 hj9 (mz_r3 (hIR.at 3) (I := 1) (by decide) (by omega) (by omega) (fun h9 => by first | (cases h9; done) | omega) (by unfold mE; omega))
        have hRR := mz_frp (K := [3]) (Fa := Ra) hj9 hRR (by decide)
        have hre_3 : R 3 = upd (upd (upd (Ra 3) (v28 : Int32).toNatClampNeg p1) (v32 : Int32).toNatClampNeg p2) (1 : Int32).toNatClampNeg v34 := hw9.trans (congrArg (fun f => upd f (1 : Int32).toNatClampNeg v34) hre_3)
        have hf36 : R 3 1 = v34 := (congrFun hw9 1).trans pk_us
        refine lv_iload_n hx hb dX13_verse1_78 rfl (lv_at hl 0 rfl) ?_
        exact mz_iret (v := g1) hx hb hr rfl hlocks ⟨hIF, hIG, hIR, (fun _ _ => rfl), hRR, (fun _ _ => rfl), (by omega), (by omega), (by omega), (by omega), (by omega), (by omega), (by omega), (by omega), ⟨(fun _ => ⟨v34, by omega, hre_3.trans (by rw [show (v28 : Int32).toNatClampNeg = 58 + 2 * g1.toInt.toNat by show v28.toInt.toNat = _; omega, show (v32 : Int32).toNatClampNeg = 59 + 2 * g1.toInt.toNat by show v32.toInt.toNat = _; omega, show (1 : Int32).toNatClampNeg = 1 by decide])⟩), (fun h9 => (show False by omega).elim)⟩⟩ hM hS dX13_verse1_79
      · have hc26 : g1.toInt = 10 := (fi_eq rfl (show (10 : Int32).toInt = 10 by decide)).mp c9
        refine lv_bipush (v := (-5)) hx hb dX13_verse1_39 (by decide) ?_
        have hk_m5 : ((-5) : Int32).toInt = (-5) := by decide
        have hk_m5 : ((-5) : Int32).toInt = (-5) := by decide
        exact mz_iret (v := (-5)) hx hb hr rfl hlocks ⟨hIF, hIG, hIR, (fun _ _ => rfl), (fun _ _ => rfl), (fun _ _ => rfl), (by omega), (by omega), (by omega), (by omega), (by omega), (by omega), (by omega), (by omega), ⟨(fun h9 => (show False by omega).elim), (fun _ => (rfl : Ra 3 = Ra 3))⟩⟩ hM hS dX13_verse1_41
    · have hc24 : v16.toInt = 0 := (fi_eq rfl (show (0 : Int32).toInt = 0 by decide)).mp c9
      refine lv_iconst (v := (-1)) hx hb dX13_verse1_24 (by decide) ?_
      have hk_m1 : ((-1) : Int32).toInt = (-1) := by decide
      have hk_m1 : ((-1) : Int32).toInt = (-1) := by decide
      exact mz_iret (v := (-1)) hx hb hr rfl hlocks ⟨hIF, hIG, hIR, (fun _ _ => rfl), (fun _ _ => rfl), (fun _ _ => rfl), (by omega), (by omega), (by omega), (by omega), (by omega), (by omega), (by omega), (by omega), ⟨(fun h9 => (show False by omega).elim), (fun _ => (rfl : Ra 3 = Ra 3))⟩⟩ hM hS dX13_verse1_25
set_option maxHeartbeats 4000000 in
set_option maxRecDepth 100000 in
theorem k_X13_verse_x (l : Launch) (D : va_G) (cy : Nat → ClassId) (ld ad : Nat → Nat) (am : Nat) (hD : mz_D ad am) (Fa : Nat → Int32) (Ga : Nat → Int64) (Ra : Nat → Nat → Int32) (Sa : Nat → Nat → Int64) (p1 : Int32) (p2 : Int32) (g1 : Int32) (hIF : mz_IF true Fa) (hIG : mz_IG Ga) (hIR : mz_IR [] true Ra) (hg_0 : Ra 3 1 = g1) : Met l yX13_verse (wl yX13_verse cX13_verse 3 (some .int)) ({ frames := 5, cells := 0, slots := 0, locals := 280 }) (mz_p D cy ld ad am Fa Ga Ra Sa [.ref am, .int p1, .int p2]) (mz_i D cy ad am (fun r F G R S => mz_IF true F ∧ mz_IG G ∧ mz_IR [] true R ∧ (∀ k : Nat, k ∉ ([0, 1] : List Nat) → F k = Fa k) ∧ (∀ k : Nat, k ∉ ([2, 3] : List Nat) → R k = Ra k) ∧ (∀ k : Nat, k ∉ ([] : List Nat) → G k = Ga k) ∧ (p1.toInt ≤ 0 → r.toInt + 1 = 0) ∧ (100 ≤ p1.toInt → r.toInt + 1 = 0) ∧ (p2.toInt ≤ (-1) → r.toInt + 1 = 0) ∧ (5 ≤ p2.toInt → r.toInt + 1 = 0) ∧ (1 ≤ p1.toInt → p1.toInt ≤ 99 → 0 ≤ p2.toInt → p2.toInt ≤ 4 → 10 ≤ g1.toInt → r.toInt + 5 = 0) ∧ (1 ≤ p1.toInt → p1.toInt ≤ 99 → 0 ≤ p2.toInt → p2.toInt ≤ 4 → g1.toInt ≤ 9 → (-1) * g1.toInt + r.toInt = 0) ∧ (-6) ≤ r.toInt ∧ r.toInt ≤ 10 ∧ jW r (∃ z : Int32, z.toInt = g1.toInt + 1 ∧ R 3 = upd (upd (upd (Ra 3) (58 + 2 * g1.toInt.toNat) p1) (59 + 2 * g1.toInt.toNat) p2) (1) z) (R 3 = Ra 3))) 0 0 (mz_W ad am) := by
  refine mz_met (y := yX13_verse) (cc := cX13_verse) (maxL := 3) (ret := (some .int)) (av := [.ref am, .int p1, .int p2]) _ (by decide) (Nat.le_of_ble_eq_true rfl) ?_
  intro p e s m args below meth c hx hb hr hml hts htl hown hlocks hK H locs hM hS ls hl
  have hown : s.vm.findClass RX13 = some m.cls := hown
  have hl : lv_has ls 3 [(0, .ref am), (1, .int p1), (2, .int p2)] := hl
  have hr_p1 := tk_rng p1
  have hr_p2 := tk_rng p2
  have hq_g1 := tk_rng g1
  have hr_g1 : 0 ≤ g1.toInt ∧ g1.toInt ≤ 10 := by have h9 := mz_r3c 1 (hIR.at 3) hg_0 (by decide); unfold mE at h9; omega
  refine lv_aload_n hx hb dX13_verse_0 rfl (lv_at hl 0 rfl) ?_
  refine lv_iconst (v := 0) hx hb dX13_verse_1 (by decide) ?_
  have hk_0 : (0 : Int32).toInt = 0 := by decide
  refine mz_putI (ty := .int) (x := 0) hx hb htl hown hK hD hM hS 0 (Nat.le_of_ble_eq_true rfl) rfl (htl _ mw_286) (fun _ h9 => h9) rfl (tyX13_ok 0 (by decide)) rfl rfl dX13_verse_2 (fun H locs F hM hS hf9 hj9 => ?_)
  have hIF := hIF.put hf9 hj9 (tk_rng _).1 (tk_rng _).2 (by decide)
  have hFF := mz_frp (K := [0, 1]) (Fa := Fa) hj9 (fun _ _ => rfl) (by decide)
  have hf2 := hf9
  refine lv_aload_n hx hb dX13_verse_5 rfl (lv_at hl 0 rfl) ?_
  refine lv_aload_n hx hb dX13_verse_6 rfl (lv_at hl 0 rfl) ?_
  refine lv_iload_n hx hb dX13_verse_7 rfl (lv_at hl 1 rfl) ?_
  refine lv_iload_n hx hb dX13_verse_8 rfl (lv_at hl 2 rfl) ?_
  refine mz_Vi (As := [.int p1, .int p2]) (rest := [.ref am]) ⟨hx, hb, hml, hown, hts⟩ hK hM hS (k_X13_verse1_x l D cy ld ad am hD _ _ _ _ p1 p2 g1 hIF hIG hIR hg_0) ⟨callB_of 2 hts (wl_in mw_341) rfl rfl rfl (htl _ mw_5) (htl _ mw_338) hd_yX13_verse1 ⟨(Nat.le_of_ble_eq_true rfl), (Nat.le_of_ble_eq_true rfl)⟩, htl _ mw_339, htl _ mw_340⟩ rfl hl.1 rfl (Nat.le_of_ble_eq_true rfl) dX13_verse_9 ⟨(Nat.le_of_ble_eq_true rfl), (Nat.le_of_ble_eq_true rfl)⟩ (fun v3 H locs F G R S hpo hM hS => ?_)
  obtain ⟨hIF, hIG, hIR, hfr9, hrr9, hgr9, hpo4, hpo5, hpo6, hpo10, hpo11, hpo12, hpo13, hpo14, hx15⟩ := hpo
  have hq_v3 := tk_rng v3
  have hFF := mz_fr (K := [0, 1]) (Fa := Fa) hfr9 hFF (by decide)
  have hRR := mz_fr (K := [2, 3]) (Fa := Ra) hrr9 (fun _ _ => rfl) (by decide)
  have hGG := mz_fr (K := []) (Fa := Ga) hgr9 (fun _ _ => rfl) (by decide)
  have hf2 := (hfr9 0 (by decide)).trans hf2
  have hqv := hx15
  refine mz_Vi (As := [.int v3]) (rest := []) ⟨hx, hb, hml, hown, hts⟩ hK hM hS (k_X13_tell l D cy ld ad am hD _ _ _ _ v3 hIF hIG hIR (by omega) (by omega)) ⟨callB_of 1 hts (wl_in mw_296) rfl rfl rfl (htl _ mw_5) (htl _ mw_293) hd_yX13_tell ⟨(Nat.le_of_ble_eq_true rfl), (Nat.le_of_ble_eq_true rfl)⟩, htl _ mw_294, htl _ mw_295⟩ rfl hl.1 rfl (Nat.le_of_ble_eq_true rfl) dX13_verse_12 ⟨(Nat.le_of_ble_eq_true rfl), (Nat.le_of_ble_eq_true rfl)⟩ (fun v17 H locs F G R S hpo hM hS => ?_)
  obtain ⟨hIF, hIG, hIR, hfr9, hrr9, hgr9, hpo18⟩ := hpo
  have hq_v17 := tk_rng v17
  have hFF := mz_fr (K := [0, 1]) (Fa := Fa) hfr9 hFF (by decide)
  have hRR := mz_fr (K := [2, 3]) (Fa := Ra) hrr9 hRR (by decide)
  have hGG := mz_fr (K := []) (Fa := Ga) hgr9 hGG (by decide)
  have hf2 := (hfr9 0 (by decide)).trans hf2
  rw [← hrr9 3 (by decide)] at hqv
  exact mz_iret (v := v17) hx hb hr rfl hlocks ⟨hIF, hIG, hIR, hFF, hRR, hGG, (by omega), (by omega), (by omega), (by omega), (by omega), (by omega), (by omega), (by omega), (by rw [← (fi_eq rfl rfl).mpr (show v3.toInt = v17.toInt by omega)]; exact hqv)⟩ hM hS dX13_verse_15
set_option maxHeartbeats 4000000 in
set_option maxRecDepth 100000 in
theorem k_X13_piece_x (l : Launch) (D : va_G) (cy : Nat → ClassId) (ld ad : Nat → Nat) (am : Nat) (hD : mz_D ad am) (Fa : Nat → Int32) (Ga : Nat → Int64) (Ra : Nat → Nat → Int32) (Sa : Nat → Nat → Int64) (p1 : Int32) (p2 : Int32) (p3 : Int32) (g2 : Int32) (hIF : mz_IF true Fa) (hIG : mz_IG Ga) (hIR : mz_IR [] true Ra) (hg_0 : Ra 3 2 = g2) : Met l yX13_piece (wl yX13_piece cX13_piece 5 (some .int)) ({ frames := 4, cells := 0, slots := 0, locals := 210 }) (mz_p D cy ld ad am Fa Ga Ra Sa [.ref am, .int p1, .int p2, .int p3]) (mz_i D cy ad am (fun r F G R S => mz_IF true F ∧ mz_IG G ∧ mz_IR [] true R ∧ (∀ k : Nat, k ∉ ([0, 1] : List Nat) → F k = Fa k) ∧ (∀ k : Nat, k ∉ ([2, 3] : List Nat) → R k = Ra k) ∧ (∀ k : Nat, k ∉ ([] : List Nat) → G k = Ga k) ∧ (p1.toInt ≤ 0 → r.toInt + 1 = 0) ∧ (100 ≤ p1.toInt → r.toInt + 1 = 0) ∧ (p2.toInt ≤ (-1) → r.toInt + 1 = 0) ∧ (5 ≤ p2.toInt → r.toInt + 1 = 0) ∧ (p3.toInt ≤ 0 → r.toInt + 1 = 0) ∧ (10 ≤ p3.toInt → r.toInt + 1 = 0) ∧ (1 ≤ p1.toInt → p1.toInt ≤ 99 → 0 ≤ p2.toInt → p2.toInt ≤ 4 → 1 ≤ p3.toInt → p3.toInt ≤ 9 → 10 ≤ g2.toInt → r.toInt + 5 = 0) ∧ (1 ≤ p1.toInt → p1.toInt ≤ 99 → 0 ≤ p2.toInt → p2.toInt ≤ 4 → 1 ≤ p3.toInt → p3.toInt ≤ 9 → g2.toInt ≤ 9 → (-1) * g2.toInt + r.toInt = 0) ∧ (-6) ≤ r.toInt ∧ r.toInt ≤ 10 ∧ jW r (∃ z : Int32, z.toInt = g2.toInt + 1 ∧ R 3 = upd (upd (upd (upd (Ra 3) (78 + 3 * g2.toInt.toNat) p1) (79 + 3 * g2.toInt.toNat) p2) (80 + 3 * g2.toInt.toNat) p3) (2) z) (R 3 = Ra 3))) 0 0 (mz_W ad am) := by
  refine mz_met (y := yX13_piece) (cc := cX13_piece) (maxL := 5) (ret := (some .int)) (av := [.ref am, .int p1, .int p2, .int p3]) _ (by decide) (Nat.le_of_ble_eq_true rfl) ?_
  intro p e s m args below meth c hx hb hr hml hts htl hown hlocks hK H locs hM hS ls hl
  have hown : s.vm.findClass RX13 = some m.cls := hown
  have hl : lv_has ls 5 [(0, .ref am), (1, .int p1), (2, .int p2), (3, .int p3)] := hl
  have hr_p1 := tk_rng p1
  have hr_p2 := tk_rng p2
  have hr_p3 := tk_rng p3
  have hq_g2 := tk_rng g2
  have hr_g2 : 0 ≤ g2.toInt ∧ g2.toInt ≤ 10 := by have h9 := mz_r3c 2 (hIR.at 3) hg_0 (by decide); unfold mE at h9; omega
  refine lv_aload_n hx hb dX13_piece_0 rfl (lv_at hl 0 rfl) ?_
  refine lv_iconst (v := 0) hx hb dX13_piece_1 (by decide) ?_
  have hk_0 : (0 : Int32).toInt = 0 := by decide
  refine mz_putI (ty := .int) (x := 0) hx hb htl hown hK hD hM hS 0 (Nat.le_of_ble_eq_true rfl) rfl (htl _ mw_286) (fun _ h9 => h9) rfl (tyX13_ok 0 (by decide)) rfl rfl dX13_piece_2 (fun H locs F hM hS hf9 hj9 => ?_)
  have hIF := hIF.put hf9 hj9 (tk_rng _).1 (tk_rng _).2 (by decide)
  have hFF := mz_frp (K := [0, 1]) (Fa := Fa) hj9 (fun _ _ => rfl) (by decide)
  have hf2 := hf9
  refine lv_iload_n hx hb dX13_piece_5 rfl (lv_at hl 1 rfl) ?_
  obtain ⟨w3, e_w3, h_w3⟩ : ∃ z : Int64, p1.toInt64 = z ∧ z.toInt = p1.toInt := ⟨_, rfl, fl_w _⟩
  refine lv_i2l (v := w3) hx hb dX13_piece_6 e_w3 ?_
  refine lv_lconst (v := 1) hx hb dX13_piece_7 (by decide) ?_
  refine lv_ldc2 hx hb hown (htl _ mw_342) dX13_piece_8 ?_
  have hk_1 : (1 : Int64).toInt = 1 := by decide
  have hk_99 : (99 : Int64).toInt = 99 := by decide
  refine mz_Sj (As := [.long w3, .long 1, .long 99]) (rest := []) ⟨hx, hb, hml, hown, hts⟩ hK hM hS (k_X13_in l D cy ld ad am hD _ _ _ _ w3 1 99) ⟨callB_of 3 hts (wl_in mw_292) rfl rfl rfl (htl _ mw_5) (htl _ mw_290) hd_yX13_in ⟨(Nat.le_of_ble_eq_true rfl), (Nat.le_of_ble_eq_true rfl)⟩, htl _ mw_291⟩ rfl hl.1 rfl (Nat.le_of_ble_eq_true rfl) dX13_piece_11 ⟨(Nat.le_of_ble_eq_true rfl), (Nat.le_of_ble_eq_true rfl)⟩ (fun v4 H locs hpo hM hS => ?_)
  obtain ⟨hpo5, hpo6, hpo10, hpo11, hpo12, hpo13⟩ := hpo
  have hq_v4 := tk_rng v4
  refine lv_if_eq (tgt := 41) hx hb dX13_piece_14 (by decide) (fun c9 => ?_) (fun c9 => ?_)
  · have hc15 : v4.toInt = 0 := (fi_eq rfl (show (0 : Int32).toInt = 0 by decide)).mp c9
    refine lv_aload_n hx hb dX13_piece_41 rfl (lv_at hl 0 rfl) ?_
    refine lv_iconst (v := (-1)) hx hb dX13_piece_42 (by decide) ?_
    have hk_m1 : ((-1) : Int32).toInt = (-1) := by decide
    refine mz_Vi (As := [.int (-1)]) (rest := []) ⟨hx, hb, hml, hown, hts⟩ hK hM hS (k_X13_tell l D cy ld ad am hD _ _ _ _ (-1) hIF hIG hIR (by omega) (by omega)) ⟨callB_of 1 hts (wl_in mw_296) rfl rfl rfl (htl _ mw_5) (htl _ mw_293) hd_yX13_tell ⟨(Nat.le_of_ble_eq_true rfl), (Nat.le_of_ble_eq_true rfl)⟩, htl _ mw_294, htl _ mw_295⟩ rfl hl.1 rfl (Nat.le_of_ble_eq_true rfl) dX13_piece_43 ⟨(Nat.le_of_ble_eq_true rfl), (Nat.le_of_ble_eq_true rfl)⟩ (fun v16 H locs F G R S hpo hM hS => ?_)
    obtain ⟨hIF, hIG, hIR, hfr9, hrr9, hgr9, hpo17⟩ := hpo
    have hq_v16 := tk_rng v16
    have hFF := mz_fr (K := [0, 1]) (Fa := Fa) hfr9 hFF (by decide)
    have hRR := mz_fr (K := [2, 3]) (Fa := Ra) hrr9 (fun _ _ => rfl) (by decide)
    have hGG := mz_fr (K := []) (Fa := Ga) hgr9 (fun _ _ => rfl) (by decide)
    have hre_3 : R 3 = Ra 3 := (hrr9 3 (by decide)).trans (rfl : Ra 3 = Ra 3)
    have hg_0 : R 3 2 = _ := (congrFun (hrr9 3 (by decide)) 2).trans hg_0
    have hf2 := (hfr9 0 (by decide)).trans hf2
    exact mz_iret (v := v16) hx hb hr rfl hlocks ⟨hIF, hIG, hIR, hFF, hRR, hGG, (by omega), (by omega), (by omega), (by omega), (by omega), (by omega), (by omega), (by omega), (by omega), (by omega), ⟨(fun h9 => (show False by omega).elim), (fun _ => hre_3)⟩⟩ hM hS dX13_piece_46
  · have hc15 : ¬ (v4.toInt = 0) := fun h9 => c9 ((fi_eq rfl (show (0 : Int32).toInt = 0 by decide)).mpr h9)
    have hwk_19 : 1 ≤ w3.toInt ∧ w3.toInt ≤ 99 := by omega
    refine lv_iload_n hx hb dX13_piece_17 rfl (lv_at hl 2 rfl) ?_
    obtain ⟨w20, e_w20, h_w20⟩ : ∃ z : Int64, p2.toInt64 = z ∧ z.toInt = p2.toInt := ⟨_, rfl, fl_w _⟩
    refine lv_i2l (v := w20) hx hb dX13_piece_18 e_w20 ?_
    refine lv_lconst (v := 0) hx hb dX13_piece_19 (by decide) ?_
    refine lv_ldc2 hx hb hown (htl _ mw_316) dX13_piece_20 ?_
    have hk_0 : (0 : Int64).toInt = 0 := by decide
    have hk_4 : (4 : Int64).toInt = 4 := by decide
    refine mz_Sj (As := [.long w20, .long 0, .long 4]) (rest := []) ⟨hx, hb, hml, hown, hts⟩ hK hM hS (k_X13_in l D cy ld ad am hD _ _ _ _ w20 0 4) ⟨callB_of 3 hts (wl_in mw_292) rfl rfl rfl (htl _ mw_5) (htl _ mw_290) hd_yX13_in ⟨(Nat.le_of_ble_eq_true rfl), (Nat.le_of_ble_eq_true rfl)⟩, htl _ mw_291⟩ rfl hl.1 rfl (Nat.le_of_ble_eq_true rfl) dX13_piece_23 ⟨(Nat.le_of_ble_eq_true rfl), (Nat.le_of_ble_eq_true rfl)⟩ (fun v21 H locs hpo hM hS => ?_)
    obtain ⟨hpo22, hpo23, hpo24, hpo25, hpo26, hpo27⟩ := hpo
    have hq_v21 := tk_rng v21
    refine lv_if_eq (tgt := 41) hx hb dX13_piece_26 (by decide) (fun c9 => ?_) (fun c9 => ?_)
    · have hc29 : v21.toInt = 0 := (fi_eq rfl (show (0 : Int32).toInt = 0 by decide)).mp c9
      refine lv_aload_n hx hb dX13_piece_41 rfl (lv_at hl 0 rfl) ?_
      refine lv_iconst (v := (-1)) hx hb dX13_piece_42 (by decide) ?_
      have hk_m1 : ((-1) : Int32).toInt = (-1) := by decide
      refine mz_Vi (As := [.int (-1)]) (rest := []) ⟨hx, hb, hml, hown, hts⟩ hK hM hS (k_X13_tell l D cy ld ad am hD _ _ _ _ (-1) hIF hIG hIR (by omega) (by omega)) ⟨callB_of 1 hts (wl_in mw_296) rfl rfl rfl (htl _ mw_5) (htl _ mw_293) hd_yX13_tell ⟨(Nat.le_of_ble_eq_true rfl), (Nat.le_of_ble_eq_true rfl)⟩, htl _ mw_294, htl _ mw_295⟩ rfl hl.1 rfl (Nat.le_of_ble_eq_true rfl) dX13_piece_43 ⟨(Nat.le_of_ble_eq_true rfl), (Nat.le_of_ble_eq_true rfl)⟩ (fun v30 H locs F G R S hpo hM hS => ?_)
      obtain ⟨hIF, hIG, hIR, hfr9, hrr9, hgr9, hpo31⟩ := hpo
      have hq_v30 := tk_rng v30
      have hFF := mz_fr (K := [0, 1]) (Fa := Fa) hfr9 hFF (by decide)
      have hRR := mz_fr (K := [2, 3]) (Fa := Ra) hrr9 (fun _ _ => rfl) (by decide)
      have hGG := mz_fr (K := []) (Fa := Ga) hgr9 (fun _ _ => rfl) (by decide)
      have hre_3 : R 3 = Ra 3 := (hrr9 3 (by decide)).trans (rfl : Ra 3 = Ra 3)
      have hg_0 : R 3 2 = _ := (congrFun (hrr9 3 (by decide)) 2).trans hg_0
      have hf2 := (hfr9 0 (by decide)).trans hf2
      exact mz_iret (v := v30) hx hb hr rfl hlocks ⟨hIF, hIG, hIR, hFF, hRR, hGG, (by omega), (by omega), (by omega), (by omega), (by omega), (by omega), (by omega), (by omega), (by omega), (by omega), ⟨(fun h9 => (show False by omega).elim), (fun _ => hre_3)⟩⟩ hM hS dX13_piece_46
    · have hc29 : ¬ (v21.toInt = 0) := fun h9 => c9 ((fi_eq rfl (show (0 : Int32).toInt = 0 by decide)).mpr h9)
      have hwk_33 : 0 ≤ w20.toInt ∧ w20.toInt ≤ 4 := by omega
      refine lv_iload_n hx hb dX13_piece_29 rfl (lv_at hl 3 rfl) ?_
      obtain ⟨w34, e_w34, h_w34⟩ : ∃ z : Int64, p3.toInt64 = z ∧ z.toInt = p3.toInt := ⟨_, rfl, fl_w _⟩
      refine lv_i2l (v := w34) hx hb dX13_piece_30 e_w34 ?_
      refine lv_lconst (v := 1) hx hb dX13_piece_31 (by decide) ?_
      refine lv_ldc2 hx hb hown (htl _ mw_288) dX13_piece_32 ?_
      have hk_1 : (1 : Int64).toInt = 1 := by decide
      have hk_9 : (9 : Int64).toInt = 9 := by decide
      refine mz_Sj (As := [.long w34, .long 1, .long 9]) (rest := []) ⟨hx, hb, hml, hown, hts⟩ hK hM hS (k_X13_in l D cy ld ad am hD _ _ _ _ w34 1 9) ⟨callB_of 3 hts (wl_in mw_292) rfl rfl rfl (htl _ mw_5) (htl _ mw_290) hd_yX13_in ⟨(Nat.le_of_ble_eq_true rfl), (Nat.le_of_ble_eq_true rfl)⟩, htl _ mw_291⟩ rfl hl.1 rfl (Nat.le_of_ble_eq_true rfl) dX13_piece_35 ⟨(Nat.le_of_ble_eq_true rfl), (Nat.le_of_ble_eq_true rfl)⟩ (fun v35 H locs hpo hM hS => ?_)
      obtain ⟨hpo36, hpo37, hpo38, hpo39, hpo40, hpo41⟩ := hpo
      have hq_v35 := tk_rng v35
      refine lv_if_ne (tgt := 47) hx hb dX13_piece_38 (by decide) (fun c9 => ?_) (fun c9 => ?_)
      · have hc43 : ¬ (v35.toInt = 0) := fun h9 => c9 ((fi_eq rfl (show (0 : Int32).toInt = 0 by decide)).mpr h9)
        have hwk_44 : 1 ≤ w34.toInt ∧ w34.toInt ≤ 9 := by omega
        refine lv_aload_n hx hb dX13_piece_47 rfl (lv_at hl 0 rfl) ?_
        refine mz_getR hx hb htl hown hK hM 3 (Nat.le_of_ble_eq_true rfl) (Nat.le_of_ble_eq_true rfl) (htl _ mw_188) (fun _ h9 => h9) dX13_piece_48 ?_
        refine lv_iconst (v := 2) hx hb dX13_piece_51 (by decide) ?_
        refine mz_iald hx hb hK hM 3 (Nat.le_of_ble_eq_true rfl) rfl (nn := 5560) rfl (I := 2) (by decide) (by decide) (by decide) dX13_piece_52 (fun v9 e9 => ?_)
        refine fx_ti (v := g2) (e9.symm.trans (show Ra 3 (2 : Int32).toNatClampNeg = _ from hg_0)) ?_
        refine lv_istore (lv' := [(4, .int g2), (0, .ref am), (1, .int p1), (2, .int p2), (3, .int p3)]) hx hb dX13_piece_53 hl (by decide) rfl (fun ls hl => ?_)
        refine lv_iload hx hb dX13_piece_55 (lv_at hl 0 rfl) ?_
        refine lv_bipush (v := 10) hx hb dX13_piece_57 (by decide) ?_
        refine lv_icmp_ne (tgt := 69) hx hb dX13_piece_59 (by decide) (fun c9 => ?_) (fun c9 => ?_)
        · have hc45 : ¬ (g2.toInt = 10) := fun h9 => c9 ((fi_eq rfl (show (10 : Int32).toInt = 10 by decide)).mpr h9)
          refine lv_aload_n hx hb dX13_piece_69 rfl (lv_at hl 1 rfl) ?_
          refine mz_getR hx hb htl hown hK hM 3 (Nat.le_of_ble_eq_true rfl) (Nat.le_of_ble_eq_true rfl) (htl _ mw_188) (fun _ h9 => h9) dX13_piece_70 ?_
          refine lv_bipush (v := 78) hx hb dX13_piece_73 (by decide) ?_
          refine lv_iconst (v := 3) hx hb dX13_piece_75 (by decide) ?_
          refine lv_iload hx hb dX13_piece_76 (lv_at hl 0 rfl) ?_
          refine lv_imul hx hb dX13_piece_78 ?_
          refine tk_mul (show (3 : Int32).toInt = 3 by decide) rfl (by omega) (by omega) (fun v46 h_v46 => ?_)
          refine lv_iadd hx hb dX13_piece_79 ?_
          refine tk_add (show (78 : Int32).toInt = 78 by decide) rfl (by omega) (by omega) (fun v47 h_v47 => ?_)
          refine lv_iload_n hx hb dX13_piece_80 rfl (lv_at hl 2 rfl) ?_
          refine mz_iast (x := p1) hx hb hK hD hM hS 3 (Nat.le_of_ble_eq_true rfl) rfl (nn := 5560) rfl rfl (by omega) (by omega) dX13_piece_81 (fun H locs R hM hS hw9 hj9 => ?_)
          have hIR := hIR.put hw9 hj9 (mz_r3 (hIR.at 3) (I := v47.toInt) rfl (by omega) (by omega) (fun h9 => by first | (cases h9; done) | omega) (by unfold mE; omega))
          have hRR := mz_frp (K := [2, 3]) (Fa := Ra) hj9 (fun _ _ => rfl) (by decide)
          have hre_3 : R 3 = upd (Ra 3) (v47 : Int32).toNatClampNeg p1 := hw9.trans (congrArg (fun f => upd f (v47 : Int32).toNatClampNeg p1) (rfl : Ra 3 = Ra 3))
          have hg_0 : R 3 2 = _ := (congrFun hw9 2).trans ((pk_un (fun h9 => by have h8 := tk_nat (i := v47) rfl (by omega); omega)).trans hg_0)
          refine lv_aload_n hx hb dX13_piece_82 rfl (lv_at hl 1 rfl) ?_
          refine mz_getR hx hb htl hown hK hM 3 (Nat.le_of_ble_eq_true rfl) (Nat.le_of_ble_eq_true rfl) (htl _ mw_188) (fun _ h9 => h9) dX13_piece_83 ?_
          refine lv_bipush (v := 78) hx hb dX13_piece_86 (by decide) ?_
          refine lv_iconst (v := 3) hx hb dX13_piece_88 (by decide) ?_
          refine lv_iload hx hb dX13_piece_89 (lv_at hl 0 rfl) ?_
          refine lv_imul hx hb dX13_piece_91 ?_
          refine tk_mul (show (3 : Int32).toInt = 3 by decide) rfl (by omega) (by omega) (fun v49 h_v49 => ?_)
          refine lv_iadd hx hb dX13_piece_92 ?_
          refine tk_add (show (78 : Int32).toInt = 78 by decide) rfl (by omega) (by omega) (fun v50 h_v50 => ?_)
          refine lv_iconst (v := 1) hx hb dX13_piece_93 (by decide) ?_
          refine lv_iadd hx hb dX13_piece_94 ?_
          refine tk_add rfl (show (1 : Int32).toInt = 1 by decide) (by omega) (by omega) (fun v51 h_v51 => ?_)
          refine lv_iload_n hx hb dX13_piece_95 rfl (lv_at hl 3 rfl) ?_
          refine mz_iast (x := p2) hx hb hK hD hM hS 3 (Nat.le_of_ble_eq_true rfl) rfl (nn := 5560) rfl rfl (by omega) (by omega) dX13_piece_96 (fun H locs R hM hS hw9 hj9 => ?_)
          have hIR := hIR.put hw9 hj9 (mz_r3 (hIR.at 3) (I := v51.toInt) rfl (by omega) (by omega) (fun h9 => by first | (cases h9; done) | omega) (by unfold mE; omega))
          have hRR := mz_frp (K := [2, 3]) (Fa := Ra) hj9 hRR (by decide)
          have hre_3 : R 3 = upd (upd (Ra 3) (v47 : Int32).toNatClampNeg p1) (v51 : Int32).toNatClampNeg p2 := hw9.trans (congrArg (fun f => upd f (v51 : Int32).toNatClampNeg p2) hre_3)
          have hg_0 : R 3 2 = _ := (congrFun hw9 2).trans ((pk_un (fun h9 => by have h8 := tk_nat (i := v51) rfl (by omega); omega)).trans hg_0)
          refine lv_aload_n hx hb dX13_piece_97 rfl (lv_at hl 1 rfl) ?_
          refine mz_getR hx hb htl hown hK hM 3 (Nat.le_of_ble_eq_true rfl) (Nat.le_of_ble_eq_true rfl) (htl _ mw_188) (fun _ h9 => h9) dX13_piece_98 ?_
          refine lv_bipush (v := 78) hx hb dX13_piece_101 (by decide) ?_
          refine lv_iconst (v := 3) hx hb dX13_piece_103 (by decide) ?_
          refine lv_iload hx hb dX13_piece_104 (lv_at hl 0 rfl) ?_
          refine lv_imul hx hb dX13_piece_106 ?_
          refine tk_mul (show (3 : Int32).toInt = 3 by decide) rfl (by omega) (by omega) (fun v53 h_v53 => ?_)
          refine lv_iadd hx hb dX13_piece_107 ?_
          refine tk_add (show (78 : Int32).toInt = 78 by decide) rfl (by omega) (by omega) (fun v54 h_v54 => ?_)
          refine lv_iconst (v := 2) hx hb dX13_piece_108 (by decide) ?_
          refine lv_iadd hx hb dX13_piece_109 ?_
          refine tk_add rfl (show (2 : Int32).toInt = 2 by decide) (by omega) (by omega) (fun v55 h_v55 => ?_)
          refine lv_iload_n hx hb dX13_piece_110 rfl (lv_at hl 4 rfl) ?_
          refine mz_iast (x := p3) hx hb hK hD hM hS 3 (Nat.le_of_ble_eq_true rfl) rfl (nn := 5560) rfl rfl (by omega) (by omega) dX13_piece_111 (fun H locs R hM hS hw9 hj9 => ?_)
          have hIR := hIR.put hw9 hj9 (mz_r3 (hIR.at 3) (I := v55.toInt) rfl (by omega) (by omega) (fun h9 => by first | (cases h9; done) | omega) (by unfold mE; omega))
          have hRR := mz_frp (K := [2, 3]) (Fa := Ra) hj9 hRR (by decide)
          have hre_3 : R 3 = upd (upd (upd (Ra 3) (v47 : Int32).toNatClampNeg p1) (v51 : Int32).toNatClampNeg p2) (v55 : Int32).toNatClampNeg p3 := hw9.trans (congrArg (fun f => upd f (v55 : Int32).toNatClampNeg p3) hre_3)
          have hg_0 : R 3 2 = _ := (congrFun hw9 2).trans ((pk_un (fun h9 => by have h8 := tk_nat (i := v55) rfl (by omega); omega)).trans hg_0)
          refine lv_aload_n hx hb dX13_piece_112 rfl (lv_at hl 1 rfl) ?_
          refine mz_getR hx hb htl hown hK hM 3 (Nat.le_of_ble_eq_true rfl) (Nat.le_of_ble_eq_true rfl) (htl _ mw_188) (fun _ h9 => h9) dX13_piece_113 ?_
          refine lv_iconst (v := 2) hx hb dX13_piece_116 (by decide) ?_
          refine lv_dup2_11 hx hb dX13_piece_117 rfl rfl ?_
          refine mz_iald hx hb hK hM 3 (Nat.le_of_ble_eq_true rfl) rfl (nn := 5560) rfl (I := 2) (by decide) (by decide) (by decide) dX13_piece_118 (fun v9 e9 => ?_)
          refine fx_ti (v := g2) (e9.symm.trans (show R 3 (2 : Int32).toNatClampNeg = _ from hg_0)) ?_
          refine lv_iconst (v := 1) hx hb dX13_piece_119 (by decide) ?_
          refine lv_iadd hx hb dX13_piece_120 ?_
          refine tk_add rfl (show (1 : Int32).toInt = 1 by decide) (by omega) (by omega) (fun v57 h_v57 => ?_)
          have hk_2 : (2 : Int32).toInt = 2 := by decide
          refine mz_iast (x := v57) hx hb hK hD hM hS 3 (Nat.le_of_ble_eq_true rfl) rfl (nn := 5560) rfl (I := 2) (by decide) (by decide) (by decide) dX13_piece_121 (fun H locs R hM hS hw9 hj9 => ?_)
          have hIR := hIR.put hw9 hj9 (mz_r3 (hIR.at 3) (I := 2) (by decide) (by omega) (by omega) (fun h9 => by first | (cases h9; done) | omega) (by unfold mE; omega))
          have hRR := mz_frp (K := [2, 3]) (Fa := Ra) hj9 hRR (by decide)
          have hre_3 : R 3 = upd (upd (upd (upd (Ra 3) (v47 : Int32).toNatClampNeg p1) (v51 : Int32).toNatClampNeg p2) (v55 : Int32).toNatClampNeg p3) (2 : Int32).toNatClampNeg v57 := hw9.trans (congrArg (fun f => upd f (2 : Int32).toNatClampNeg v57) hre_3)
          have hf59 : R 3 2 = v57 := (congrFun hw9 2).trans pk_us
          refine lv_aload_n hx hb dX13_piece_122 rfl (lv_at hl 1 rfl) ?_
          refine lv_iload hx hb dX13_piece_123 (lv_at hl 0 rfl) ?_
          refine mz_Vi (As := [.int g2]) (rest := []) ⟨hx, hb, hml, hown, hts⟩ hK hM hS (k_X13_tell l D cy ld ad am hD _ _ _ _ g2 hIF hIG hIR (by omega) (by omega)) ⟨callB_of 1 hts (wl_in mw_296) rfl rfl rfl (htl _ mw_5) (htl _ mw_293) hd_yX13_tell ⟨(Nat.le_of_ble_eq_true rfl), (Nat.le_of_ble_eq_true rfl)⟩, htl _ mw_294, htl _ mw_295⟩ rfl hl.1 rfl (Nat.le_of_ble_eq_true rfl) dX13_piece_125 ⟨(Nat.le_of_ble_eq_true rfl), (Nat.le_of_ble_eq_true rfl)⟩ (fun v60 H locs F G R S hpo hM hS => ?_)
          obtain ⟨hIF, hIG, hIR, hfr9, hrr9, hgr9, hpo61⟩ := hpo
          have hq_v60 := tk_rng v60
          have hFF := mz_fr (K := [0, 1]) (Fa := Fa) hfr9 hFF (by decide)
          have hRR := mz_fr (K := [2, 3]) (Fa := Ra) hrr9 hRR (by decide)
          have hGG := mz_fr (K := []) (Fa := Ga) hgr9 (fun _ _ => rfl) (by decide)
          have hre_3 : R 3 = upd (upd (upd (upd (Ra 3) (v47 : Int32).toNatClampNeg p1) (v51 : Int32).toNatClampNeg p2) (v55 : Int32).toNatClampNeg p3) (2 : Int32).toNatClampNeg v57 := (hrr9 3 (by decide)).trans hre_3
          have hf2 := (hfr9 0 (by decide)).trans hf2
          have hf59 : R 3 2 = _ := (congrFun (hrr9 3 (by decide)) 2).trans hf59
          exact mz_iret (v := v60) hx hb hr rfl hlocks ⟨hIF, hIG, hIR, hFF, hRR, hGG, (by omega), (by omega), (by omega), (by omega), (by omega), (by omega), (by omega), (by omega), (by omega), (by omega), ⟨(fun _ => ⟨v57, by omega, hre_3.trans (by rw [show (v47 : Int32).toNatClampNeg = 78 + 3 * g2.toInt.toNat by show v47.toInt.toNat = _; omega, show (v51 : Int32).toNatClampNeg = 79 + 3 * g2.toInt.toNat by show v51.toInt.toNat = _; omega, show (v55 : Int32).toNatClampNeg = 80 + 3 * g2.toInt.toNat by show v55.toInt.toNat = _; omega, show (2 : Int32).toNatClampNeg = 2 by decide])⟩), (fun h9 => (show False by omega).elim)⟩⟩ hM hS dX13_piece_128
        · have hc45 : g2.toInt = 10 := (fi_eq rfl (show (10 : Int32).toInt = 10 by decide)).mp c9
          refine lv_aload_n hx hb dX13_piece_62 rfl (lv_at hl 1 rfl) ?_
          refine lv_bipush (v := (-5)) hx hb dX13_piece_63 (by decide) ?_
          have hk_m5 : ((-5) : Int32).toInt = (-5) := by decide
          refine mz_Vi (As := [.int (-5)]) (rest := []) ⟨hx, hb, hml, hown, hts⟩ hK hM hS (k_X13_tell l D cy ld ad am hD _ _ _ _ (-5) hIF hIG hIR (by omega) (by omega)) ⟨callB_of 1 hts (wl_in mw_296) rfl rfl rfl (htl _ mw_5) (htl _ mw_293) hd_yX13_tell ⟨(Nat.le_of_ble_eq_true rfl), (Nat.le_of_ble_eq_true rfl)⟩, htl _ mw_294, htl _ mw_295⟩ rfl hl.1 rfl (Nat.le_of_ble_eq_true rfl) dX13_piece_65 ⟨(Nat.le_of_ble_eq_true rfl), (Nat.le_of_ble_eq_true rfl)⟩ (fun v63 H locs F G R S hpo hM hS => ?_)
          obtain ⟨hIF, hIG, hIR, hfr9, hrr9, hgr9, hpo64⟩ := hpo
          have hq_v63 := tk_rng v63
          have hFF := mz_fr (K := [0, 1]) (Fa := Fa) hfr9 hFF (by decide)
          have hRR := mz_fr (K := [2, 3]) (Fa := Ra) hrr9 (fun _ _ => rfl) (by decide)
          have hGG := mz_fr (K := []) (Fa := Ga) hgr9 (fun _ _ => rfl) (by decide)
          have hre_3 : R 3 = Ra 3 := (hrr9 3 (by decide)).trans (rfl : Ra 3 = Ra 3)
          have hg_0 : R 3 2 = _ := (congrFun (hrr9 3 (by decide)) 2).trans hg_0
          have hf2 := (hfr9 0 (by decide)).trans hf2
          exact mz_iret (v := v63) hx hb hr rfl hlocks ⟨hIF, hIG, hIR, hFF, hRR, hGG, (by omega), (by omega), (by omega), (by omega), (by omega), (by omega), (by omega), (by omega), (by omega), (by omega), ⟨(fun h9 => (show False by omega).elim), (fun _ => hre_3)⟩⟩ hM hS dX13_piece_68
      · have hc43 : v35.toInt = 0 := (fi_eq rfl (show (0 : Int32).toInt = 0 by decide)).mp c9
        refine lv_aload_n hx hb dX13_piece_41 rfl (lv_at hl 0 rfl) ?_
        refine lv_iconst (v := (-1)) hx hb dX13_piece_42 (by decide) ?_
        have hk_m1 : ((-1) : Int32).toInt = (-1) := by decide
        refine mz_Vi (As := [.int (-1)]) (rest := []) ⟨hx, hb, hml, hown, hts⟩ hK hM hS (k_X13_tell l D cy ld ad am hD _ _ _ _ (-1) hIF hIG hIR (by omega) (by omega)) ⟨callB_of 1 hts (wl_in mw_296) rfl rfl rfl (htl _ mw_5) (htl _ mw_293) hd_yX13_tell ⟨(Nat.le_of_ble_eq_true rfl), (Nat.le_of_ble_eq_true rfl)⟩, htl _ mw_294, htl _ mw_295⟩ rfl hl.1 rfl (Nat.le_of_ble_eq_true rfl) dX13_piece_43 ⟨(Nat.le_of_ble_eq_true rfl), (Nat.le_of_ble_eq_true rfl)⟩ (fun v66 H locs F G R S hpo hM hS => ?_)
        obtain ⟨hIF, hIG, hIR, hfr9, hrr9, hgr9, hpo67⟩ := hpo
        have hq_v66 := tk_rng v66
        have hFF := mz_fr (K := [0, 1]) (Fa := Fa) hfr9 hFF (by decide)
        have hRR := mz_fr (K := [2, 3]) (Fa := Ra) hrr9 (fun _ _ => rfl) (by decide)
        have hGG := mz_fr (K := []) (Fa := Ga) hgr9 (fun _ _ => rfl) (by decide)
        have hre_3 : R 3 = Ra 3 := (hrr9 3 (by decide)).trans (rfl : Ra 3 = Ra 3)
        have hg_0 : R 3 2 = _ := (congrFun (hrr9 3 (by decide)) 2).trans hg_0
        have hf2 := (hfr9 0 (by decide)).trans hf2
        exact mz_iret (v := v66) hx hb hr rfl hlocks ⟨hIF, hIG, hIR, hFF, hRR, hGG, (by omega), (by omega), (by omega), (by omega), (by omega), (by omega), (by omega), (by omega), (by omega), (by omega), ⟨(fun h9 => (show False by omega).elim), (fun _ => hre_3)⟩⟩ hM hS dX13_piece_46
set_option maxHeartbeats 4000000 in
set_option maxRecDepth 100000 in
theorem k_X13_isSinger_x (l : Launch) (D : va_G) (cy : Nat → ClassId) (ld ad : Nat → Nat) (am : Nat) (hD : mz_D ad am) (Fa : Nat → Int32) (Ga : Nat → Int64) (Ra : Nat → Nat → Int32) (Sa : Nat → Nat → Int64) (p1 : Int32) (g0 : Int32) (hIF : mz_IF false Fa) (hIG : mz_IG Ga) (hIR : mz_IR [] true Ra) (hg_0 : Ra 3 0 = g0) : Met l yX13_isSinger (wl yX13_isSinger cX13_isSinger 2 (some .boolean)) ({ frames := 4, cells := 0, slots := 0, locals := 210 }) (mz_p D cy ld ad am Fa Ga Ra Sa [.ref am, .int p1]) (mz_j D cy ad am Fa Ga Ra Sa (fun r => (1 ≤ r.toInt → 0 ≤ p1.toInt ∧ 0 ≤ g0.toInt + (-1) * p1.toInt + (-1)) ∧ (r.toInt ≤ 0 → 0 ≤ p1.toInt → 0 ≤ (-1) * g0.toInt + p1.toInt) ∧ 0 ≤ r.toInt ∧ r.toInt ≤ 1 ∧ 0 ≤ r.toInt ∧ r.toInt ≤ 1)) 0 0 (mz_W ad am) := by
  refine mz_met (y := yX13_isSinger) (cc := cX13_isSinger) (maxL := 2) (ret := (some .boolean)) (av := [.ref am, .int p1]) _ (by decide) (Nat.le_of_ble_eq_true rfl) ?_
  intro p e s m args below meth c hx hb hr hml hts htl hown hlocks hK H locs hM hS ls hl
  have hown : s.vm.findClass RX13 = some m.cls := hown
  have hl : lv_has ls 2 [(0, .ref am), (1, .int p1)] := hl
  have hr_p1 := tk_rng p1
  have hq_g0 := tk_rng g0
  have hr_g0 : 0 ≤ g0.toInt ∧ g0.toInt ≤ 8 := by have h9 := mz_r3c 0 (hIR.at 3) hg_0 (by decide); unfold mE at h9; omega
  refine lv_iload_n hx hb dX13_isSinger_0 rfl (lv_at hl 1 rfl) ?_
  obtain ⟨w1, e_w1, h_w1⟩ : ∃ z : Int64, p1.toInt64 = z ∧ z.toInt = p1.toInt := ⟨_, rfl, fl_w _⟩
  refine lv_i2l (v := w1) hx hb dX13_isSinger_1 e_w1 ?_
  refine lv_lconst (v := 0) hx hb dX13_isSinger_2 (by decide) ?_
  refine lv_aload_n hx hb dX13_isSinger_3 rfl (lv_at hl 0 rfl) ?_
  refine mz_getR hx hb htl hown hK hM 3 (Nat.le_of_ble_eq_true rfl) (Nat.le_of_ble_eq_true rfl) (htl _ mw_188) (fun _ h9 => h9) dX13_isSinger_4 ?_
  refine lv_iconst (v := 0) hx hb dX13_isSinger_7 (by decide) ?_
  refine mz_iald hx hb hK hM 3 (Nat.le_of_ble_eq_true rfl) rfl (nn := 5560) rfl (I := 0) (by decide) (by decide) (by decide) dX13_isSinger_8 (fun v9 e9 => ?_)
  refine fx_ti (v := g0) (e9.symm.trans (show Ra 3 (0 : Int32).toNatClampNeg = _ from hg_0)) ?_
  obtain ⟨w2, e_w2, h_w2⟩ : ∃ z : Int64, g0.toInt64 = z ∧ z.toInt = g0.toInt := ⟨_, rfl, fl_w _⟩
  refine lv_i2l (v := w2) hx hb dX13_isSinger_9 e_w2 ?_
  refine lv_lconst (v := 1) hx hb dX13_isSinger_10 (by decide) ?_
  refine lv_lsub hx hb dX13_isSinger_11 ?_
  refine tk_lsub rfl (show (1 : Int64).toInt = 1 by decide) (by omega) (by omega) (fun w3 h_w3 => ?_)
  have hk_0 : (0 : Int64).toInt = 0 := by decide
  refine mz_Sj (As := [.long w1, .long 0, .long w3]) (rest := []) ⟨hx, hb, hml, hown, hts⟩ hK hM hS (k_X13_in l D cy ld ad am hD _ _ _ _ w1 0 w3) ⟨callB_of 3 hts (wl_in mw_292) rfl rfl rfl (htl _ mw_5) (htl _ mw_290) hd_yX13_in ⟨(Nat.le_of_ble_eq_true rfl), (Nat.le_of_ble_eq_true rfl)⟩, htl _ mw_291⟩ rfl hl.1 rfl (Nat.le_of_ble_eq_true rfl) dX13_isSinger_12 ⟨(Nat.le_of_ble_eq_true rfl), (Nat.le_of_ble_eq_true rfl)⟩ (fun v4 H locs hpo hM hS => ?_)
  obtain ⟨hpo5, hpo6, hpo10, hpo11, hpo12, hpo13⟩ := hpo
  have hq_v4 := tk_rng v4
  exact mz_jret (v := v4) hx hb hr (tk_nz (by omega) (by omega)) hlocks ⟨(by omega), (by omega), (by omega), (by omega), (by omega), (by omega)⟩ hM hS dX13_isSinger_15
set_option maxHeartbeats 4000000 in
set_option maxRecDepth 100000 in
theorem k_X13_hears_x (l : Launch) (D : va_G) (cy : Nat → ClassId) (ld ad : Nat → Nat) (am : Nat) (hD : mz_D ad am) (Fa : Nat → Int32) (Ga : Nat → Int64) (Ra : Nat → Nat → Int32) (Sa : Nat → Nat → Int64) (p1 : Int32) (p2 : Int32) (p3 : Int32) (g0 : Int32) (hIF : mz_IF true Fa) (hIG : mz_IG Ga) (hIR : mz_IR [] true Ra) (hg_0 : Ra 3 0 = g0) : Met l yX13_hears (wl yX13_hears cX13_hears 5 (some .int)) ({ frames := 5, cells := 0, slots := 0, locals := 280 }) (mz_p D cy ld ad am Fa Ga Ra Sa [.ref am, .int p1, .int p2, .int p3]) (mz_i D cy ad am (fun r F G R S => mz_IF true F ∧ mz_IG G ∧ mz_IR [] true R ∧ (∀ k : Nat, k ∉ ([0, 1] : List Nat) → F k = Fa k) ∧ (∀ k : Nat, k ∉ ([2, 3] : List Nat) → R k = Ra k) ∧ (∀ k : Nat, k ∉ ([] : List Nat) → G k = Ga k) ∧ (p1.toInt + (-1) * p2.toInt = 0 → r.toInt + 1 = 0) ∧ (p3.toInt ≤ (-1) → r.toInt + 1 = 0) ∧ (2 ≤ p3.toInt → r.toInt + 1 = 0) ∧ (0 ≤ p1.toInt + (-1) * p2.toInt + (-1) → 0 ≤ p3.toInt → p3.toInt ≤ 1 → p1.toInt ≤ (-1) → r.toInt + 2 = 0) ∧ (0 ≤ p1.toInt + (-1) * p2.toInt + (-1) → 0 ≤ p3.toInt → p3.toInt ≤ 1 → 0 ≤ (-1) * g0.toInt + p1.toInt → r.toInt + 2 = 0) ∧ (0 ≤ p1.toInt + (-1) * p2.toInt + (-1) → 0 ≤ p3.toInt → p3.toInt ≤ 1 → p2.toInt ≤ (-1) → r.toInt + 2 = 0) ∧ (0 ≤ p1.toInt + (-1) * p2.toInt + (-1) → 0 ≤ p3.toInt → p3.toInt ≤ 1 → 0 ≤ (-1) * g0.toInt + p2.toInt → r.toInt + 2 = 0) ∧ (0 ≤ p1.toInt + (-1) * p2.toInt + (-1) → 0 ≤ p3.toInt → p3.toInt ≤ 1 → 0 ≤ p1.toInt → 0 ≤ g0.toInt + (-1) * p1.toInt + (-1) → 0 ≤ p2.toInt → 0 ≤ g0.toInt + (-1) * p2.toInt + (-1) → 0 ≤ r.toInt ∧ r.toInt ≤ 1) ∧ (0 ≤ (-1) * p1.toInt + p2.toInt + (-1) → 0 ≤ p3.toInt → p3.toInt ≤ 1 → p1.toInt ≤ (-1) → r.toInt + 2 = 0) ∧ (0 ≤ (-1) * p1.toInt + p2.toInt + (-1) → 0 ≤ p3.toInt → p3.toInt ≤ 1 → 0 ≤ (-1) * g0.toInt + p1.toInt → r.toInt + 2 = 0) ∧ (0 ≤ (-1) * p1.toInt + p2.toInt + (-1) → 0 ≤ p3.toInt → p3.toInt ≤ 1 → p2.toInt ≤ (-1) → r.toInt + 2 = 0) ∧ (0 ≤ (-1) * p1.toInt + p2.toInt + (-1) → 0 ≤ p3.toInt → p3.toInt ≤ 1 → 0 ≤ (-1) * g0.toInt + p2.toInt → r.toInt + 2 = 0) ∧ (0 ≤ (-1) * p1.toInt + p2.toInt + (-1) → 0 ≤ p3.toInt → p3.toInt ≤ 1 → 0 ≤ p1.toInt → 0 ≤ g0.toInt + (-1) * p1.toInt + (-1) → 0 ≤ p2.toInt → 0 ≤ g0.toInt + (-1) * p2.toInt + (-1) → 0 ≤ r.toInt ∧ r.toInt ≤ 1) ∧ (0 ≤ r.toInt → r = (Ra 3 (108 + p1.toInt.toNat) >>> (p2 &&& 31)) &&& 1 ∧ R 3 = upd (Ra 3) (108 + p1.toInt.toNat) (jm (Ra 3 (108 + p1.toInt.toNat)) p2 p3)) ∧ (r.toInt ≤ -1 → R 3 = Ra 3))) 0 0 (mz_W ad am) := by
  refine mz_met (y := yX13_hears) (cc := cX13_hears) (maxL := 5) (ret := (some .int)) (av := [.ref am, .int p1, .int p2, .int p3]) _ (by decide) (Nat.le_of_ble_eq_true rfl) ?_
  intro p e s m args below meth c hx hb hr hml hts htl hown hlocks hK H locs hM hS ls hl
  have hown : s.vm.findClass RX13 = some m.cls := hown
  have hl : lv_has ls 5 [(0, .ref am), (1, .int p1), (2, .int p2), (3, .int p3)] := hl
  have hr_p1 := tk_rng p1
  have hr_p2 := tk_rng p2
  have hr_p3 := tk_rng p3
  have hq_g0 := tk_rng g0
  have hr_g0 : 0 ≤ g0.toInt ∧ g0.toInt ≤ 8 := by have h9 := mz_r3c 0 (hIR.at 3) hg_0 (by decide); unfold mE at h9; omega
  refine lv_aload_n hx hb dX13_hears_0 rfl (lv_at hl 0 rfl) ?_
  refine lv_iconst (v := 0) hx hb dX13_hears_1 (by decide) ?_
  have hk_0 : (0 : Int32).toInt = 0 := by decide
  refine mz_putI (ty := .int) (x := 0) hx hb htl hown hK hD hM hS 0 (Nat.le_of_ble_eq_true rfl) rfl (htl _ mw_286) (fun _ h9 => h9) rfl (tyX13_ok 0 (by decide)) rfl rfl dX13_hears_2 (fun H locs F hM hS hf9 hj9 => ?_)
  have hIF := hIF.put hf9 hj9 (tk_rng _).1 (tk_rng _).2 (by decide)
  have hFF := mz_frp (K := [0, 1]) (Fa := Fa) hj9 (fun _ _ => rfl) (by decide)
  have hf2 := hf9
  refine lv_iload_n hx hb dX13_hears_5 rfl (lv_at hl 1 rfl) ?_
  refine lv_iload_n hx hb dX13_hears_6 rfl (lv_at hl 2 rfl) ?_
  refine lv_icmp_eq (tgt := 20) hx hb dX13_hears_7 (by decide) (fun c9 => ?_) (fun c9 => ?_)
  · have hc3 : p1.toInt = p2.toInt := (fi_eq rfl rfl).mp c9
    refine lv_aload_n hx hb dX13_hears_20 rfl (lv_at hl 0 rfl) ?_
    refine lv_iconst (v := (-1)) hx hb dX13_hears_21 (by decide) ?_
    have hk_m1 : ((-1) : Int32).toInt = (-1) := by decide
    refine mz_Vi (As := [.int (-1)]) (rest := []) ⟨hx, hb, hml, hown, hts⟩ hK hM hS (k_X13_tell l D cy ld ad am hD _ _ _ _ (-1) hIF hIG hIR (by omega) (by omega)) ⟨callB_of 1 hts (wl_in mw_296) rfl rfl rfl (htl _ mw_5) (htl _ mw_293) hd_yX13_tell ⟨(Nat.le_of_ble_eq_true rfl), (Nat.le_of_ble_eq_true rfl)⟩, htl _ mw_294, htl _ mw_295⟩ rfl hl.1 rfl (Nat.le_of_ble_eq_true rfl) dX13_hears_22 ⟨(Nat.le_of_ble_eq_true rfl), (Nat.le_of_ble_eq_true rfl)⟩ (fun v4 H locs F G R S hpo hM hS => ?_)
    obtain ⟨hIF, hIG, hIR, hfr9, hrr9, hgr9, hpo5⟩ := hpo
    have hq_v4 := tk_rng v4
    have hFF := mz_fr (K := [0, 1]) (Fa := Fa) hfr9 hFF (by decide)
    have hRR := mz_fr (K := [2, 3]) (Fa := Ra) hrr9 (fun _ _ => rfl) (by decide)
    have hGG := mz_fr (K := []) (Fa := Ga) hgr9 (fun _ _ => rfl) (by decide)
    have hre_3 : R 3 = Ra 3 := (hrr9 3 (by decide)).trans (rfl : Ra 3 = Ra 3)
    have hg_0 : R 3 0 = _ := (congrFun (hrr9 3 (by decide)) 0).trans hg_0
    have hf2 := (hfr9 0 (by decide)).trans hf2
    exact mz_iret (v := v4) hx hb hr rfl hlocks ⟨hIF, hIG, hIR, hFF, hRR, hGG, (by omega), (by omega), (by omega), (by omega), (by omega), (by omega), (by omega), (by omega), (by omega), (by omega), (by omega), (by omega), (by omega), ⟨(fun h9 => (show False by omega).elim), (fun _ => hre_3)⟩⟩ hM hS dX13_hears_25
  · have hc3 : ¬ (p1.toInt = p2.toInt) := fun h9 => c9 ((fi_eq rfl rfl).mpr h9)
    refine lv_iload_n hx hb dX13_hears_10 rfl (lv_at hl 3 rfl) ?_
    obtain ⟨w10, e_w10, h_w10⟩ : ∃ z : Int64, p3.toInt64 = z ∧ z.toInt = p3.toInt := ⟨_, rfl, fl_w _⟩
    refine lv_i2l (v := w10) hx hb dX13_hears_11 e_w10 ?_
    refine lv_lconst (v := 0) hx hb dX13_hears_12 (by decide) ?_
    refine lv_lconst (v := 1) hx hb dX13_hears_13 (by decide) ?_
    have hk_0 : (0 : Int64).toInt = 0 := by decide
    have hk_1 : (1 : Int64).toInt = 1 := by decide
    refine mz_Sj (As := [.long w10, .long 0, .long 1]) (rest := []) ⟨hx, hb, hml, hown, hts⟩ hK hM hS (k_X13_in l D cy ld ad am hD _ _ _ _ w10 0 1) ⟨callB_of 3 hts (wl_in mw_292) rfl rfl rfl (htl _ mw_5) (htl _ mw_290) hd_yX13_in ⟨(Nat.le_of_ble_eq_true rfl), (Nat.le_of_ble_eq_true rfl)⟩, htl _ mw_291⟩ rfl hl.1 rfl (Nat.le_of_ble_eq_true rfl) dX13_hears_14 ⟨(Nat.le_of_ble_eq_true rfl), (Nat.le_of_ble_eq_true rfl)⟩ (fun v11 H locs hpo hM hS => ?_)
    obtain ⟨hpo12, hpo13, hpo14, hpo15, hpo16, hpo17⟩ := hpo
    have hq_v11 := tk_rng v11
    refine lv_if_ne (tgt := 26) hx hb dX13_hears_17 (by decide) (fun c9 => ?_) (fun c9 => ?_)
    · have hc19 : ¬ (v11.toInt = 0) := fun h9 => c9 ((fi_eq rfl (show (0 : Int32).toInt = 0 by decide)).mpr h9)
      have hwk_20 : 0 ≤ w10.toInt ∧ w10.toInt ≤ 1 := by omega
      refine lv_aload_n hx hb dX13_hears_26 rfl (lv_at hl 0 rfl) ?_
      refine lv_iload_n hx hb dX13_hears_27 rfl (lv_at hl 1 rfl) ?_
      refine mz_Vj (As := [.int p1]) (rest := []) ⟨hx, hb, hml, hown, hts⟩ hK hM hS (k_X13_isSinger_x l D cy ld ad am hD _ _ _ _ p1 g0 (hIF.weak) hIG hIR hg_0) ⟨callB_of 1 hts (wl_in mw_320) rfl rfl rfl (htl _ mw_5) (htl _ mw_317) hd_yX13_isSinger ⟨(Nat.le_of_ble_eq_true rfl), (Nat.le_of_ble_eq_true rfl)⟩, htl _ mw_318, htl _ mw_319⟩ rfl hl.1 rfl (Nat.le_of_ble_eq_true rfl) dX13_hears_28 ⟨(Nat.le_of_ble_eq_true rfl), (Nat.le_of_ble_eq_true rfl)⟩ (fun v21 H locs hpo hM hS => ?_)
      obtain ⟨hpo22, hpo23, hpo24, hpo25, hpo26, hpo27⟩ := hpo
      have hq_v21 := tk_rng v21
      refine lv_if_eq (tgt := 42) hx hb dX13_hears_31 (by decide) (fun c9 => ?_) (fun c9 => ?_)
      · have hc29 : v21.toInt = 0 := (fi_eq rfl (show (0 : Int32).toInt = 0 by decide)).mp c9
        refine lv_aload_n hx hb dX13_hears_42 rfl (lv_at hl 0 rfl) ?_
        refine lv_bipush (v := (-2)) hx hb dX13_hears_43 (by decide) ?_
        have hk_m2 : ((-2) : Int32).toInt = (-2) := by decide
        refine mz_Vi (As := [.int (-2)]) (rest := []) ⟨hx, hb, hml, hown, hts⟩ hK hM hS (k_X13_tell l D cy ld ad am hD _ _ _ _ (-2) hIF hIG hIR (by omega) (by omega)) ⟨callB_of 1 hts (wl_in mw_296) rfl rfl rfl (htl _ mw_5) (htl _ mw_293) hd_yX13_tell ⟨(Nat.le_of_ble_eq_true rfl), (Nat.le_of_ble_eq_true rfl)⟩, htl _ mw_294, htl _ mw_295⟩ rfl hl.1 rfl (Nat.le_of_ble_eq_true rfl) dX13_hears_45 ⟨(Nat.le_of_ble_eq_true rfl), (Nat.le_of_ble_eq_true rfl)⟩ (fun v30 H locs F G R S hpo hM hS => ?_)
        obtain ⟨hIF, hIG, hIR, hfr9, hrr9, hgr9, hpo31⟩ := hpo
        have hq_v30 := tk_rng v30
        have hFF := mz_fr (K := [0, 1]) (Fa := Fa) hfr9 hFF (by decide)
        have hRR := mz_fr (K := [2, 3]) (Fa := Ra) hrr9 (fun _ _ => rfl) (by decide)
        have hGG := mz_fr (K := []) (Fa := Ga) hgr9 (fun _ _ => rfl) (by decide)
        have hre_3 : R 3 = Ra 3 := (hrr9 3 (by decide)).trans (rfl : Ra 3 = Ra 3)
        have hg_0 : R 3 0 = _ := (congrFun (hrr9 3 (by decide)) 0).trans hg_0
        have hf2 := (hfr9 0 (by decide)).trans hf2
        exact mz_iret (v := v30) hx hb hr rfl hlocks ⟨hIF, hIG, hIR, hFF, hRR, hGG, (by omega), (by omega), (by omega), (by omega), (by omega), (by omega), (by omega), (by omega), (by omega), (by omega), (by omega), (by omega), (by omega), ⟨(fun h9 => (show False by omega).elim), (fun _ => hre_3)⟩⟩ hM hS dX13_hears_48
      · have hc29 : ¬ (v21.toInt = 0) := fun h9 => c9 ((fi_eq rfl (show (0 : Int32).toInt = 0 by decide)).mpr h9)
        have hwk_33 : 0 ≤ p1.toInt ∧ 0 ≤ g0.toInt + (-1) * p1.toInt + (-1) := by omega
        refine lv_aload_n hx hb dX13_hears_34 rfl (lv_at hl 0 rfl) ?_
        refine lv_iload_n hx hb dX13_hears_35 rfl (lv_at hl 2 rfl) ?_
        refine mz_Vj (As := [.int p2]) (rest := []) ⟨hx, hb, hml, hown, hts⟩ hK hM hS (k_X13_isSinger_x l D cy ld ad am hD _ _ _ _ p2 g0 (hIF.weak) hIG hIR hg_0) ⟨callB_of 1 hts (wl_in mw_320) rfl rfl rfl (htl _ mw_5) (htl _ mw_317) hd_yX13_isSinger ⟨(Nat.le_of_ble_eq_true rfl), (Nat.le_of_ble_eq_true rfl)⟩, htl _ mw_318, htl _ mw_319⟩ rfl hl.1 rfl (Nat.le_of_ble_eq_true rfl) dX13_hears_36 ⟨(Nat.le_of_ble_eq_true rfl), (Nat.le_of_ble_eq_true rfl)⟩ (fun v34 H locs hpo hM hS => ?_)
        obtain ⟨hpo35, hpo36, hpo37, hpo38, hpo39, hpo40⟩ := hpo
        have hq_v34 := tk_rng v34
        refine lv_if_ne (tgt := 49) hx hb dX13_hears_39 (by decide) (fun c9 => ?_) (fun c9 => ?_)
        · have hc42 : ¬ (v34.toInt = 0) := fun h9 => c9 ((fi_eq rfl (show (0 : Int32).toInt = 0 by decide)).mpr h9)
          have hwk_43 : 0 ≤ p2.toInt ∧ 0 ≤ g0.toInt + (-1) * p2.toInt + (-1) := by omega
          refine lv_aload_n hx hb dX13_hears_49 rfl (lv_at hl 0 rfl) ?_
          refine mz_getR hx hb htl hown hK hM 3 (Nat.le_of_ble_eq_true rfl) (Nat.le_of_ble_eq_true rfl) (htl _ mw_188) (fun _ h9 => h9) dX13_hears_50 ?_
          refine lv_bipush (v := 108) hx hb dX13_hears_53 (by decide) ?_
          refine lv_iload_n hx hb dX13_hears_55 rfl (lv_at hl 1 rfl) ?_
          refine lv_iadd hx hb dX13_hears_56 ?_
          refine tk_add (show (108 : Int32).toInt = 108 by decide) rfl (by omega) (by omega) (fun v44 h_v44 => ?_)
          refine mz_iald hx hb hK hM 3 (Nat.le_of_ble_eq_true rfl) rfl (nn := 5560) rfl rfl (by omega) (by omega) dX13_hears_57 (fun v45 e_v45 => ?_)
          have hq_v45 := tk_rng v45
          refine lv_iload_n hx hb dX13_hears_58 rfl (lv_at hl 2 rfl) ?_
          obtain ⟨v46, hm_v46⟩ : ∃ z : Int32, v45 >>> (p2 &&& 31) = z := ⟨_, rfl⟩
          refine lv_ishr hx hb dX13_hears_59 ?_
          refine fx_ti hm_v46 ?_
          have hq_v46 := tk_rng v46
          refine lv_iconst (v := 1) hx hb dX13_hears_60 (by decide) ?_
          obtain ⟨v47, hm_v47⟩ : ∃ z : Int32, v46 &&& (1 : Int32) = z := ⟨_, rfl⟩
          refine lv_iand hx hb dX13_hears_61 ?_
          refine fx_ti hm_v47 ?_
          have hq_v47 := tk_rng v47
          have h_v47 : 0 ≤ v47.toInt ∧ v47.toInt ≤ 1 := hm_v47 ▸ tk_and v46 1 (by decide) (by decide)
          refine lv_istore (lv' := [(4, .int v47), (0, .ref am), (1, .int p1), (2, .int p2), (3, .int p3)]) hx hb dX13_hears_62 hl (by decide) rfl (fun ls hl => ?_)
          refine lv_aload_n hx hb dX13_hears_64 rfl (lv_at hl 1 rfl) ?_
          refine mz_getR hx hb htl hown hK hM 3 (Nat.le_of_ble_eq_true rfl) (Nat.le_of_ble_eq_true rfl) (htl _ mw_188) (fun _ h9 => h9) dX13_hears_65 ?_
          refine lv_bipush (v := 108) hx hb dX13_hears_68 (by decide) ?_
          refine lv_iload_n hx hb dX13_hears_70 rfl (lv_at hl 2 rfl) ?_
          refine lv_iadd hx hb dX13_hears_71 ?_
          refine tk_add (show (108 : Int32).toInt = 108 by decide) rfl (by omega) (by omega) (fun v48 h_v48 => ?_)
          refine lv_dup2_11 hx hb dX13_hears_72 rfl rfl ?_
          refine mz_iald hx hb hK hM 3 (Nat.le_of_ble_eq_true rfl) rfl (nn := 5560) rfl rfl (by omega) (by omega) dX13_hears_73 (fun v9 e9 => ?_)
          have e_v45_v48 : Ra 3 (v48 : Int32).toNatClampNeg = v45 := by rw [(fi_eq rfl rfl).mpr (show v48.toInt = v44.toInt by omega)]; exact e_v45
          refine fx_ti (v := v45) (e9.symm.trans e_v45_v48) ?_
          refine lv_iload_n hx hb dX13_hears_74 rfl (lv_at hl 4 rfl) ?_
          refine lv_iload hx hb dX13_hears_75 (lv_at hl 0 rfl) ?_
          refine lv_icmp_ne (tgt := 84) hx hb dX13_hears_77 (by decide) (fun c9 => ?_) (fun c9 => ?_)
          · have hc49 : ¬ (p3.toInt = v47.toInt) := fun h9 => c9 ((fi_eq rfl rfl).mpr h9)
            refine lv_iload_n hx hb dX13_hears_84 rfl (lv_at hl 4 rfl) ?_
            refine lv_iconst (v := 1) hx hb dX13_hears_85 (by decide) ?_
            refine lv_icmp_ne (tgt := 95) hx hb dX13_hears_86 (by decide) (fun c9 => ?_) (fun c9 => ?_)
            · have hc50 : ¬ (p3.toInt = 1) := fun h9 => c9 ((fi_eq rfl (show (1 : Int32).toInt = 1 by decide)).mpr h9)
              refine lv_iconst (v := 1) hx hb dX13_hears_95 (by decide) ?_
              refine lv_iload_n hx hb dX13_hears_96 rfl (lv_at hl 3 rfl) ?_
              obtain ⟨v51, hm_v51⟩ : ∃ z : Int32, (1 : Int32) <<< (p2 &&& 31) = z := ⟨_, rfl⟩
              refine lv_ishl hx hb dX13_hears_97 ?_
              refine fx_ti hm_v51 ?_
              have hq_v51 := tk_rng v51
              obtain ⟨v52, hm_v52⟩ : ∃ z : Int32, -v51 = z := ⟨_, rfl⟩
              refine lv_ineg hx hb dX13_hears_98 ?_
              refine fx_ti hm_v52 ?_
              have hq_v52 := tk_rng v52
              obtain ⟨v53, hm_v53⟩ : ∃ z : Int32, v45 + v52 = z := ⟨_, rfl⟩
              refine lv_iadd hx hb dX13_hears_99 ?_
              refine fx_ti hm_v53 ?_
              have hq_v53 := tk_rng v53
              refine mz_iast (x := v53) hx hb hK hD hM hS 3 (Nat.le_of_ble_eq_true rfl) rfl (nn := 5560) rfl rfl (by omega) (by omega) dX13_hears_100 (fun H locs R hM hS hw9 hj9 => ?_)
              have hIR := hIR.put hw9 hj9 (mz_r3 (hIR.at 3) (I := v48.toInt) rfl (by omega) (by omega) (fun h9 => by first | (cases h9; done) | omega) (by unfold mE; omega))
              have hRR := mz_frp (K := [2, 3]) (Fa := Ra) hj9 (fun _ _ => rfl) (by decide)
              have hre_3 : R 3 = upd (Ra 3) (v48 : Int32).toNatClampNeg v53 := hw9.trans (congrArg (fun f => upd f (v48 : Int32).toNatClampNeg v53) (rfl : Ra 3 = Ra 3))
              have hg_0 : R 3 0 = _ := (congrFun hw9 0).trans ((pk_un (fun h9 => by have h8 := tk_nat (i := v48) rfl (by omega); omega)).trans hg_0)
              refine lv_aload_n hx hb dX13_hears_101 rfl (lv_at hl 1 rfl) ?_
              refine lv_iconst (v := 0) hx hb dX13_hears_102 (by decide) ?_
              have hk_0 : (0 : Int32).toInt = 0 := by decide
              refine mz_putI (ty := .int) (x := 0) hx hb htl hown hK hD hM hS 1 (Nat.le_of_ble_eq_true rfl) rfl (htl _ mw_297) (fun _ h9 => h9) rfl (tyX13_ok 1 (by decide)) rfl rfl dX13_hears_103 (fun H locs F hM hS hf9 hj9 => ?_)
              have hIF := hIF.put hf9 hj9 (tk_rng _).1 (tk_rng _).2 (by decide)
              have hFF := mz_frp (K := [0, 1]) (Fa := Fa) hj9 hFF (by decide)
              have hf2 := (hj9 0 (by decide)).trans hf2
              have hf56 := hf9
              refine lv_iload hx hb dX13_hears_106 (lv_at hl 0 rfl) ?_
              exact mz_iret (v := v47) hx hb hr rfl hlocks ⟨hIF, hIG, hIR, hFF, hRR, (fun _ _ => rfl), (by omega), (by omega), (by omega), (by omega), (by omega), (by omega), (by omega), (by omega), (by omega), (by omega), (by omega), (by omega), (by omega), ⟨(fun _ => ⟨by have hE : Ra 3 (108 + p1.toInt.toNat) = v45 := (by rw [← e_v45]; congr 1; show _ = v44.toInt.toNat; omega); have hH : (v45 >>> (p2 &&& 31)) &&& (1 : Int32) = v47 := (by rw [hm_v46, hm_v47]); rw [hE, hH], hre_3.trans (by have hE : Ra 3 (108 + p1.toInt.toNat) = v45 := (by rw [← e_v45]; congr 1; show _ = v44.toInt.toNat; omega); have hH : (v45 >>> (p2 &&& 31)) &&& (1 : Int32) = v47 := (by rw [hm_v46, hm_v47]); rw [hE, show (v48 : Int32).toNatClampNeg = 108 + p1.toInt.toNat by show v48.toInt.toNat = _; omega]; congr 1; unfold jm; rw [hH, if_neg (by omega), if_neg (by omega)]; rw [← hm_v53, ← hm_v52, ← hm_v51])⟩), (fun h9 => (show False by omega).elim)⟩⟩ hM hS dX13_hears_108
            · have hc50 : p3.toInt = 1 := (fi_eq rfl (show (1 : Int32).toInt = 1 by decide)).mp c9
              refine lv_iconst (v := 1) hx hb dX13_hears_89 (by decide) ?_
              refine lv_iload_n hx hb dX13_hears_90 rfl (lv_at hl 3 rfl) ?_
              obtain ⟨v57, hm_v57⟩ : ∃ z : Int32, (1 : Int32) <<< (p2 &&& 31) = z := ⟨_, rfl⟩
              refine lv_ishl hx hb dX13_hears_91 ?_
              refine fx_ti hm_v57 ?_
              have hq_v57 := tk_rng v57
              refine lv_goto (tgt := 99) hx hb dX13_hears_92 (by decide) ?_
              obtain ⟨v58, hm_v58⟩ : ∃ z : Int32, v45 + v57 = z := ⟨_, rfl⟩
              refine lv_iadd hx hb dX13_hears_99 ?_
              refine fx_ti hm_v58 ?_
              have hq_v58 := tk_rng v58
              refine mz_iast (x := v58) hx hb hK hD hM hS 3 (Nat.le_of_ble_eq_true rfl) rfl (nn := 5560) rfl rfl (by omega) (by omega) dX13_hears_100 (fun H locs R hM hS hw9 hj9 => ?_)
              have hIR := hIR.put hw9 hj9 (mz_r3 (hIR.at 3) (I := v48.toInt) rfl (by omega) (by omega) (fun h9 => by first | (cases h9; done) | omega) (by unfold mE; omega))
              have hRR := mz_frp (K := [2, 3]) (Fa := Ra) hj9 (fun _ _ => rfl) (by decide)
              have hre_3 : R 3 = upd (Ra 3) (v48 : Int32).toNatClampNeg v58 := hw9.trans (congrArg (fun f => upd f (v48 : Int32).toNatClampNeg v58) (rfl : Ra 3 = Ra 3))
              have hg_0 : R 3 0 = _ := (congrFun hw9 0).trans ((pk_un (fun h9 => by have h8 := tk_nat (i := v48) rfl (by omega); omega)).trans hg_0)
              refine lv_aload_n hx hb dX13_hears_101 rfl (lv_at hl 1 rfl) ?_
              refine lv_iconst (v := 0) hx hb dX13_hears_102 (by decide) ?_
              have hk_0 : (0 : Int32).toInt = 0 := by decide
              refine mz_putI (ty := .int) (x := 0) hx hb htl hown hK hD hM hS 1 (Nat.le_of_ble_eq_true rfl) rfl (htl _ mw_297) (fun _ h9 => h9) rfl (tyX13_ok 1 (by decide)) rfl rfl dX13_hears_103 (fun H locs F hM hS hf9 hj9 => ?_)
              have hIF := hIF.put hf9 hj9 (tk_rng _).1 (tk_rng _).2 (by decide)
              have hFF := mz_frp (K := [0, 1]) (Fa := Fa) hj9 hFF (by decide)
              have hf2 := (hj9 0 (by decide)).trans hf2
              have hf61 := hf9
              refine lv_iload hx hb dX13_hears_106 (lv_at hl 0 rfl) ?_
              exact mz_iret (v := v47) hx hb hr rfl hlocks ⟨hIF, hIG, hIR, hFF, hRR, (fun _ _ => rfl), (by omega), (by omega), (by omega), (by omega), (by omega), (by omega), (by omega), (by omega), (by omega), (by omega), (by omega), (by omega), (by omega), ⟨(fun _ => ⟨by have hE : Ra 3 (108 + p1.toInt.toNat) = v45 := (by rw [← e_v45]; congr 1; show _ = v44.toInt.toNat; omega); have hH : (v45 >>> (p2 &&& 31)) &&& (1 : Int32) = v47 := (by rw [hm_v46, hm_v47]); rw [hE, hH], hre_3.trans (by have hE : Ra 3 (108 + p1.toInt.toNat) = v45 := (by rw [← e_v45]; congr 1; show _ = v44.toInt.toNat; omega); have hH : (v45 >>> (p2 &&& 31)) &&& (1 : Int32) = v47 := (by rw [hm_v46, hm_v47]); rw [hE, show (v48 : Int32).toNatClampNeg = 108 + p1.toInt.toNat by show v48.toInt.toNat = _; omega]; congr 1; unfold jm; rw [hH, if_neg (by omega), if_pos (by omega)]; rw [← hm_v58, ← hm_v57])⟩), (fun h9 => (show False by omega).elim)⟩⟩ hM hS dX13_hears_108
          · have hc49 : p3.toInt = v47.toInt := (fi_eq rfl rfl).mp c9
            refine lv_iconst (v := 0) hx hb dX13_hears_80 (by decide) ?_
            refine lv_goto (tgt := 99) hx hb dX13_hears_81 (by decide) ?_
            refine lv_iadd hx hb dX13_hears_99 ?_
            refine tk_add rfl (show (0 : Int32).toInt = 0 by decide) (by omega) (by omega) (fun v62 h_v62 => ?_)
            refine mz_iast (x := v62) hx hb hK hD hM hS 3 (Nat.le_of_ble_eq_true rfl) rfl (nn := 5560) rfl rfl (by omega) (by omega) dX13_hears_100 (fun H locs R hM hS hw9 hj9 => ?_)
            have hIR := hIR.put hw9 hj9 (mz_r3 (hIR.at 3) (I := v48.toInt) rfl (by omega) (by omega) (fun h9 => by first | (cases h9; done) | omega) (by unfold mE; omega))
            have hRR := mz_frp (K := [2, 3]) (Fa := Ra) hj9 (fun _ _ => rfl) (by decide)
            have hre_3 : R 3 = upd (Ra 3) (v48 : Int32).toNatClampNeg v62 := hw9.trans (congrArg (fun f => upd f (v48 : Int32).toNatClampNeg v62) (rfl : Ra 3 = Ra 3))
            have hg_0 : R 3 0 = _ := (congrFun hw9 0).trans ((pk_un (fun h9 => by have h8 := tk_nat (i := v48) rfl (by omega); omega)).trans hg_0)
            refine lv_aload_n hx hb dX13_hears_101 rfl (lv_at hl 1 rfl) ?_
            refine lv_iconst (v := 0) hx hb dX13_hears_102 (by decide) ?_
            have hk_0 : (0 : Int32).toInt = 0 := by decide
            refine mz_putI (ty := .int) (x := 0) hx hb htl hown hK hD hM hS 1 (Nat.le_of_ble_eq_true rfl) rfl (htl _ mw_297) (fun _ h9 => h9) rfl (tyX13_ok 1 (by decide)) rfl rfl dX13_hears_103 (fun H locs F hM hS hf9 hj9 => ?_)
            have hIF := hIF.put hf9 hj9 (tk_rng _).1 (tk_rng _).2 (by decide)
            have hFF := mz_frp (K := [0, 1]) (Fa := Fa) hj9 hFF (by decide)
            have hf2 := (hj9 0 (by decide)).trans hf2
            have hf65 := hf9
            refine lv_iload hx hb dX13_hears_106 (lv_at hl 0 rfl) ?_
            exact mz_iret (v := v47) hx hb hr rfl hlocks ⟨hIF, hIG, hIR, hFF, hRR, (fun _ _ => rfl), (by omega), (by omega), (by omega), (by omega), (by omega), (by omega), (by omega), (by omega), (by omega), (by omega), (by omega), (by omega), (by omega), ⟨(fun _ => ⟨by have hE : Ra 3 (108 + p1.toInt.toNat) = v45 := (by rw [← e_v45]; congr 1; show _ = v44.toInt.toNat; omega); have hH : (v45 >>> (p2 &&& 31)) &&& (1 : Int32) = v47 := (by rw [hm_v46, hm_v47]); rw [hE, hH], hre_3.trans (by have hE : Ra 3 (108 + p1.toInt.toNat) = v45 := (by rw [← e_v45]; congr 1; show _ = v44.toInt.toNat; omega); have hH : (v45 >>> (p2 &&& 31)) &&& (1 : Int32) = v47 := (by rw [hm_v46, hm_v47]); rw [hE, show (v48 : Int32).toNatClampNeg = 108 + p1.toInt.toNat by show v48.toInt.toNat = _; omega]; congr 1; unfold jm; rw [hH, if_pos (by omega)]; exact (fi_eq rfl rfl).mpr (by omega))⟩), (fun h9 => (show False by omega).elim)⟩⟩ hM hS dX13_hears_108
        · have hc42 : v34.toInt = 0 := (fi_eq rfl (show (0 : Int32).toInt = 0 by decide)).mp c9
          refine lv_aload_n hx hb dX13_hears_42 rfl (lv_at hl 0 rfl) ?_
          refine lv_bipush (v := (-2)) hx hb dX13_hears_43 (by decide) ?_
          have hk_m2 : ((-2) : Int32).toInt = (-2) := by decide
          refine mz_Vi (As := [.int (-2)]) (rest := []) ⟨hx, hb, hml, hown, hts⟩ hK hM hS (k_X13_tell l D cy ld ad am hD _ _ _ _ (-2) hIF hIG hIR (by omega) (by omega)) ⟨callB_of 1 hts (wl_in mw_296) rfl rfl rfl (htl _ mw_5) (htl _ mw_293) hd_yX13_tell ⟨(Nat.le_of_ble_eq_true rfl), (Nat.le_of_ble_eq_true rfl)⟩, htl _ mw_294, htl _ mw_295⟩ rfl hl.1 rfl (Nat.le_of_ble_eq_true rfl) dX13_hears_45 ⟨(Nat.le_of_ble_eq_true rfl), (Nat.le_of_ble_eq_true rfl)⟩ (fun v66 H locs F G R S hpo hM hS => ?_)
          obtain ⟨hIF, hIG, hIR, hfr9, hrr9, hgr9, hpo67⟩ := hpo
          have hq_v66 := tk_rng v66
          have hFF := mz_fr (K := [0, 1]) (Fa := Fa) hfr9 hFF (by decide)
          have hRR := mz_fr (K := [2, 3]) (Fa := Ra) hrr9 (fun _ _ => rfl) (by decide)
          have hGG := mz_fr (K := []) (Fa := Ga) hgr9 (fun _ _ => rfl) (by decide)
          have hre_3 : R 3 = Ra 3 := (hrr9 3 (by decide)).trans (rfl : Ra 3 = Ra 3)
          have hg_0 : R 3 0 = _ := (congrFun (hrr9 3 (by decide)) 0).trans hg_0
          have hf2 := (hfr9 0 (by decide)).trans hf2
          exact mz_iret (v := v66) hx hb hr rfl hlocks ⟨hIF, hIG, hIR, hFF, hRR, hGG, (by omega), (by omega), (by omega), (by omega), (by omega), (by omega), (by omega), (by omega), (by omega), (by omega), (by omega), (by omega), (by omega), ⟨(fun h9 => (show False by omega).elim), (fun _ => hre_3)⟩⟩ hM hS dX13_hears_48
    · have hc19 : v11.toInt = 0 := (fi_eq rfl (show (0 : Int32).toInt = 0 by decide)).mp c9
      refine lv_aload_n hx hb dX13_hears_20 rfl (lv_at hl 0 rfl) ?_
      refine lv_iconst (v := (-1)) hx hb dX13_hears_21 (by decide) ?_
      have hk_m1 : ((-1) : Int32).toInt = (-1) := by decide
      refine mz_Vi (As := [.int (-1)]) (rest := []) ⟨hx, hb, hml, hown, hts⟩ hK hM hS (k_X13_tell l D cy ld ad am hD _ _ _ _ (-1) hIF hIG hIR (by omega) (by omega)) ⟨callB_of 1 hts (wl_in mw_296) rfl rfl rfl (htl _ mw_5) (htl _ mw_293) hd_yX13_tell ⟨(Nat.le_of_ble_eq_true rfl), (Nat.le_of_ble_eq_true rfl)⟩, htl _ mw_294, htl _ mw_295⟩ rfl hl.1 rfl (Nat.le_of_ble_eq_true rfl) dX13_hears_22 ⟨(Nat.le_of_ble_eq_true rfl), (Nat.le_of_ble_eq_true rfl)⟩ (fun v69 H locs F G R S hpo hM hS => ?_)
      obtain ⟨hIF, hIG, hIR, hfr9, hrr9, hgr9, hpo70⟩ := hpo
      have hq_v69 := tk_rng v69
      have hFF := mz_fr (K := [0, 1]) (Fa := Fa) hfr9 hFF (by decide)
      have hRR := mz_fr (K := [2, 3]) (Fa := Ra) hrr9 (fun _ _ => rfl) (by decide)
      have hGG := mz_fr (K := []) (Fa := Ga) hgr9 (fun _ _ => rfl) (by decide)
      have hre_3 : R 3 = Ra 3 := (hrr9 3 (by decide)).trans (rfl : Ra 3 = Ra 3)
      have hg_0 : R 3 0 = _ := (congrFun (hrr9 3 (by decide)) 0).trans hg_0
      have hf2 := (hfr9 0 (by decide)).trans hf2
      exact mz_iret (v := v69) hx hb hr rfl hlocks ⟨hIF, hIG, hIR, hFF, hRR, hGG, (by omega), (by omega), (by omega), (by omega), (by omega), (by omega), (by omega), (by omega), (by omega), (by omega), (by omega), (by omega), (by omega), ⟨(fun h9 => (show False by omega).elim), (fun _ => hre_3)⟩⟩ hM hS dX13_hears_25
set_option maxHeartbeats 4000000 in
set_option maxRecDepth 100000 in
theorem k_X13_isVerse_x (l : Launch) (D : va_G) (cy : Nat → ClassId) (ld ad : Nat → Nat) (am : Nat) (hD : mz_D ad am) (Fa : Nat → Int32) (Ga : Nat → Int64) (Ra : Nat → Nat → Int32) (Sa : Nat → Nat → Int64) (p1 : Int32) (g1 : Int32) (hIF : mz_IF false Fa) (hIG : mz_IG Ga) (hIR : mz_IR [] true Ra) (hg_0 : Ra 3 1 = g1) : Met l yX13_isVerse (wl yX13_isVerse cX13_isVerse 2 (some .boolean)) ({ frames := 4, cells := 0, slots := 0, locals := 210 }) (mz_p D cy ld ad am Fa Ga Ra Sa [.ref am, .int p1]) (mz_j D cy ad am Fa Ga Ra Sa (fun r => (1 ≤ r.toInt → 0 ≤ p1.toInt ∧ 0 ≤ g1.toInt + (-1) * p1.toInt + (-1)) ∧ (r.toInt ≤ 0 → 0 ≤ p1.toInt → 0 ≤ (-1) * g1.toInt + p1.toInt) ∧ 0 ≤ r.toInt ∧ r.toInt ≤ 1 ∧ 0 ≤ r.toInt ∧ r.toInt ≤ 1)) 0 0 (mz_W ad am) := by
  refine mz_met (y := yX13_isVerse) (cc := cX13_isVerse) (maxL := 2) (ret := (some .boolean)) (av := [.ref am, .int p1]) _ (by decide) (Nat.le_of_ble_eq_true rfl) ?_
  intro p e s m args below meth c hx hb hr hml hts htl hown hlocks hK H locs hM hS ls hl
  have hown : s.vm.findClass RX13 = some m.cls := hown
  have hl : lv_has ls 2 [(0, .ref am), (1, .int p1)] := hl
  have hr_p1 := tk_rng p1
  have hq_g1 := tk_rng g1
  have hr_g1 : 0 ≤ g1.toInt ∧ g1.toInt ≤ 10 := by have h9 := mz_r3c 1 (hIR.at 3) hg_0 (by decide); unfold mE at h9; omega
  refine lv_iload_n hx hb dX13_isVerse_0 rfl (lv_at hl 1 rfl) ?_
  obtain ⟨w1, e_w1, h_w1⟩ : ∃ z : Int64, p1.toInt64 = z ∧ z.toInt = p1.toInt := ⟨_, rfl, fl_w _⟩
  refine lv_i2l (v := w1) hx hb dX13_isVerse_1 e_w1 ?_
  refine lv_lconst (v := 0) hx hb dX13_isVerse_2 (by decide) ?_
  refine lv_aload_n hx hb dX13_isVerse_3 rfl (lv_at hl 0 rfl) ?_
  refine mz_getR hx hb htl hown hK hM 3 (Nat.le_of_ble_eq_true rfl) (Nat.le_of_ble_eq_true rfl) (htl _ mw_188) (fun _ h9 => h9) dX13_isVerse_4 ?_
  refine lv_iconst (v := 1) hx hb dX13_isVerse_7 (by decide) ?_
  refine mz_iald hx hb hK hM 3 (Nat.le_of_ble_eq_true rfl) rfl (nn := 5560) rfl (I := 1) (by decide) (by decide) (by decide) dX13_isVerse_8 (fun v9 e9 => ?_)
  refine fx_ti (v := g1) (e9.symm.trans (show Ra 3 (1 : Int32).toNatClampNeg = _ from hg_0)) ?_
  obtain ⟨w2, e_w2, h_w2⟩ : ∃ z : Int64, g1.toInt64 = z ∧ z.toInt = g1.toInt := ⟨_, rfl, fl_w _⟩
  refine lv_i2l (v := w2) hx hb dX13_isVerse_9 e_w2 ?_
  refine lv_lconst (v := 1) hx hb dX13_isVerse_10 (by decide) ?_
  refine lv_lsub hx hb dX13_isVerse_11 ?_
  refine tk_lsub rfl (show (1 : Int64).toInt = 1 by decide) (by omega) (by omega) (fun w3 h_w3 => ?_)
  have hk_0 : (0 : Int64).toInt = 0 := by decide
  refine mz_Sj (As := [.long w1, .long 0, .long w3]) (rest := []) ⟨hx, hb, hml, hown, hts⟩ hK hM hS (k_X13_in l D cy ld ad am hD _ _ _ _ w1 0 w3) ⟨callB_of 3 hts (wl_in mw_292) rfl rfl rfl (htl _ mw_5) (htl _ mw_290) hd_yX13_in ⟨(Nat.le_of_ble_eq_true rfl), (Nat.le_of_ble_eq_true rfl)⟩, htl _ mw_291⟩ rfl hl.1 rfl (Nat.le_of_ble_eq_true rfl) dX13_isVerse_12 ⟨(Nat.le_of_ble_eq_true rfl), (Nat.le_of_ble_eq_true rfl)⟩ (fun v4 H locs hpo hM hS => ?_)
  obtain ⟨hpo5, hpo6, hpo10, hpo11, hpo12, hpo13⟩ := hpo
  have hq_v4 := tk_rng v4
  exact mz_jret (v := v4) hx hb hr (tk_nz (by omega) (by omega)) hlocks ⟨(by omega), (by omega), (by omega), (by omega), (by omega), (by omega)⟩ hM hS dX13_isVerse_15
set_option maxHeartbeats 4000000 in
set_option maxRecDepth 100000 in
theorem k_X13_sight_x (l : Launch) (D : va_G) (cy : Nat → ClassId) (ld ad : Nat → Nat) (am : Nat) (hD : mz_D ad am) (Fa : Nat → Int32) (Ga : Nat → Int64) (Ra : Nat → Nat → Int32) (Sa : Nat → Nat → Int64) (p1 : Int32) (p2 : Int32) (p3 : Int32) (p4 : Int32) (p5 : Int32) (g0 : Int32) (g1 : Int32) (g3 : Int32) (hIF : mz_IF true Fa) (hIG : mz_IG Ga) (hIR : mz_IR [] true Ra) (hg_0 : Ra 3 0 = g0) (hg_1 : Ra 3 1 = g1) (hg_2 : Ra 3 3 = g3) : Met l yX13_sight (wl yX13_sight cX13_sight 8 (some .int)) ({ frames := 5, cells := 0, slots := 0, locals := 280 }) (mz_p D cy ld ad am Fa Ga Ra Sa [.ref am, .int p1, .int p2, .int p3, .int p4, .int p5]) (mz_i D cy ad am (fun r F G R S => mz_IF true F ∧ mz_IG G ∧ mz_IR [] true R ∧ (∀ k : Nat, k ∉ ([0, 1] : List Nat) → F k = Fa k) ∧ (∀ k : Nat, k ∉ ([2, 3] : List Nat) → R k = Ra k) ∧ (∀ k : Nat, k ∉ ([] : List Nat) → G k = Ga k) ∧ (p3.toInt ≤ (-1) → r.toInt + 1 = 0) ∧ (12 ≤ p3.toInt → r.toInt + 1 = 0) ∧ (p4.toInt ≤ (-1) → r.toInt + 1 = 0) ∧ (2 ≤ p4.toInt → r.toInt + 1 = 0) ∧ (p5.toInt ≤ (-1) → r.toInt + 1 = 0) ∧ (2 ≤ p5.toInt → r.toInt + 1 = 0) ∧ (0 ≤ p3.toInt → p3.toInt ≤ 11 → 0 ≤ p4.toInt → p4.toInt ≤ 1 → 0 ≤ p5.toInt → p5.toInt ≤ 1 → p1.toInt ≤ (-1) → r.toInt + 2 = 0) ∧ (0 ≤ p3.toInt → p3.toInt ≤ 11 → 0 ≤ p4.toInt → p4.toInt ≤ 1 → 0 ≤ p5.toInt → p5.toInt ≤ 1 → 0 ≤ (-1) * g1.toInt + p1.toInt → r.toInt + 2 = 0) ∧ (0 ≤ p3.toInt → p3.toInt ≤ 11 → 0 ≤ p4.toInt → p4.toInt ≤ 1 → 0 ≤ p5.toInt → p5.toInt ≤ 1 → p2.toInt ≤ (-1) → r.toInt + 2 = 0) ∧ (0 ≤ p3.toInt → p3.toInt ≤ 11 → 0 ≤ p4.toInt → p4.toInt ≤ 1 → 0 ≤ p5.toInt → p5.toInt ≤ 1 → 0 ≤ (-1) * g0.toInt + p2.toInt → r.toInt + 2 = 0) ∧ (0 ≤ p3.toInt → p3.toInt ≤ 11 → 0 ≤ p4.toInt → p4.toInt ≤ 1 → 0 ≤ p5.toInt → p5.toInt ≤ 1 → 0 ≤ p1.toInt → 0 ≤ g1.toInt + (-1) * p1.toInt + (-1) → 0 ≤ p2.toInt → 0 ≤ g0.toInt + (-1) * p2.toInt + (-1) → g3.toInt ≤ 7 → (-1) * g3.toInt + r.toInt + (-1) = 0) ∧ (0 ≤ p3.toInt → p3.toInt ≤ 11 → 0 ≤ p4.toInt → p4.toInt ≤ 1 → 0 ≤ p5.toInt → p5.toInt ≤ 1 → 0 ≤ p1.toInt → 0 ≤ g1.toInt + (-1) * p1.toInt + (-1) → 0 ≤ p2.toInt → 0 ≤ g0.toInt + (-1) * p2.toInt + (-1) → 8 ≤ g3.toInt → r.toInt + 5 = 0) ∧ jW r (∃ z : Int32, z.toInt = g3.toInt + 1 ∧ R 3 = upd (upd (upd (upd (upd (upd (Ra 3) (116 + 5 * g3.toInt.toNat) p1) (117 + 5 * g3.toInt.toNat) p2) (118 + 5 * g3.toInt.toNat) p3) (119 + 5 * g3.toInt.toNat) p4) (120 + 5 * g3.toInt.toNat) p5) (3) z) (R 3 = Ra 3))) 0 0 (mz_W ad am) := by
  refine mz_met (y := yX13_sight) (cc := cX13_sight) (maxL := 8) (ret := (some .int)) (av := [.ref am, .int p1, .int p2, .int p3, .int p4, .int p5]) _ (by decide) (Nat.le_of_ble_eq_true rfl) ?_
  intro p e s m args below meth c hx hb hr hml hts htl hown hlocks hK H locs hM hS ls hl
  have hown : s.vm.findClass RX13 = some m.cls := hown
  have hl : lv_has ls 8 [(0, .ref am), (1, .int p1), (2, .int p2), (3, .int p3), (4, .int p4), (5, .int p5)] := hl
  have hr_p1 := tk_rng p1
  have hr_p2 := tk_rng p2
  have hr_p3 := tk_rng p3
  have hr_p4 := tk_rng p4
  have hr_p5 := tk_rng p5
  have hq_g0 := tk_rng g0
  have hq_g1 := tk_rng g1
  have hq_g3 := tk_rng g3
  have hr_g0 : 0 ≤ g0.toInt ∧ g0.toInt ≤ 8 := by have h9 := mz_r3c 0 (hIR.at 3) hg_0 (by decide); unfold mE at h9; omega
  have hr_g1 : 0 ≤ g1.toInt ∧ g1.toInt ≤ 10 := by have h9 := mz_r3c 1 (hIR.at 3) hg_1 (by decide); unfold mE at h9; omega
  have hr_g3 : 0 ≤ g3.toInt ∧ g3.toInt ≤ 8 := by have h9 := mz_r3c 3 (hIR.at 3) hg_2 (by decide); unfold mE at h9; omega
  refine lv_aload_n hx hb dX13_sight_0 rfl (lv_at hl 0 rfl) ?_
  refine lv_iconst (v := 0) hx hb dX13_sight_1 (by decide) ?_
  have hk_0 : (0 : Int32).toInt = 0 := by decide
  refine mz_putI (ty := .int) (x := 0) hx hb htl hown hK hD hM hS 0 (Nat.le_of_ble_eq_true rfl) rfl (htl _ mw_286) (fun _ h9 => h9) rfl (tyX13_ok 0 (by decide)) rfl rfl dX13_sight_2 (fun H locs F hM hS hf9 hj9 => ?_)
  have hIF := hIF.put hf9 hj9 (tk_rng _).1 (tk_rng _).2 (by decide)
  have hFF := mz_frp (K := [0, 1]) (Fa := Fa) hj9 (fun _ _ => rfl) (by decide)
  have hf2 := hf9
  refine lv_iload_n hx hb dX13_sight_5 rfl (lv_at hl 3 rfl) ?_
  obtain ⟨w3, e_w3, h_w3⟩ : ∃ z : Int64, p3.toInt64 = z ∧ z.toInt = p3.toInt := ⟨_, rfl, fl_w _⟩
  refine lv_i2l (v := w3) hx hb dX13_sight_6 e_w3 ?_
  refine lv_lconst (v := 0) hx hb dX13_sight_7 (by decide) ?_
  refine lv_ldc2 hx hb hown (htl _ mw_1494) dX13_sight_8 ?_
  have hk_0 : (0 : Int64).toInt = 0 := by decide
  have hk_11 : (11 : Int64).toInt = 11 := by decide
  refine mz_Sj (As := [.long w3, .long 0, .long 11]) (rest := []) ⟨hx, hb, hml, hown, hts⟩ hK hM hS (k_X13_in l D cy ld ad am hD _ _ _ _ w3 0 11) ⟨callB_of 3 hts (wl_in mw_292) rfl rfl rfl (htl _ mw_5) (htl _ mw_290) hd_yX13_in ⟨(Nat.le_of_ble_eq_true rfl), (Nat.le_of_ble_eq_true rfl)⟩, htl _ mw_291⟩ rfl hl.1 rfl (Nat.le_of_ble_eq_true rfl) dX13_sight_11 ⟨(Nat.le_of_ble_eq_true rfl), (Nat.le_of_ble_eq_true rfl)⟩ (fun v4 H locs hpo hM hS => ?_)
  obtain ⟨hpo5, hpo6, hpo10, hpo11, hpo12, hpo13⟩ := hpo
  have hq_v4 := tk_rng v4
  refine lv_if_eq (tgt := 39) hx hb dX13_sight_14 (by decide) (fun c9 => ?_) (fun c9 => ?_)
  · have hc15 : v4.toInt = 0 := (fi_eq rfl (show (0 : Int32).toInt = 0 by decide)).mp c9
    refine lv_aload_n hx hb dX13_sight_39 rfl (lv_at hl 0 rfl) ?_
    refine lv_iconst (v := (-1)) hx hb dX13_sight_40 (by decide) ?_
    have hk_m1 : ((-1) : Int32).toInt = (-1) := by decide
    refine mz_Vi (As := [.int (-1)]) (rest := []) ⟨hx, hb, hml, hown, hts⟩ hK hM hS (k_X13_tell l D cy ld ad am hD _ _ _ _ (-1) hIF hIG hIR (by omega) (by omega)) ⟨callB_of 1 hts (wl_in mw_296) rfl rfl rfl (htl _ mw_5) (htl _ mw_293) hd_yX13_tell ⟨(Nat.le_of_ble_eq_true rfl), (Nat.le_of_ble_eq_true rfl)⟩, htl _ mw_294, htl _ mw_295⟩ rfl hl.1 rfl (Nat.le_of_ble_eq_true rfl) dX13_sight_41 ⟨(Nat.le_of_ble_eq_true rfl), (Nat.le_of_ble_eq_true rfl)⟩ (fun v16 H locs F G R S hpo hM hS => ?_)
    obtain ⟨hIF, hIG, hIR, hfr9, hrr9, hgr9, hpo17⟩ := hpo
    have hq_v16 := tk_rng v16
    have hFF := mz_fr (K := [0, 1]) (Fa := Fa) hfr9 hFF (by decide)
    have hRR := mz_fr (K := [2, 3]) (Fa := Ra) hrr9 (fun _ _ => rfl) (by decide)
    have hGG := mz_fr (K := []) (Fa := Ga) hgr9 (fun _ _ => rfl) (by decide)
    have hre_3 : R 3 = Ra 3 := (hrr9 3 (by decide)).trans (rfl : Ra 3 = Ra 3)
    have hg_0 : R 3 0 = _ := (congrFun (hrr9 3 (by decide)) 0).trans hg_0
    have hg_1 : R 3 1 = _ := (congrFun (hrr9 3 (by decide)) 1).trans hg_1
    have hg_2 : R 3 3 = _ := (congrFun (hrr9 3 (by decide)) 3).trans hg_2
    have hf2 := (hfr9 0 (by decide)).trans hf2
    exact mz_iret (v := v16) hx hb hr rfl hlocks ⟨hIF, hIG, hIR, hFF, hRR, hGG, (by omega), (by omega), (by omega), (by omega), (by omega), (by omega), (by omega), (by omega), (by omega), (by omega), (by omega), (by omega), ⟨(fun h9 => (show False by omega).elim), (fun _ => hre_3)⟩⟩ hM hS dX13_sight_44
  · have hc15 : ¬ (v4.toInt = 0) := fun h9 => c9 ((fi_eq rfl (show (0 : Int32).toInt = 0 by decide)).mpr h9)
    have hwk_19 : 0 ≤ w3.toInt ∧ w3.toInt ≤ 11 := by omega
    refine lv_iload hx hb dX13_sight_17 (lv_at hl 4 rfl) ?_
    obtain ⟨w20, e_w20, h_w20⟩ : ∃ z : Int64, p4.toInt64 = z ∧ z.toInt = p4.toInt := ⟨_, rfl, fl_w _⟩
    refine lv_i2l (v := w20) hx hb dX13_sight_19 e_w20 ?_
    refine lv_lconst (v := 0) hx hb dX13_sight_20 (by decide) ?_
    refine lv_lconst (v := 1) hx hb dX13_sight_21 (by decide) ?_
    have hk_0 : (0 : Int64).toInt = 0 := by decide
    have hk_1 : (1 : Int64).toInt = 1 := by decide
    refine mz_Sj (As := [.long w20, .long 0, .long 1]) (rest := []) ⟨hx, hb, hml, hown, hts⟩ hK hM hS (k_X13_in l D cy ld ad am hD _ _ _ _ w20 0 1) ⟨callB_of 3 hts (wl_in mw_292) rfl rfl rfl (htl _ mw_5) (htl _ mw_290) hd_yX13_in ⟨(Nat.le_of_ble_eq_true rfl), (Nat.le_of_ble_eq_true rfl)⟩, htl _ mw_291⟩ rfl hl.1 rfl (Nat.le_of_ble_eq_true rfl) dX13_sight_22 ⟨(Nat.le_of_ble_eq_true rfl), (Nat.le_of_ble_eq_true rfl)⟩ (fun v21 H locs hpo hM hS => ?_)
    obtain ⟨hpo22, hpo23, hpo24, hpo25, hpo26, hpo27⟩ := hpo
    have hq_v21 := tk_rng v21
    refine lv_if_eq (tgt := 39) hx hb dX13_sight_25 (by decide) (fun c9 => ?_) (fun c9 => ?_)
    · have hc29 : v21.toInt = 0 := (fi_eq rfl (show (0 : Int32).toInt = 0 by decide)).mp c9
      refine lv_aload_n hx hb dX13_sight_39 rfl (lv_at hl 0 rfl) ?_
      refine lv_iconst (v := (-1)) hx hb dX13_sight_40 (by decide) ?_
      have hk_m1 : ((-1) : Int32).toInt = (-1) := by decide
      refine mz_Vi (As := [.int (-1)]) (rest := []) ⟨hx, hb, hml, hown, hts⟩ hK hM hS (k_X13_tell l D cy ld ad am hD _ _ _ _ (-1) hIF hIG hIR (by omega) (by omega)) ⟨callB_of 1 hts (wl_in mw_296) rfl rfl rfl (htl _ mw_5) (htl _ mw_293) hd_yX13_tell ⟨(Nat.le_of_ble_eq_true rfl), (Nat.le_of_ble_eq_true rfl)⟩, htl _ mw_294, htl _ mw_295⟩ rfl hl.1 rfl (Nat.le_of_ble_eq_true rfl) dX13_sight_41 ⟨(Nat.le_of_ble_eq_true rfl), (Nat.le_of_ble_eq_true rfl)⟩ (fun v30 H locs F G R S hpo hM hS => ?_)
      obtain ⟨hIF, hIG, hIR, hfr9, hrr9, hgr9, hpo31⟩ := hpo
      have hq_v30 := tk_rng v30
      have hFF := mz_fr (K := [0, 1]) (Fa := Fa) hfr9 hFF (by decide)
      have hRR := mz_fr (K := [2, 3]) (Fa := Ra) hrr9 (fun _ _ => rfl) (by decide)
      have hGG := mz_fr (K := []) (Fa := Ga) hgr9 (fun _ _ => rfl) (by decide)
      have hre_3 : R 3 = Ra 3 := (hrr9 3 (by decide)).trans (rfl : Ra 3 = Ra 3)
      have hg_0 : R 3 0 = _ := (congrFun (hrr9 3 (by decide)) 0).trans hg_0
      have hg_1 : R 3 1 = _ := (congrFun (hrr9 3 (by decide)) 1).trans hg_1
      have hg_2 : R 3 3 = _ := (congrFun (hrr9 3 (by decide)) 3).trans hg_2
      have hf2 := (hfr9 0 (by decide)).trans hf2
      exact mz_iret (v := v30) hx hb hr rfl hlocks ⟨hIF, hIG, hIR, hFF, hRR, hGG, (by omega), (by omega), (by omega), (by omega), (by omega), (by omega), (by omega), (by omega), (by omega), (by omega), (by omega), (by omega), ⟨(fun h9 => (show False by omega).elim), (fun _ => hre_3)⟩⟩ hM hS dX13_sight_44
    · have hc29 : ¬ (v21.toInt = 0) := fun h9 => c9 ((fi_eq rfl (show (0 : Int32).toInt = 0 by decide)).mpr h9)
      have hwk_33 : 0 ≤ w20.toInt ∧ w20.toInt ≤ 1 := by omega
      refine lv_iload hx hb dX13_sight_28 (lv_at hl 5 rfl) ?_
      obtain ⟨w34, e_w34, h_w34⟩ : ∃ z : Int64, p5.toInt64 = z ∧ z.toInt = p5.toInt := ⟨_, rfl, fl_w _⟩
      refine lv_i2l (v := w34) hx hb dX13_sight_30 e_w34 ?_
      refine lv_lconst (v := 0) hx hb dX13_sight_31 (by decide) ?_
      refine lv_lconst (v := 1) hx hb dX13_sight_32 (by decide) ?_
      have hk_0 : (0 : Int64).toInt = 0 := by decide
      have hk_1 : (1 : Int64).toInt = 1 := by decide
      refine mz_Sj (As := [.long w34, .long 0, .long 1]) (rest := []) ⟨hx, hb, hml, hown, hts⟩ hK hM hS (k_X13_in l D cy ld ad am hD _ _ _ _ w34 0 1) ⟨callB_of 3 hts (wl_in mw_292) rfl rfl rfl (htl _ mw_5) (htl _ mw_290) hd_yX13_in ⟨(Nat.le_of_ble_eq_true rfl), (Nat.le_of_ble_eq_true rfl)⟩, htl _ mw_291⟩ rfl hl.1 rfl (Nat.le_of_ble_eq_true rfl) dX13_sight_33 ⟨(Nat.le_of_ble_eq_true rfl), (Nat.le_of_ble_eq_true rfl)⟩ (fun v35 H locs hpo hM hS => ?_)
      obtain ⟨hpo36, hpo37, hpo38, hpo39, hpo40, hpo41⟩ := hpo
      have hq_v35 := tk_rng v35
      refine lv_if_ne (tgt := 45) hx hb dX13_sight_36 (by decide) (fun c9 => ?_) (fun c9 => ?_)
      · have hc43 : ¬ (v35.toInt = 0) := fun h9 => c9 ((fi_eq rfl (show (0 : Int32).toInt = 0 by decide)).mpr h9)
        have hwk_44 : 0 ≤ w34.toInt ∧ w34.toInt ≤ 1 := by omega
        refine lv_aload_n hx hb dX13_sight_45 rfl (lv_at hl 0 rfl) ?_
        refine lv_iload_n hx hb dX13_sight_46 rfl (lv_at hl 1 rfl) ?_
        refine mz_Vj (As := [.int p1]) (rest := []) ⟨hx, hb, hml, hown, hts⟩ hK hM hS (k_X13_isVerse_x l D cy ld ad am hD _ _ _ _ p1 g1 (hIF.weak) hIG hIR hg_1) ⟨callB_of 1 hts (wl_in mw_360) rfl rfl rfl (htl _ mw_5) (htl _ mw_357) hd_yX13_isVerse ⟨(Nat.le_of_ble_eq_true rfl), (Nat.le_of_ble_eq_true rfl)⟩, htl _ mw_358, htl _ mw_359⟩ rfl hl.1 rfl (Nat.le_of_ble_eq_true rfl) dX13_sight_47 ⟨(Nat.le_of_ble_eq_true rfl), (Nat.le_of_ble_eq_true rfl)⟩ (fun v45 H locs hpo hM hS => ?_)
        obtain ⟨hpo46, hpo47, hpo48, hpo49, hpo50, hpo51⟩ := hpo
        have hq_v45 := tk_rng v45
        refine lv_if_eq (tgt := 61) hx hb dX13_sight_50 (by decide) (fun c9 => ?_) (fun c9 => ?_)
        · have hc53 : v45.toInt = 0 := (fi_eq rfl (show (0 : Int32).toInt = 0 by decide)).mp c9
          refine lv_aload_n hx hb dX13_sight_61 rfl (lv_at hl 0 rfl) ?_
          refine lv_bipush (v := (-2)) hx hb dX13_sight_62 (by decide) ?_
          have hk_m2 : ((-2) : Int32).toInt = (-2) := by decide
          refine mz_Vi (As := [.int (-2)]) (rest := []) ⟨hx, hb, hml, hown, hts⟩ hK hM hS (k_X13_tell l D cy ld ad am hD _ _ _ _ (-2) hIF hIG hIR (by omega) (by omega)) ⟨callB_of 1 hts (wl_in mw_296) rfl rfl rfl (htl _ mw_5) (htl _ mw_293) hd_yX13_tell ⟨(Nat.le_of_ble_eq_true rfl), (Nat.le_of_ble_eq_true rfl)⟩, htl _ mw_294, htl _ mw_295⟩ rfl hl.1 rfl (Nat.le_of_ble_eq_true rfl) dX13_sight_64 ⟨(Nat.le_of_ble_eq_true rfl), (Nat.le_of_ble_eq_true rfl)⟩ (fun v54 H locs F G R S hpo hM hS => ?_)
          obtain ⟨hIF, hIG, hIR, hfr9, hrr9, hgr9, hpo55⟩ := hpo
          have hq_v54 := tk_rng v54
          have hFF := mz_fr (K := [0, 1]) (Fa := Fa) hfr9 hFF (by decide)
          have hRR := mz_fr (K := [2, 3]) (Fa := Ra) hrr9 (fun _ _ => rfl) (by decide)
          have hGG := mz_fr (K := []) (Fa := Ga) hgr9 (fun _ _ => rfl) (by decide)
          have hre_3 : R 3 = Ra 3 := (hrr9 3 (by decide)).trans (rfl : Ra 3 = Ra 3)
          have hg_0 : R 3 0 = _ := (congrFun (hrr9 3 (by decide)) 0).trans hg_0
          have hg_1 : R 3 1 = _ := (congrFun (hrr9 3 (by decide)) 1).trans hg_1
          have hg_2 : R 3 3 = _ := (congrFun (hrr9 3 (by decide)) 3).trans hg_2
          have hf2 := (hfr9 0 (by decide)).trans hf2
          exact mz_iret (v := v54) hx hb hr rfl hlocks ⟨hIF, hIG, hIR, hFF, hRR, hGG, (by omega), (by omega), (by omega), (by omega), (by omega), (by omega), (by omega), (by omega), (by omega), (by omega), (by omega), (by omega), ⟨(fun h9 => (show False by omega).elim), (fun _ => hre_3)⟩⟩ hM hS dX13_sight_67
        · have hc53 : ¬ (v45.toInt = 0) := fun h9 => c9 ((fi_eq rfl (show (0 : Int32).toInt = 0 by decide)).mpr h9)
          have hwk_57 : 0 ≤ p1.toInt ∧ 0 ≤ g1.toInt + (-1) * p1.toInt + (-1) := by omega
          refine lv_aload_n hx hb dX13_sight_53 rfl (lv_at hl 0 rfl) ?_
          refine lv_iload_n hx hb dX13_sight_54 rfl (lv_at hl 2 rfl) ?_
          refine mz_Vj (As := [.int p2]) (rest := []) ⟨hx, hb, hml, hown, hts⟩ hK hM hS (k_X13_isSinger_x l D cy ld ad am hD _ _ _ _ p2 g0 (hIF.weak) hIG hIR hg_0) ⟨callB_of 1 hts (wl_in mw_320) rfl rfl rfl (htl _ mw_5) (htl _ mw_317) hd_yX13_isSinger ⟨(Nat.le_of_ble_eq_true rfl), (Nat.le_of_ble_eq_true rfl)⟩, htl _ mw_318, htl _ mw_319⟩ rfl hl.1 rfl (Nat.le_of_ble_eq_true rfl) dX13_sight_55 ⟨(Nat.le_of_ble_eq_true rfl), (Nat.le_of_ble_eq_true rfl)⟩ (fun v58 H locs hpo hM hS => ?_)
          obtain ⟨hpo59, hpo60, hpo61, hpo62, hpo63, hpo64⟩ := hpo
          have hq_v58 := tk_rng v58
          refine lv_if_ne (tgt := 68) hx hb dX13_sight_58 (by decide) (fun c9 => ?_) (fun c9 => ?_)
          · have hc66 : ¬ (v58.toInt = 0) := fun h9 => c9 ((fi_eq rfl (show (0 : Int32).toInt = 0 by decide)).mpr h9)
            have hwk_67 : 0 ≤ p2.toInt ∧ 0 ≤ g0.toInt + (-1) * p2.toInt + (-1) := by omega
            refine lv_aload_n hx hb dX13_sight_68 rfl (lv_at hl 0 rfl) ?_
            refine mz_getR hx hb htl hown hK hM 3 (Nat.le_of_ble_eq_true rfl) (Nat.le_of_ble_eq_true rfl) (htl _ mw_188) (fun _ h9 => h9) dX13_sight_69 ?_
            refine lv_iconst (v := 3) hx hb dX13_sight_72 (by decide) ?_
            refine mz_iald hx hb hK hM 3 (Nat.le_of_ble_eq_true rfl) rfl (nn := 5560) rfl (I := 3) (by decide) (by decide) (by decide) dX13_sight_73 (fun v9 e9 => ?_)
            refine fx_ti (v := g3) (e9.symm.trans (show Ra 3 (3 : Int32).toNatClampNeg = _ from hg_2)) ?_
            refine lv_istore (lv' := [(6, .int g3), (0, .ref am), (1, .int p1), (2, .int p2), (3, .int p3), (4, .int p4), (5, .int p5)]) hx hb dX13_sight_74 hl (by decide) rfl (fun ls hl => ?_)
            refine lv_iload hx hb dX13_sight_76 (lv_at hl 0 rfl) ?_
            refine lv_bipush (v := 8) hx hb dX13_sight_78 (by decide) ?_
            refine lv_icmp_ne (tgt := 90) hx hb dX13_sight_80 (by decide) (fun c9 => ?_) (fun c9 => ?_)
            · have hc68 : ¬ (g3.toInt = 8) := fun h9 => c9 ((fi_eq rfl (show (8 : Int32).toInt = 8 by decide)).mpr h9)
              refine lv_bipush (v := 116) hx hb dX13_sight_90 (by decide) ?_
              refine lv_iconst (v := 5) hx hb dX13_sight_92 (by decide) ?_
              refine lv_iload hx hb dX13_sight_93 (lv_at hl 0 rfl) ?_
              refine lv_imul hx hb dX13_sight_95 ?_
              refine tk_mul (show (5 : Int32).toInt = 5 by decide) rfl (by omega) (by omega) (fun v69 h_v69 => ?_)
              refine lv_iadd hx hb dX13_sight_96 ?_
              refine tk_add (show (116 : Int32).toInt = 116 by decide) rfl (by omega) (by omega) (fun v70 h_v70 => ?_)
              refine lv_istore (lv' := [(7, .int v70), (6, .int g3), (0, .ref am), (1, .int p1), (2, .int p2), (3, .int p3), (4, .int p4), (5, .int p5)]) hx hb dX13_sight_97 hl (by decide) rfl (fun ls hl => ?_)
              refine lv_aload_n hx hb dX13_sight_99 rfl (lv_at hl 2 rfl) ?_
              refine mz_getR hx hb htl hown hK hM 3 (Nat.le_of_ble_eq_true rfl) (Nat.le_of_ble_eq_true rfl) (htl _ mw_188) (fun _ h9 => h9) dX13_sight_100 ?_
              refine lv_iload hx hb dX13_sight_103 (lv_at hl 0 rfl) ?_
              refine lv_iload_n hx hb dX13_sight_105 rfl (lv_at hl 3 rfl) ?_
              refine mz_iast (x := p1) hx hb hK hD hM hS 3 (Nat.le_of_ble_eq_true rfl) rfl (nn := 5560) rfl rfl (by omega) (by omega) dX13_sight_106 (fun H locs R hM hS hw9 hj9 => ?_)
              have hIR := hIR.put hw9 hj9 (mz_r3 (hIR.at 3) (I := v70.toInt) rfl (by omega) (by omega) (fun h9 => by first | (cases h9; done) | omega) (by unfold mE; omega))
              have hRR := mz_frp (K := [2, 3]) (Fa := Ra) hj9 (fun _ _ => rfl) (by decide)
              have hre_3 : R 3 = upd (Ra 3) (v70 : Int32).toNatClampNeg p1 := hw9.trans (congrArg (fun f => upd f (v70 : Int32).toNatClampNeg p1) (rfl : Ra 3 = Ra 3))
              have hg_0 : R 3 0 = _ := (congrFun hw9 0).trans ((pk_un (fun h9 => by have h8 := tk_nat (i := v70) rfl (by omega); omega)).trans hg_0)
              have hg_1 : R 3 1 = _ := (congrFun hw9 1).trans ((pk_un (fun h9 => by have h8 := tk_nat (i := v70) rfl (by omega); omega)).trans hg_1)
              have hg_2 : R 3 3 = _ := (congrFun hw9 3).trans ((pk_un (fun h9 => by have h8 := tk_nat (i := v70) rfl (by omega); omega)).trans hg_2)
              refine lv_aload_n hx hb dX13_sight_107 rfl (lv_at hl 2 rfl) ?_
              refine mz_getR hx hb htl hown hK hM 3 (Nat.le_of_ble_eq_true rfl) (Nat.le_of_ble_eq_true rfl) (htl _ mw_188) (fun _ h9 => h9) dX13_sight_108 ?_
              refine lv_iload hx hb dX13_sight_111 (lv_at hl 0 rfl) ?_
              refine lv_iconst (v := 1) hx hb dX13_sight_113 (by decide) ?_
              refine lv_iadd hx hb dX13_sight_114 ?_
              refine tk_add rfl (show (1 : Int32).toInt = 1 by decide) (by omega) (by omega) (fun v72 h_v72 => ?_)
              refine lv_iload_n hx hb dX13_sight_115 rfl (lv_at hl 4 rfl) ?_
              refine mz_iast (x := p2) hx hb hK hD hM hS 3 (Nat.le_of_ble_eq_true rfl) rfl (nn := 5560) rfl rfl (by omega) (by omega) dX13_sight_116 (fun H locs R hM hS hw9 hj9 => ?_)
              have hIR := hIR.put hw9 hj9 (mz_r3 (hIR.at 3) (I := v72.toInt) rfl (by omega) (by omega) (fun h9 => by first | (cases h9; done) | omega) (by unfold mE; omega))
              have hRR := mz_frp (K := [2, 3]) (Fa := Ra) hj9 hRR (by decide)
              have hre_3 : R 3 = upd (upd (Ra 3) (v70 : Int32).toNatClampNeg p1) (v72 : Int32).toNatClampNeg p2 := hw9.trans (congrArg (fun f => upd f (v72 : Int32).toNatClampNeg p2) hre_3)
              have hg_0 : R 3 0 = _ := (congrFun hw9 0).trans ((pk_un (fun h9 => by have h8 := tk_nat (i := v72) rfl (by omega); omega)).trans hg_0)
              have hg_1 : R 3 1 = _ := (congrFun hw9 1).trans ((pk_un (fun h9 => by have h8 := tk_nat (i := v72) rfl (by omega); omega)).trans hg_1)
              have hg_2 : R 3 3 = _ := (congrFun hw9 3).trans ((pk_un (fun h9 => by have h8 := tk_nat (i := v72) rfl (by omega); omega)).trans hg_2)
              refine lv_aload_n hx hb dX13_sight_117 rfl (lv_at hl 2 rfl) ?_
              refine mz_getR hx hb htl hown hK hM 3 (Nat.le_of_ble_eq_true rfl) (Nat.le_of_ble_eq_true rfl) (htl _ mw_188) (fun _ h9 => h9) dX13_sight_118 ?_
              refine lv_iload hx hb dX13_sight_121 (lv_at hl 0 rfl) ?_
              refine lv_iconst (v := 2) hx hb dX13_sight_123 (by decide) ?_
              refine lv_iadd hx hb dX13_sight_124 ?_
              refine tk_add rfl (show (2 : Int32).toInt = 2 by decide) (by omega) (by omega) (fun v74 h_v74 => ?_)
              refine lv_iload_n hx hb dX13_sight_125 rfl (lv_at hl 5 rfl) ?_
              refine mz_iast (x := p3) hx hb hK hD hM hS 3 (Nat.le_of_ble_eq_true rfl) rfl (nn := 5560) rfl rfl (by omega) (by omega) dX13_sight_126 (fun H locs R hM hS hw9 hj9 => ?_)
              have hIR := hIR.put hw9 hj9 (mz_r3 (hIR.at 3) (I := v74.toInt) rfl (by omega) (by omega) (fun h9 => by first | (cases h9; done) | omega) (by unfold mE; omega))
              have hRR := mz_frp (K := [2, 3]) (Fa := Ra) hj9 hRR (by decide)
              have hre_3 : R 3 = upd (upd (upd (Ra 3) (v70 : Int32).toNatClampNeg p1) (v72 : Int32).toNatClampNeg p2) (v74 : Int32).toNatClampNeg p3 := hw9.trans (congrArg (fun f => upd f (v74 : Int32).toNatClampNeg p3) hre_3)
              have hg_0 : R 3 0 = _ := (congrFun hw9 0).trans ((pk_un (fun h9 => by have h8 := tk_nat (i := v74) rfl (by omega); omega)).trans hg_0)
              have hg_1 : R 3 1 = _ := (congrFun hw9 1).trans ((pk_un (fun h9 => by have h8 := tk_nat (i := v74) rfl (by omega); omega)).trans hg_1)
              have hg_2 : R 3 3 = _ := (congrFun hw9 3).trans ((pk_un (fun h9 => by have h8 := tk_nat (i := v74) rfl (by omega); omega)).trans hg_2)
              refine lv_aload_n hx hb dX13_sight_127 rfl (lv_at hl 2 rfl) ?_
              refine mz_getR hx hb htl hown hK hM 3 (Nat.le_of_ble_eq_true rfl) (Nat.le_of_ble_eq_true rfl) (htl _ mw_188) (fun _ h9 => h9) dX13_sight_128 ?_
              refine lv_iload hx hb dX13_sight_131 (lv_at hl 0 rfl) ?_
              refine lv_iconst (v := 3) hx hb dX13_sight_133 (by decide) ?_
              refine lv_iadd hx hb dX13_sight_134 ?_
              refine tk_add rfl (show (3 : Int32).toInt = 3 by decide) (by omega) (by omega) (fun v76 h_v76 => ?_)
              refine lv_iload hx hb dX13_sight_135 (lv_at hl 6 rfl) ?_
              refine mz_iast (x := p4) hx hb hK hD hM hS 3 (Nat.le_of_ble_eq_true rfl) rfl (nn := 5560) rfl rfl (by omega) (by omega) dX13_sight_137 (fun H locs R hM hS hw9 hj9 => ?_)
              have hIR := hIR.put hw9 hj9 (mz_r3 (hIR.at 3) (I := v76.toInt) rfl (by omega) (by omega) (fun h9 => by first | (cases h9; done) | omega) (by unfold mE; omega))
              have hRR := mz_frp (K := [2, 3]) (Fa := Ra) hj9 hRR (by decide)
              have hre_3 : R 3 = upd (upd (upd (upd (Ra 3) (v70 : Int32).toNatClampNeg p1) (v72 : Int32).toNatClampNeg p2) (v74 : Int32).toNatClampNeg p3) (v76 : Int32).toNatClampNeg p4 := hw9.trans (congrArg (fun f => upd f (v76 : Int32).toNatClampNeg p4) hre_3)
              have hg_0 : R 3 0 = _ := (congrFun hw9 0).trans ((pk_un (fun h9 => by have h8 := tk_nat (i := v76) rfl (by omega); omega)).trans hg_0)
              have hg_1 : R 3 1 = _ := (congrFun hw9 1).trans ((pk_un (fun h9 => by have h8 := tk_nat (i := v76) rfl (by omega); omega)).trans hg_1)
              have hg_2 : R 3 3 = _ := (congrFun hw9 3).trans ((pk_un (fun h9 => by have h8 := tk_nat (i := v76) rfl (by omega); omega)).trans hg_2)
              refine lv_aload_n hx hb dX13_sight_138 rfl (lv_at hl 2 rfl) ?_
              refine mz_getR hx hb htl hown hK hM 3 (Nat.le_of_ble_eq_true rfl) (Nat.le_of_ble_eq_true rfl) (htl _ mw_188) (fun _ h9 => h9) dX13_sight_139 ?_
              refine lv_iload hx hb dX13_sight_142 (lv_at hl 0 rfl) ?_
              refine lv_iconst (v := 4) hx hb dX13_sight_144 (by decide) ?_
              refine lv_iadd hx hb dX13_sight_145 ?_
              refine tk_add rfl (show (4 : Int32).toInt = 4 by decide) (by omega) (by omega) (fun v78 h_v78 => ?_)
              refine lv_iload hx hb dX13_sight_146 (lv_at hl 7 rfl) ?_
              refine mz_iast (x := p5) hx hb hK hD hM hS 3 (Nat.le_of_ble_eq_true rfl) rfl (nn := 5560) rfl rfl (by omega) (by omega) dX13_sight_148 (fun H locs R hM hS hw9 hj9 => ?_)
              have hIR := hIR.put hw9 hj9 (mz_r3 (hIR.at 3) (I := v78.toInt) rfl (by omega) (by omega) (fun h9 => by first | (cases h9; done) | omega) (by unfold mE; omega))
              have hRR := mz_frp (K := [2, 3]) (Fa := Ra) hj9 hRR (by decide)
              have hre_3 : R 3 = upd (upd (upd (upd (upd (Ra 3) (v70 : Int32).toNatClampNeg p1) (v72 : Int32).toNatClampNeg p2) (v74 : Int32).toNatClampNeg p3) (v76 : Int32).toNatClampNeg p4) (v78 : Int32).toNatClampNeg p5 := hw9.trans (congrArg (fun f => upd f (v78 : Int32).toNatClampNeg p5) hre_3)
              have hg_0 : R 3 0 = _ := (congrFun hw9 0).trans ((pk_un (fun h9 => by have h8 := tk_nat (i := v78) rfl (by omega); omega)).trans hg_0)
              have hg_1 : R 3 1 = _ := (congrFun hw9 1).trans ((pk_un (fun h9 => by have h8 := tk_nat (i := v78) rfl (by omega); omega)).trans hg_1)
              have hg_2 : R 3 3 = _ := (congrFun hw9 3).trans ((pk_un (fun h9 => by have h8 := tk_nat (i := v78) rfl (by omega); omega)).trans hg_2)
              refine lv_aload_n hx hb dX13_sight_149 rfl (lv_at hl 2 rfl) ?_
              refine mz_getR hx hb htl hown hK hM 3 (Nat.le_of_ble_eq_true rfl) (Nat.le_of_ble_eq_true rfl) (htl _ mw_188) (fun _ h9 => h9) dX13_sight_150 ?_
              refine lv_iconst (v := 3) hx hb dX13_sight_153 (by decide) ?_
              refine lv_dup2_11 hx hb dX13_sight_154 rfl rfl ?_
              refine mz_iald hx hb hK hM 3 (Nat.le_of_ble_eq_true rfl) rfl (nn := 5560) rfl (I := 3) (by decide) (by decide) (by decide) dX13_sight_155 (fun v9 e9 => ?_)
              refine fx_ti (v := g3) (e9.symm.trans (show R 3 (3 : Int32).toNatClampNeg = _ from hg_2)) ?_
              refine lv_iconst (v := 1) hx hb dX13_sight_156 (by decide) ?_
              refine lv_iadd hx hb dX13_sight_157 ?_
              refine tk_add rfl (show (1 : Int32).toInt = 1 by decide) (by omega) (by omega) (fun v80 h_v80 => ?_)
              have hk_3 : (3 : Int32).toInt = 3 := by decide
              refine mz_iast (x := v80) hx hb hK hD hM hS 3 (Nat.le_of_ble_eq_true rfl) rfl (nn := 5560) rfl (I := 3) (by decide) (by decide) (by decide) dX13_sight_158 (fun H locs R hM hS hw9 hj9 => ?_)
              have hIR := hIR.put hw9 hj9 (mz_r3 (hIR.at 3) (I := 3) (by decide) (by omega) (by omega) (fun h9 => by first | (cases h9; done) | omega) (by unfold mE; omega))
              have hRR := mz_frp (K := [2, 3]) (Fa := Ra) hj9 hRR (by decide)
              have hre_3 : R 3 = upd (upd (upd (upd (upd (upd (Ra 3) (v70 : Int32).toNatClampNeg p1) (v72 : Int32).toNatClampNeg p2) (v74 : Int32).toNatClampNeg p3) (v76 : Int32).toNatClampNeg p4) (v78 : Int32).toNatClampNeg p5) (3 : Int32).toNatClampNeg v80 := hw9.trans (congrArg (fun f => upd f (3 : Int32).toNatClampNeg v80) hre_3)
              have hg_0 : R 3 0 = _ := (congrFun hw9 0).trans ((pk_un (by decide)).trans hg_0)
              have hg_1 : R 3 1 = _ := (congrFun hw9 1).trans ((pk_un (by decide)).trans hg_1)
              have hf82 : R 3 3 = v80 := (congrFun hw9 3).trans pk_us
              refine lv_aload_n hx hb dX13_sight_159 rfl (lv_at hl 2 rfl) ?_
              refine lv_iload hx hb dX13_sight_160 (lv_at hl 1 rfl) ?_
              refine lv_iconst (v := 1) hx hb dX13_sight_162 (by decide) ?_
              refine lv_iadd hx hb dX13_sight_163 ?_
              refine tk_add rfl (show (1 : Int32).toInt = 1 by decide) (by omega) (by omega) (fun v83 h_v83 => ?_)
              refine mz_Vi (As := [.int v83]) (rest := []) ⟨hx, hb, hml, hown, hts⟩ hK hM hS (k_X13_tell l D cy ld ad am hD _ _ _ _ v83 hIF hIG hIR (by omega) (by omega)) ⟨callB_of 1 hts (wl_in mw_296) rfl rfl rfl (htl _ mw_5) (htl _ mw_293) hd_yX13_tell ⟨(Nat.le_of_ble_eq_true rfl), (Nat.le_of_ble_eq_true rfl)⟩, htl _ mw_294, htl _ mw_295⟩ rfl hl.1 rfl (Nat.le_of_ble_eq_true rfl) dX13_sight_164 ⟨(Nat.le_of_ble_eq_true rfl), (Nat.le_of_ble_eq_true rfl)⟩ (fun v84 H locs F G R S hpo hM hS => ?_)
              obtain ⟨hIF, hIG, hIR, hfr9, hrr9, hgr9, hpo85⟩ := hpo
              have hq_v84 := tk_rng v84
              have hFF := mz_fr (K := [0, 1]) (Fa := Fa) hfr9 hFF (by decide)
              have hRR := mz_fr (K := [2, 3]) (Fa := Ra) hrr9 hRR (by decide)
              have hGG := mz_fr (K := []) (Fa := Ga) hgr9 (fun _ _ => rfl) (by decide)
              have hre_3 : R 3 = upd (upd (upd (upd (upd (upd (Ra 3) (v70 : Int32).toNatClampNeg p1) (v72 : Int32).toNatClampNeg p2) (v74 : Int32).toNatClampNeg p3) (v76 : Int32).toNatClampNeg p4) (v78 : Int32).toNatClampNeg p5) (3 : Int32).toNatClampNeg v80 := (hrr9 3 (by decide)).trans hre_3
              have hg_0 : R 3 0 = _ := (congrFun (hrr9 3 (by decide)) 0).trans hg_0
              have hg_1 : R 3 1 = _ := (congrFun (hrr9 3 (by decide)) 1).trans hg_1
              have hf2 := (hfr9 0 (by decide)).trans hf2
              have hf82 : R 3 3 = _ := (congrFun (hrr9 3 (by decide)) 3).trans hf82
              exact mz_iret (v := v84) hx hb hr rfl hlocks ⟨hIF, hIG, hIR, hFF, hRR, hGG, (by omega), (by omega), (by omega), (by omega), (by omega), (by omega), (by omega), (by omega), (by omega), (by omega), (by omega), (by omega), ⟨(fun _ => ⟨v80, by omega, hre_3.trans (by rw [show (v70 : Int32).toNatClampNeg = 116 + 5 * g3.toInt.toNat by show v70.toInt.toNat = _; omega, show (v72 : Int32).toNatClampNeg = 117 + 5 * g3.toInt.toNat by show v72.toInt.toNat = _; omega, show (v74 : Int32).toNatClampNeg = 118 + 5 * g3.toInt.toNat by show v74.toInt.toNat = _; omega, show (v76 : Int32).toNatClampNeg = 119 + 5 * g3.toInt.toNat by show v76.toInt.toNat = _; omega, show (v78 : Int32).toNatClampNeg = 120 + 5 * g3.toInt.toNat by show v78.toInt.toNat = _; omega, show (3 : Int32).toNatClampNeg = 3 by decide])⟩), (fun h9 => (show False by omega).elim)⟩⟩ hM hS dX13_sight_167
            · have hc68 : g3.toInt = 8 := (fi_eq rfl (show (8 : Int32).toInt = 8 by decide)).mp c9
              refine lv_aload_n hx hb dX13_sight_83 rfl (lv_at hl 1 rfl) ?_
              refine lv_bipush (v := (-5)) hx hb dX13_sight_84 (by decide) ?_
              have hk_m5 : ((-5) : Int32).toInt = (-5) := by decide
              refine mz_Vi (As := [.int (-5)]) (rest := []) ⟨hx, hb, hml, hown, hts⟩ hK hM hS (k_X13_tell l D cy ld ad am hD _ _ _ _ (-5) hIF hIG hIR (by omega) (by omega)) ⟨callB_of 1 hts (wl_in mw_296) rfl rfl rfl (htl _ mw_5) (htl _ mw_293) hd_yX13_tell ⟨(Nat.le_of_ble_eq_true rfl), (Nat.le_of_ble_eq_true rfl)⟩, htl _ mw_294, htl _ mw_295⟩ rfl hl.1 rfl (Nat.le_of_ble_eq_true rfl) dX13_sight_86 ⟨(Nat.le_of_ble_eq_true rfl), (Nat.le_of_ble_eq_true rfl)⟩ (fun v87 H locs F G R S hpo hM hS => ?_)
              obtain ⟨hIF, hIG, hIR, hfr9, hrr9, hgr9, hpo88⟩ := hpo
              have hq_v87 := tk_rng v87
              have hFF := mz_fr (K := [0, 1]) (Fa := Fa) hfr9 hFF (by decide)
              have hRR := mz_fr (K := [2, 3]) (Fa := Ra) hrr9 (fun _ _ => rfl) (by decide)
              have hGG := mz_fr (K := []) (Fa := Ga) hgr9 (fun _ _ => rfl) (by decide)
              have hre_3 : R 3 = Ra 3 := (hrr9 3 (by decide)).trans (rfl : Ra 3 = Ra 3)
              have hg_0 : R 3 0 = _ := (congrFun (hrr9 3 (by decide)) 0).trans hg_0
              have hg_1 : R 3 1 = _ := (congrFun (hrr9 3 (by decide)) 1).trans hg_1
              have hg_2 : R 3 3 = _ := (congrFun (hrr9 3 (by decide)) 3).trans hg_2
              have hf2 := (hfr9 0 (by decide)).trans hf2
              exact mz_iret (v := v87) hx hb hr rfl hlocks ⟨hIF, hIG, hIR, hFF, hRR, hGG, (by omega), (by omega), (by omega), (by omega), (by omega), (by omega), (by omega), (by omega), (by omega), (by omega), (by omega), (by omega), ⟨(fun h9 => (show False by omega).elim), (fun _ => hre_3)⟩⟩ hM hS dX13_sight_89
          · have hc66 : v58.toInt = 0 := (fi_eq rfl (show (0 : Int32).toInt = 0 by decide)).mp c9
            refine lv_aload_n hx hb dX13_sight_61 rfl (lv_at hl 0 rfl) ?_
            refine lv_bipush (v := (-2)) hx hb dX13_sight_62 (by decide) ?_
            have hk_m2 : ((-2) : Int32).toInt = (-2) := by decide
            refine mz_Vi (As := [.int (-2)]) (rest := []) ⟨hx, hb, hml, hown, hts⟩ hK hM hS (k_X13_tell l D cy ld ad am hD _ _ _ _ (-2) hIF hIG hIR (by omega) (by omega)) ⟨callB_of 1 hts (wl_in mw_296) rfl rfl rfl (htl _ mw_5) (htl _ mw_293) hd_yX13_tell ⟨(Nat.le_of_ble_eq_true rfl), (Nat.le_of_ble_eq_true rfl)⟩, htl _ mw_294, htl _ mw_295⟩ rfl hl.1 rfl (Nat.le_of_ble_eq_true rfl) dX13_sight_64 ⟨(Nat.le_of_ble_eq_true rfl), (Nat.le_of_ble_eq_true rfl)⟩ (fun v90 H locs F G R S hpo hM hS => ?_)
            obtain ⟨hIF, hIG, hIR, hfr9, hrr9, hgr9, hpo91⟩ := hpo
            have hq_v90 := tk_rng v90
            have hFF := mz_fr (K := [0, 1]) (Fa := Fa) hfr9 hFF (by decide)
            have hRR := mz_fr (K := [2, 3]) (Fa := Ra) hrr9 (fun _ _ => rfl) (by decide)
            have hGG := mz_fr (K := []) (Fa := Ga) hgr9 (fun _ _ => rfl) (by decide)
            have hre_3 : R 3 = Ra 3 := (hrr9 3 (by decide)).trans (rfl : Ra 3 = Ra 3)
            have hg_0 : R 3 0 = _ := (congrFun (hrr9 3 (by decide)) 0).trans hg_0
            have hg_1 : R 3 1 = _ := (congrFun (hrr9 3 (by decide)) 1).trans hg_1
            have hg_2 : R 3 3 = _ := (congrFun (hrr9 3 (by decide)) 3).trans hg_2
            have hf2 := (hfr9 0 (by decide)).trans hf2
            exact mz_iret (v := v90) hx hb hr rfl hlocks ⟨hIF, hIG, hIR, hFF, hRR, hGG, (by omega), (by omega), (by omega), (by omega), (by omega), (by omega), (by omega), (by omega), (by omega), (by omega), (by omega), (by omega), ⟨(fun h9 => (show False by omega).elim), (fun _ => hre_3)⟩⟩ hM hS dX13_sight_67
      · have hc43 : v35.toInt = 0 := (fi_eq rfl (show (0 : Int32).toInt = 0 by decide)).mp c9
        refine lv_aload_n hx hb dX13_sight_39 rfl (lv_at hl 0 rfl) ?_
        refine lv_iconst (v := (-1)) hx hb dX13_sight_40 (by decide) ?_
        have hk_m1 : ((-1) : Int32).toInt = (-1) := by decide
        refine mz_Vi (As := [.int (-1)]) (rest := []) ⟨hx, hb, hml, hown, hts⟩ hK hM hS (k_X13_tell l D cy ld ad am hD _ _ _ _ (-1) hIF hIG hIR (by omega) (by omega)) ⟨callB_of 1 hts (wl_in mw_296) rfl rfl rfl (htl _ mw_5) (htl _ mw_293) hd_yX13_tell ⟨(Nat.le_of_ble_eq_true rfl), (Nat.le_of_ble_eq_true rfl)⟩, htl _ mw_294, htl _ mw_295⟩ rfl hl.1 rfl (Nat.le_of_ble_eq_true rfl) dX13_sight_41 ⟨(Nat.le_of_ble_eq_true rfl), (Nat.le_of_ble_eq_true rfl)⟩ (fun v93 H locs F G R S hpo hM hS => ?_)
        obtain ⟨hIF, hIG, hIR, hfr9, hrr9, hgr9, hpo94⟩ := hpo
        have hq_v93 := tk_rng v93
        have hFF := mz_fr (K := [0, 1]) (Fa := Fa) hfr9 hFF (by decide)
        have hRR := mz_fr (K := [2, 3]) (Fa := Ra) hrr9 (fun _ _ => rfl) (by decide)
        have hGG := mz_fr (K := []) (Fa := Ga) hgr9 (fun _ _ => rfl) (by decide)
        have hre_3 : R 3 = Ra 3 := (hrr9 3 (by decide)).trans (rfl : Ra 3 = Ra 3)
        have hg_0 : R 3 0 = _ := (congrFun (hrr9 3 (by decide)) 0).trans hg_0
        have hg_1 : R 3 1 = _ := (congrFun (hrr9 3 (by decide)) 1).trans hg_1
        have hg_2 : R 3 3 = _ := (congrFun (hrr9 3 (by decide)) 3).trans hg_2
        have hf2 := (hfr9 0 (by decide)).trans hf2
        exact mz_iret (v := v93) hx hb hr rfl hlocks ⟨hIF, hIG, hIR, hFF, hRR, hGG, (by omega), (by omega), (by omega), (by omega), (by omega), (by omega), (by omega), (by omega), (by omega), (by omega), (by omega), (by omega), ⟨(fun h9 => (show False by omega).elim), (fun _ => hre_3)⟩⟩ hM hS dX13_sight_44
set_option maxHeartbeats 4000000 in
set_option maxRecDepth 100000 in
theorem k_X13_forget_x (l : Launch) (D : va_G) (cy : Nat → ClassId) (ld ad : Nat → Nat) (am : Nat) (hD : mz_D ad am) (Fa : Nat → Int32) (Ga : Nat → Int64) (Ra : Nat → Nat → Int32) (Sa : Nat → Nat → Int64) (g3 : Int32) (hIF : mz_IF true Fa) (hIG : mz_IG Ga) (hIR : mz_IR [] true Ra) (hg_0 : Ra 3 3 = g3) : Met l yX13_forget (wl yX13_forget cX13_forget 2 (some .int)) ({ frames := 3, cells := 0, slots := 0, locals := 140 }) (mz_p D cy ld ad am Fa Ga Ra Sa [.ref am]) (mz_i D cy ad am (fun r F G R S => mz_IF true F ∧ mz_IG G ∧ mz_IR [] true R ∧ (∀ k : Nat, k ∉ ([0] : List Nat) → F k = Fa k) ∧ (∀ k : Nat, k ∉ ([3] : List Nat) → R k = Ra k) ∧ (∀ k : Nat, k ∉ ([] : List Nat) → G k = Ga k) ∧ (-1) * g3.toInt + r.toInt = 0 ∧ R 3 = upd (Ra 3) 3 0)) 0 0 (mz_W ad am) := by
  refine mz_met (y := yX13_forget) (cc := cX13_forget) (maxL := 2) (ret := (some .int)) (av := [.ref am]) _ (by decide) (Nat.le_of_ble_eq_true rfl) ?_
  intro p e s m args below meth c hx hb hr hml hts htl hown hlocks hK H locs hM hS ls hl
  have hown : s.vm.findClass RX13 = some m.cls := hown
  have hl : lv_has ls 2 [(0, .ref am)] := hl
  have hq_g3 := tk_rng g3
  have hr_g3 : 0 ≤ g3.toInt ∧ g3.toInt ≤ 8 := by have h9 := mz_r3c 3 (hIR.at 3) hg_0 (by decide); unfold mE at h9; omega
  refine lv_aload_n hx hb dX13_forget_0 rfl (lv_at hl 0 rfl) ?_
  refine lv_iconst (v := 0) hx hb dX13_forget_1 (by decide) ?_
  have hk_0 : (0 : Int32).toInt = 0 := by decide
  refine mz_putI (ty := .int) (x := 0) hx hb htl hown hK hD hM hS 0 (Nat.le_of_ble_eq_true rfl) rfl (htl _ mw_286) (fun _ h9 => h9) rfl (tyX13_ok 0 (by decide)) rfl rfl dX13_forget_2 (fun H locs F hM hS hf9 hj9 => ?_)
  have hIF := hIF.put hf9 hj9 (tk_rng _).1 (tk_rng _).2 (by decide)
  have hFF := mz_frp (K := [0]) (Fa := Fa) hj9 (fun _ _ => rfl) (by decide)
  have hf2 := hf9
  refine lv_aload_n hx hb dX13_forget_5 rfl (lv_at hl 0 rfl) ?_
  refine mz_getR hx hb htl hown hK hM 3 (Nat.le_of_ble_eq_true rfl) (Nat.le_of_ble_eq_true rfl) (htl _ mw_188) (fun _ h9 => h9) dX13_forget_6 ?_
  refine lv_iconst (v := 3) hx hb dX13_forget_9 (by decide) ?_
  refine mz_iald hx hb hK hM 3 (Nat.le_of_ble_eq_true rfl) rfl (nn := 5560) rfl (I := 3) (by decide) (by decide) (by decide) dX13_forget_10 (fun v9 e9 => ?_)
  refine fx_ti (v := g3) (e9.symm.trans (show Ra 3 (3 : Int32).toNatClampNeg = _ from hg_0)) ?_
  refine lv_istore_n (lv' := [(1, .int g3), (0, .ref am)]) hx hb dX13_forget_11 rfl hl (by decide) rfl (fun ls hl => ?_)
  refine lv_aload_n hx hb dX13_forget_12 rfl (lv_at hl 1 rfl) ?_
  refine mz_getR hx hb htl hown hK hM 3 (Nat.le_of_ble_eq_true rfl) (Nat.le_of_ble_eq_true rfl) (htl _ mw_188) (fun _ h9 => h9) dX13_forget_13 ?_
  refine lv_iconst (v := 3) hx hb dX13_forget_16 (by decide) ?_
  refine lv_iconst (v := 0) hx hb dX13_forget_17 (by decide) ?_
  have hk_3 : (3 : Int32).toInt = 3 := by decide
  have hk_0 : (0 : Int32).toInt = 0 := by decide
  refine mz_iast (x := 0) hx hb hK hD hM hS 3 (Nat.le_of_ble_eq_true rfl) rfl (nn := 5560) rfl (I := 3) (by decide) (by decide) (by decide) dX13_forget_18 (fun H locs R hM hS hw9 hj9 => ?_)
  have hIR := hIR.put hw9 hj9 (mz_r3 (hIR.at 3) (I := 3) (by decide) (by omega) (by omega) (fun h9 => by first | (cases h9; done) | omega) (by unfold mE; omega))
  have hRR := mz_frp (K := [3]) (Fa := Ra) hj9 (fun _ _ => rfl) (by decide)
  have hre_3 : R 3 = upd (Ra 3) (3 : Int32).toNatClampNeg 0 := hw9.trans (congrArg (fun f => upd f (3 : Int32).toNatClampNeg 0) (rfl : Ra 3 = Ra 3))
  have hf4 : R 3 3 = 0 := (congrFun hw9 3).trans pk_us
  refine lv_iload_n hx hb dX13_forget_19 rfl (lv_at hl 0 rfl) ?_
  exact mz_iret (v := g3) hx hb hr rfl hlocks ⟨hIF, hIG, hIR, hFF, hRR, (fun _ _ => rfl), (by omega), (hre_3.trans (by rw [show (3 : Int32).toNatClampNeg = 3 by decide]))⟩ hM hS dX13_forget_20
set_option maxHeartbeats 4000000 in
set_option maxRecDepth 100000 in
theorem k_X13_at_x (l : Launch) (D : va_G) (cy : Nat → ClassId) (ld ad : Nat → Nat) (am : Nat) (hD : mz_D ad am) (Fa : Nat → Int32) (Ga : Nat → Int64) (Ra : Nat → Nat → Int32) (Sa : Nat → Nat → Int64) (p1 : Int32) (p2 : Int32) (g1 : Int32) (hIF : mz_IF true Fa) (hIG : mz_IG Ga) (hIR : mz_IR [] true Ra) (hg_0 : Ra 3 1 = g1) : Met l yX13_at (wl yX13_at cX13_at 3 (some .int)) ({ frames := 5, cells := 0, slots := 0, locals := 280 }) (mz_p D cy ld ad am Fa Ga Ra Sa [.ref am, .int p1, .int p2]) (mz_i D cy ad am (fun r F G R S => mz_IF true F ∧ mz_IG G ∧ mz_IR [] true R ∧ (∀ k : Nat, k ∉ ([0] : List Nat) → F k = Fa k) ∧ (∀ k : Nat, k ∉ ([] : List Nat) → R k = Ra k) ∧ (∀ k : Nat, k ∉ ([] : List Nat) → G k = Ga k) ∧ (p1.toInt ≤ (-1) → r.toInt + 1 = 0) ∧ (0 ≤ (-1) * g1.toInt + p1.toInt → r.toInt + 1 = 0) ∧ (p2.toInt ≤ (-1) → r.toInt + 1 = 0) ∧ (2 ≤ p2.toInt → r.toInt + 1 = 0) ∧ (0 ≤ p1.toInt → p1.toInt < g1.toInt → p2.toInt = 0 → r = Ra 3 (58 + 2 * p1.toInt.toNat)) ∧ (0 ≤ p1.toInt → p1.toInt < g1.toInt → p2.toInt = 1 → r = Ra 3 (59 + 2 * p1.toInt.toNat)))) 0 0 (mz_W ad am) := by
  refine mz_met (y := yX13_at) (cc := cX13_at) (maxL := 3) (ret := (some .int)) (av := [.ref am, .int p1, .int p2]) _ (by decide) (Nat.le_of_ble_eq_true rfl) ?_
  intro p e s m args below meth c hx hb hr hml hts htl hown hlocks hK H locs hM hS ls hl
  have hown : s.vm.findClass RX13 = some m.cls := hown
  have hl : lv_has ls 3 [(0, .ref am), (1, .int p1), (2, .int p2)] := hl
  have hr_p1 := tk_rng p1
  have hr_p2 := tk_rng p2
  have hq_g1 := tk_rng g1
  have hr_g1 : 0 ≤ g1.toInt ∧ g1.toInt ≤ 10 := by have h9 := mz_r3c 1 (hIR.at 3) hg_0 (by decide); unfold mE at h9; omega
  refine lv_aload_n hx hb dX13_at_0 rfl (lv_at hl 0 rfl) ?_
  refine lv_iconst (v := 0) hx hb dX13_at_1 (by decide) ?_
  have hk_0 : (0 : Int32).toInt = 0 := by decide
  refine mz_putI (ty := .int) (x := 0) hx hb htl hown hK hD hM hS 0 (Nat.le_of_ble_eq_true rfl) rfl (htl _ mw_286) (fun _ h9 => h9) rfl (tyX13_ok 0 (by decide)) rfl rfl dX13_at_2 (fun H locs F hM hS hf9 hj9 => ?_)
  have hIF := hIF.put hf9 hj9 (tk_rng _).1 (tk_rng _).2 (by decide)
  have hFF := mz_frp (K := [0]) (Fa := Fa) hj9 (fun _ _ => rfl) (by decide)
  have hf2 := hf9
  refine lv_aload_n hx hb dX13_at_5 rfl (lv_at hl 0 rfl) ?_
  refine lv_iload_n hx hb dX13_at_6 rfl (lv_at hl 1 rfl) ?_
  refine mz_Vj (As := [.int p1]) (rest := []) ⟨hx, hb, hml, hown, hts⟩ hK hM hS (k_X13_isVerse_x l D cy ld ad am hD _ _ _ _ p1 g1 (hIF.weak) hIG hIR hg_0) ⟨callB_of 1 hts (wl_in mw_360) rfl rfl rfl (htl _ mw_5) (htl _ mw_357) hd_yX13_isVerse ⟨(Nat.le_of_ble_eq_true rfl), (Nat.le_of_ble_eq_true rfl)⟩, htl _ mw_358, htl _ mw_359⟩ rfl hl.1 rfl (Nat.le_of_ble_eq_true rfl) dX13_at_7 ⟨(Nat.le_of_ble_eq_true rfl), (Nat.le_of_ble_eq_true rfl)⟩ (fun v3 H locs hpo hM hS => ?_)
  obtain ⟨hpo4, hpo5, hpo6, hpo10, hpo11, hpo12⟩ := hpo
  have hq_v3 := tk_rng v3
  refine lv_if_eq (tgt := 39) hx hb dX13_at_10 (by decide) (fun c9 => ?_) (fun c9 => ?_)
  · have hc14 : v3.toInt = 0 := (fi_eq rfl (show (0 : Int32).toInt = 0 by decide)).mp c9
    refine lv_iconst (v := (-1)) hx hb dX13_at_39 (by decide) ?_
    have hk_m1 : ((-1) : Int32).toInt = (-1) := by decide
    have hk_m1 : ((-1) : Int32).toInt = (-1) := by decide
    exact mz_iret (v := (-1)) hx hb hr rfl hlocks ⟨hIF, hIG, hIR, hFF, (fun _ _ => rfl), (fun _ _ => rfl), (by omega), (by omega), (by omega), (by omega), ⟨(fun h7 h8 h9 => (show False by omega).elim), (fun h7 h8 h9 => (show False by omega).elim)⟩⟩ hM hS dX13_at_40
  · have hc14 : ¬ (v3.toInt = 0) := fun h9 => c9 ((fi_eq rfl (show (0 : Int32).toInt = 0 by decide)).mpr h9)
    have hwk_15 : 0 ≤ p1.toInt ∧ 0 ≤ g1.toInt + (-1) * p1.toInt + (-1) := by omega
    refine lv_iload_n hx hb dX13_at_13 rfl (lv_at hl 2 rfl) ?_
    obtain ⟨w16, e_w16, h_w16⟩ : ∃ z : Int64, p2.toInt64 = z ∧ z.toInt = p2.toInt := ⟨_, rfl, fl_w _⟩
    refine lv_i2l (v := w16) hx hb dX13_at_14 e_w16 ?_
    refine lv_lconst (v := 0) hx hb dX13_at_15 (by decide) ?_
    refine lv_lconst (v := 1) hx hb dX13_at_16 (by decide) ?_
    have hk_0 : (0 : Int64).toInt = 0 := by decide
    have hk_1 : (1 : Int64).toInt = 1 := by decide
    refine mz_Sj (As := [.long w16, .long 0, .long 1]) (rest := []) ⟨hx, hb, hml, hown, hts⟩ hK hM hS (k_X13_in l D cy ld ad am hD _ _ _ _ w16 0 1) ⟨callB_of 3 hts (wl_in mw_292) rfl rfl rfl (htl _ mw_5) (htl _ mw_290) hd_yX13_in ⟨(Nat.le_of_ble_eq_true rfl), (Nat.le_of_ble_eq_true rfl)⟩, htl _ mw_291⟩ rfl hl.1 rfl (Nat.le_of_ble_eq_true rfl) dX13_at_17 ⟨(Nat.le_of_ble_eq_true rfl), (Nat.le_of_ble_eq_true rfl)⟩ (fun v17 H locs hpo hM hS => ?_)
    obtain ⟨hpo18, hpo19, hpo20, hpo21, hpo22, hpo23⟩ := hpo
    have hq_v17 := tk_rng v17
    refine lv_if_eq (tgt := 39) hx hb dX13_at_20 (by decide) (fun c9 => ?_) (fun c9 => ?_)
    · have hc25 : v17.toInt = 0 := (fi_eq rfl (show (0 : Int32).toInt = 0 by decide)).mp c9
      refine lv_iconst (v := (-1)) hx hb dX13_at_39 (by decide) ?_
      have hk_m1 : ((-1) : Int32).toInt = (-1) := by decide
      have hk_m1 : ((-1) : Int32).toInt = (-1) := by decide
      exact mz_iret (v := (-1)) hx hb hr rfl hlocks ⟨hIF, hIG, hIR, hFF, (fun _ _ => rfl), (fun _ _ => rfl), (by omega), (by omega), (by omega), (by omega), ⟨(fun h7 h8 h9 => (show False by omega).elim), (fun h7 h8 h9 => (show False by omega).elim)⟩⟩ hM hS dX13_at_40
    · have hc25 : ¬ (v17.toInt = 0) := fun h9 => c9 ((fi_eq rfl (show (0 : Int32).toInt = 0 by decide)).mpr h9)
      have hwk_26 : 0 ≤ w16.toInt ∧ w16.toInt ≤ 1 := by omega
      refine lv_aload_n hx hb dX13_at_23 rfl (lv_at hl 0 rfl) ?_
      refine mz_getR hx hb htl hown hK hM 3 (Nat.le_of_ble_eq_true rfl) (Nat.le_of_ble_eq_true rfl) (htl _ mw_188) (fun _ h9 => h9) dX13_at_24 ?_
      refine lv_bipush (v := 58) hx hb dX13_at_27 (by decide) ?_
      refine lv_iconst (v := 2) hx hb dX13_at_29 (by decide) ?_
      refine lv_iload_n hx hb dX13_at_30 rfl (lv_at hl 1 rfl) ?_
      refine lv_imul hx hb dX13_at_31 ?_
      refine tk_mul (show (2 : Int32).toInt = 2 by decide) rfl (by omega) (by omega) (fun v27 h_v27 => ?_)
      refine lv_iadd hx hb dX13_at_32 ?_
      refine tk_add (show (58 : Int32).toInt = 58 by decide) rfl (by omega) (by omega) (fun v28 h_v28 => ?_)
      refine lv_iload_n hx hb dX13_at_33 rfl (lv_at hl 2 rfl) ?_
      refine lv_iadd hx hb dX13_at_34 ?_
      refine tk_add rfl rfl (by omega) (by omega) (fun v29 h_v29 => ?_)
      refine mz_iald hx hb hK hM 3 (Nat.le_of_ble_eq_true rfl) rfl (nn := 5560) rfl rfl (by omega) (by omega) dX13_at_35 (fun v30 e_v30 => ?_)
      have hq_v30 := tk_rng v30
      refine lv_goto (tgt := 40) hx hb dX13_at_36 (by decide) ?_
      exact mz_iret (v := v30) hx hb hr rfl hlocks ⟨hIF, hIG, hIR, hFF, (fun _ _ => rfl), (fun _ _ => rfl), (by omega), (by omega), (by omega), (by omega), ⟨(fun h7 h8 h9 => by rw [show 58 + 2 * p1.toInt.toNat = (v29 : Int32).toNatClampNeg by show _ = v29.toInt.toNat; omega]; exact (e_v30).symm), (fun h7 h8 h9 => by rw [show 59 + 2 * p1.toInt.toNat = (v29 : Int32).toNatClampNeg by show _ = v29.toInt.toNat; omega]; exact (e_v30).symm)⟩⟩ hM hS dX13_at_40
set_option maxHeartbeats 4000000 in
set_option maxRecDepth 100000 in
theorem k_X13_coughs_x (l : Launch) (D : va_G) (cy : Nat → ClassId) (ld ad : Nat → Nat) (am : Nat) (hD : mz_D ad am) (Fa : Nat → Int32) (Ga : Nat → Int64) (Ra : Nat → Nat → Int32) (Sa : Nat → Nat → Int64) (g11 : Int32) (hIF : mz_IF true Fa) (hIG : mz_IG Ga) (hIR : mz_IR [] true Ra) (hg_0 : Fa 11 = g11) : Met l yX13_coughs (wl yX13_coughs cX13_coughs 1 (some .int)) ({ frames := 3, cells := 0, slots := 0, locals := 140 }) (mz_p D cy ld ad am Fa Ga Ra Sa [.ref am]) (mz_i D cy ad am (fun r F G R S => mz_IF true F ∧ mz_IG G ∧ mz_IR [] true R ∧ (∀ k : Nat, k ∉ ([0] : List Nat) → F k = Fa k) ∧ (∀ k : Nat, k ∉ ([] : List Nat) → R k = Ra k) ∧ (∀ k : Nat, k ∉ ([] : List Nat) → G k = Ga k) ∧ (-1) * g11.toInt + r.toInt = 0)) 0 0 (mz_W ad am) := by
  refine mz_met (y := yX13_coughs) (cc := cX13_coughs) (maxL := 1) (ret := (some .int)) (av := [.ref am]) _ (by decide) (Nat.le_of_ble_eq_true rfl) ?_
  intro p e s m args below meth c hx hb hr hml hts htl hown hlocks hK H locs hM hS ls hl
  have hown : s.vm.findClass RX13 = some m.cls := hown
  have hl : lv_has ls 1 [(0, .ref am)] := hl
  have hq_g11 := tk_rng g11
  refine lv_aload_n hx hb dX13_coughs_0 rfl (lv_at hl 0 rfl) ?_
  refine lv_iconst (v := 0) hx hb dX13_coughs_1 (by decide) ?_
  have hk_0 : (0 : Int32).toInt = 0 := by decide
  refine mz_putI (ty := .int) (x := 0) hx hb htl hown hK hD hM hS 0 (Nat.le_of_ble_eq_true rfl) rfl (htl _ mw_286) (fun _ h9 => h9) rfl (tyX13_ok 0 (by decide)) rfl rfl dX13_coughs_2 (fun H locs F hM hS hf9 hj9 => ?_)
  have hIF := hIF.put hf9 hj9 (tk_rng _).1 (tk_rng _).2 (by decide)
  have hFF := mz_frp (K := [0]) (Fa := Fa) hj9 (fun _ _ => rfl) (by decide)
  have hg_0 := (hj9 11 (by decide)).trans hg_0
  have hf2 := hf9
  refine lv_aload_n hx hb dX13_coughs_5 rfl (lv_at hl 0 rfl) ?_
  refine mz_getI hx hb htl hown hK hM 11 (Nat.le_of_ble_eq_true rfl) rfl (htl _ mw_453) (fun _ h9 => h9) dX13_coughs_6 (fun v9 e9 => ?_)
  refine fx_ti (v := g11) (e9.symm.trans hg_0) ?_
  exact mz_iret (v := g11) hx hb hr rfl hlocks ⟨hIF, hIG, hIR, hFF, (fun _ _ => rfl), (fun _ _ => rfl), (by omega)⟩ hM hS dX13_coughs_9
set_option maxHeartbeats 4000000 in
set_option maxRecDepth 100000 in
theorem k_X13_four_x (l : Launch) (D : va_G) (cy : Nat → ClassId) (ld ad : Nat → Nat) (am : Nat) (hD : mz_D ad am) (Fa : Nat → Int32) (Ga : Nat → Int64) (Ra : Nat → Nat → Int32) (Sa : Nat → Nat → Int64) (p1 : Int32) (g0 : Int32) (hIF : mz_IF true Fa) (hIG : mz_IG Ga) (hIR : mz_IR [] true Ra) (hg_0 : Fa 13 = g0) (hp_0 : 0 ≤ g0.toInt) (hp_1 : g0.toInt ≤ 396) : Met l yX13_four (wl yX13_four cX13_four 3 none) ({ frames := 3, cells := 0, slots := 0, locals := 140 }) (mz_p D cy ld ad am Fa Ga Ra Sa [.ref am, .int p1]) (mz_w D cy ad am (fun F G R S => mz_IF true F ∧ mz_IG G ∧ mz_IR [] true R ∧ (∀ k : Nat, k ∉ ([13] : List Nat) → F k = Fa k) ∧ (∀ k : Nat, k ∉ ([12] : List Nat) → R k = Ra k) ∧ (∀ k : Nat, k ∉ ([] : List Nat) → G k = Ga k) ∧ (-1) * g0.toInt + (F 13).toInt + (-4) = 0 ∧ R 12 = jpr (Ra 12) g0.toInt.toNat p1)) 0 0 (mz_W ad am) := by
  refine mz_met (y := yX13_four) (cc := cX13_four) (maxL := 3) (ret := none) (av := [.ref am, .int p1]) _ (by decide) (Nat.le_of_ble_eq_true rfl) ?_
  intro p e s m args below meth c hx hb hr hml hts htl hown hlocks hK H locs hM hS ls hl
  have hown : s.vm.findClass RX13 = some m.cls := hown
  have hl : lv_has ls 3 [(0, .ref am), (1, .int p1)] := hl
  have hr_p1 := tk_rng p1
  have hq_g0 := tk_rng g0
  have hr_g0 : 0 ≤ g0.toInt ∧ g0.toInt ≤ 400 := hIF.at hg_0
  refine lv_bipush (v := 24) hx hb dX13_four_0 (by decide) ?_
  refine lv_istore_n (lv' := [(2, .int 24), (0, .ref am), (1, .int p1)]) hx hb dX13_four_2 rfl hl (by decide) rfl (fun ls hl => ?_)
  refine lv_iload_n hx hb dX13_four_3 rfl (lv_at hl 0 rfl) ?_
  refine lv_if_lt (tgt := 39) hx hb dX13_four_4 (by decide) (fun c9 => absurd c9 (by decide)) (fun _ => ?_)
  refine lv_aload_n hx hb dX13_four_7 rfl (lv_at hl 1 rfl) ?_
  refine mz_getR hx hb htl hown hK hM 12 (Nat.le_of_ble_eq_true rfl) (Nat.le_of_ble_eq_true rfl) (htl _ mw_195) (fun _ h9 => h9) dX13_four_8 ?_
  refine lv_aload_n hx hb dX13_four_11 rfl (lv_at hl 1 rfl) ?_
  refine mz_getI hx hb htl hown hK hM 13 (Nat.le_of_ble_eq_true rfl) rfl (htl _ mw_431) (fun _ h9 => h9) dX13_four_12 (fun v9 e9 => ?_)
  refine fx_ti (v := g0) (e9.symm.trans hg_0) ?_
  refine lv_iload_n hx hb dX13_four_15 rfl (lv_at hl 2 rfl) ?_
  refine lv_iload_n hx hb dX13_four_16 rfl (lv_at hl 0 rfl) ?_
  obtain ⟨v1, hm_v1⟩ : ∃ z : Int32, p1 >>> ((24 : Int32) &&& 31) = z := ⟨_, rfl⟩
  refine lv_ishr hx hb dX13_four_17 ?_
  refine fx_ti hm_v1 ?_
  have hq_v1 := tk_rng v1
  refine lv_sipush (v := 255) hx hb dX13_four_18 (by decide) ?_
  obtain ⟨v2, hm_v2⟩ : ∃ z : Int32, v1 &&& (255 : Int32) = z := ⟨_, rfl⟩
  refine lv_iand hx hb dX13_four_21 ?_
  refine fx_ti hm_v2 ?_
  have hq_v2 := tk_rng v2
  have h_v2 : 0 ≤ v2.toInt ∧ v2.toInt ≤ 255 := hm_v2 ▸ tk_and v1 8 (by decide) (by decide)
  refine mz_iast (x := v2) hx hb hK hD hM hS 12 (Nat.le_of_ble_eq_true rfl) rfl (nn := 400) rfl rfl (by omega) (by omega) dX13_four_22 (fun H locs R hM hS hw9 hj9 => ?_)
  have hIR := hIR.put hw9 hj9 trivial
  have hRR := mz_frp (K := [12]) (Fa := Ra) hj9 (fun _ _ => rfl) (by decide)
  have hre_12 : R 12 = upd (Ra 12) (g0 : Int32).toNatClampNeg v2 := hw9.trans (congrArg (fun f => upd f (g0 : Int32).toNatClampNeg v2) (rfl : Ra 12 = Ra 12))
  refine lv_aload_n hx hb dX13_four_23 rfl (lv_at hl 1 rfl) ?_
  refine lv_dup hx hb dX13_four_24 rfl ?_
  refine mz_getI hx hb htl hown hK hM 13 (Nat.le_of_ble_eq_true rfl) rfl (htl _ mw_431) (fun _ h9 => h9) dX13_four_25 (fun v9 e9 => ?_)
  refine fx_ti (v := g0) (e9.symm.trans hg_0) ?_
  refine lv_iconst (v := 1) hx hb dX13_four_28 (by decide) ?_
  refine lv_iadd hx hb dX13_four_29 ?_
  refine tk_add rfl (show (1 : Int32).toInt = 1 by decide) (by omega) (by omega) (fun v4 h_v4 => ?_)
  refine mz_putI (ty := .int) (x := v4) hx hb htl hown hK hD hM hS 13 (Nat.le_of_ble_eq_true rfl) rfl (htl _ mw_431) (fun _ h9 => h9) rfl (tyX13_ok 13 (by decide)) rfl rfl dX13_four_30 (fun H locs F hM hS hf9 hj9 => ?_)
  have hIF := hIF.put hf9 hj9 (show 0 ≤ (v4 : Int32).toInt by omega) (show (v4 : Int32).toInt ≤ 400 by omega) (by decide)
  have hFF := mz_frp (K := [13]) (Fa := Fa) hj9 (fun _ _ => rfl) (by decide)
  have hf6 := hf9
  refine lv_iinc (v := 16) (lv' := [(2, .int 16), (0, .ref am), (1, .int p1)]) hx hb dX13_four_33 hl (k := 0) rfl (by decide) (by decide) rfl (fun ls hl => ?_)
  refine lv_goto (tgt := 3) hx hb dX13_four_36 (by decide) ?_
  refine lv_iload_n hx hb dX13_four_3 rfl (lv_at hl 0 rfl) ?_
  refine lv_if_lt (tgt := 39) hx hb dX13_four_4 (by decide) (fun c9 => absurd c9 (by decide)) (fun _ => ?_)
  refine lv_aload_n hx hb dX13_four_7 rfl (lv_at hl 1 rfl) ?_
  refine mz_getR hx hb htl hown hK hM 12 (Nat.le_of_ble_eq_true rfl) (Nat.le_of_ble_eq_true rfl) (htl _ mw_195) (fun _ h9 => h9) dX13_four_8 ?_
  refine lv_aload_n hx hb dX13_four_11 rfl (lv_at hl 1 rfl) ?_
  refine mz_getI hx hb htl hown hK hM 13 (Nat.le_of_ble_eq_true rfl) rfl (htl _ mw_431) (fun _ h9 => h9) dX13_four_12 (fun v9 e9 => ?_)
  refine fx_ti (v := v4) (e9.symm.trans hf6) ?_
  refine lv_iload_n hx hb dX13_four_15 rfl (lv_at hl 2 rfl) ?_
  refine lv_iload_n hx hb dX13_four_16 rfl (lv_at hl 0 rfl) ?_
  obtain ⟨v10, hm_v10⟩ : ∃ z : Int32, p1 >>> ((16 : Int32) &&& 31) = z := ⟨_, rfl⟩
  refine lv_ishr hx hb dX13_four_17 ?_
  refine fx_ti hm_v10 ?_
  have hq_v10 := tk_rng v10
  refine lv_sipush (v := 255) hx hb dX13_four_18 (by decide) ?_
  obtain ⟨v11, hm_v11⟩ : ∃ z : Int32, v10 &&& (255 : Int32) = z := ⟨_, rfl⟩
  refine lv_iand hx hb dX13_four_21 ?_
  refine fx_ti hm_v11 ?_
  have hq_v11 := tk_rng v11
  have h_v11 : 0 ≤ v11.toInt ∧ v11.toInt ≤ 255 := hm_v11 ▸ tk_and v10 8 (by decide) (by decide)
  refine mz_iast (x := v11) hx hb hK hD hM hS 12 (Nat.le_of_ble_eq_true rfl) rfl (nn := 400) rfl rfl (by omega) (by omega) dX13_four_22 (fun H locs R hM hS hw9 hj9 => ?_)
  have hIR := hIR.put hw9 hj9 trivial
  have hRR := mz_frp (K := [12]) (Fa := Ra) hj9 hRR (by decide)
  have hre_12 : R 12 = upd (upd (Ra 12) (g0 : Int32).toNatClampNeg v2) (v4 : Int32).toNatClampNeg v11 := hw9.trans (congrArg (fun f => upd f (v4 : Int32).toNatClampNeg v11) hre_12)
  refine lv_aload_n hx hb dX13_four_23 rfl (lv_at hl 1 rfl) ?_
  refine lv_dup hx hb dX13_four_24 rfl ?_
  refine mz_getI hx hb htl hown hK hM 13 (Nat.le_of_ble_eq_true rfl) rfl (htl _ mw_431) (fun _ h9 => h9) dX13_four_25 (fun v9 e9 => ?_)
  refine fx_ti (v := v4) (e9.symm.trans hf6) ?_
  refine lv_iconst (v := 1) hx hb dX13_four_28 (by decide) ?_
  refine lv_iadd hx hb dX13_four_29 ?_
  refine tk_add rfl (show (1 : Int32).toInt = 1 by decide) (by omega) (by omega) (fun v13 h_v13 => ?_)
  refine mz_putI (ty := .int) (x := v13) hx hb htl hown hK hD hM hS 13 (Nat.le_of_ble_eq_true rfl) rfl (htl _ mw_431) (fun _ h9 => h9) rfl (tyX13_ok 13 (by decide)) rfl rfl dX13_four_30 (fun H locs F hM hS hf9 hj9 => ?_)
  have hIF := hIF.put hf9 hj9 (show 0 ≤ (v13 : Int32).toInt by omega) (show (v13 : Int32).toInt ≤ 400 by omega) (by decide)
  have hFF := mz_frp (K := [13]) (Fa := Fa) hj9 hFF (by decide)
  have hf15 := hf9
  refine lv_iinc (v := 8) (lv' := [(2, .int 8), (0, .ref am), (1, .int p1)]) hx hb dX13_four_33 hl (k := 0) rfl (by decide) (by decide) rfl (fun ls hl => ?_)
  refine lv_goto (tgt := 3) hx hb dX13_four_36 (by decide) ?_
  refine lv_iload_n hx hb dX13_four_3 rfl (lv_at hl 0 rfl) ?_
  refine lv_if_lt (tgt := 39) hx hb dX13_four_4 (by decide) (fun c9 => absurd c9 (by decide)) (fun _ => ?_)
  refine lv_aload_n hx hb dX13_four_7 rfl (lv_at hl 1 rfl) ?_
  refine mz_getR hx hb htl hown hK hM 12 (Nat.le_of_ble_eq_true rfl) (Nat.le_of_ble_eq_true rfl) (htl _ mw_195) (fun _ h9 => h9) dX13_four_8 ?_
  refine lv_aload_n hx hb dX13_four_11 rfl (lv_at hl 1 rfl) ?_
  refine mz_getI hx hb htl hown hK hM 13 (Nat.le_of_ble_eq_true rfl) rfl (htl _ mw_431) (fun _ h9 => h9) dX13_four_12 (fun v9 e9 => ?_)
  refine fx_ti (v := v13) (e9.symm.trans hf15) ?_
  refine lv_iload_n hx hb dX13_four_15 rfl (lv_at hl 2 rfl) ?_
  refine lv_iload_n hx hb dX13_four_16 rfl (lv_at hl 0 rfl) ?_
  obtain ⟨v16, hm_v16⟩ : ∃ z : Int32, p1 >>> ((8 : Int32) &&& 31) = z := ⟨_, rfl⟩
  refine lv_ishr hx hb dX13_four_17 ?_
  refine fx_ti hm_v16 ?_
  have hq_v16 := tk_rng v16
  refine lv_sipush (v := 255) hx hb dX13_four_18 (by decide) ?_
  obtain ⟨v17, hm_v17⟩ : ∃ z : Int32, v16 &&& (255 : Int32) = z := ⟨_, rfl⟩
  refine lv_iand hx hb dX13_four_21 ?_
  refine fx_ti hm_v17 ?_
  have hq_v17 := tk_rng v17
  have h_v17 : 0 ≤ v17.toInt ∧ v17.toInt ≤ 255 := hm_v17 ▸ tk_and v16 8 (by decide) (by decide)
  refine mz_iast (x := v17) hx hb hK hD hM hS 12 (Nat.le_of_ble_eq_true rfl) rfl (nn := 400) rfl rfl (by omega) (by omega) dX13_four_22 (fun H locs R hM hS hw9 hj9 => ?_)
  have hIR := hIR.put hw9 hj9 trivial
  have hRR := mz_frp (K := [12]) (Fa := Ra) hj9 hRR (by decide)
  have hre_12 : R 12 = upd (upd (upd (Ra 12) (g0 : Int32).toNatClampNeg v2) (v4 : Int32).toNatClampNeg v11) (v13 : Int32).toNatClampNeg v17 := hw9.trans (congrArg (fun f => upd f (v13 : Int32).toNatClampNeg v17) hre_12)
  refine lv_aload_n hx hb dX13_four_23 rfl (lv_at hl 1 rfl) ?_
  refine lv_dup hx hb dX13_four_24 rfl ?_
  refine mz_getI hx hb htl hown hK hM 13 (Nat.le_of_ble_eq_true rfl) rfl (htl _ mw_431) (fun _ h9 => h9) dX13_four_25 (fun v9 e9 => ?_)
  refine fx_ti (v := v13) (e9.symm.trans hf15) ?_
  refine lv_iconst (v := 1) hx hb dX13_four_28 (by decide) ?_
  refine lv_iadd hx hb dX13_four_29 ?_
  refine tk_add rfl (show (1 : Int32).toInt = 1 by decide) (by omega) (by omega) (fun v19 h_v19 => ?_)
  refine mz_putI (ty := .int) (x := v19) hx hb htl hown hK hD hM hS 13 (Nat.le_of_ble_eq_true rfl) rfl (htl _ mw_431) (fun _ h9 => h9) rfl (tyX13_ok 13 (by decide)) rfl rfl dX13_four_30 (fun H locs F hM hS hf9 hj9 => ?_)
  have hIF := hIF.put hf9 hj9 (show 0 ≤ (v19 : Int32).toInt by omega) (show (v19 : Int32).toInt ≤ 400 by omega) (by decide)
  have hFF := mz_frp (K := [13]) (Fa := Fa) hj9 hFF (by decide)
  have hf21 := hf9
  refine lv_iinc (v := 0) (lv' := [(2, .int 0), (0, .ref am), (1, .int p1)]) hx hb dX13_four_33 hl (k := 0) rfl (by decide) (by decide) rfl (fun ls hl => ?_)
  refine lv_goto (tgt := 3) hx hb dX13_four_36 (by decide) ?_
  refine lv_iload_n hx hb dX13_four_3 rfl (lv_at hl 0 rfl) ?_
  refine lv_if_lt (tgt := 39) hx hb dX13_four_4 (by decide) (fun c9 => absurd c9 (by decide)) (fun _ => ?_)
  refine lv_aload_n hx hb dX13_four_7 rfl (lv_at hl 1 rfl) ?_
  refine mz_getR hx hb htl hown hK hM 12 (Nat.le_of_ble_eq_true rfl) (Nat.le_of_ble_eq_true rfl) (htl _ mw_195) (fun _ h9 => h9) dX13_four_8 ?_
  refine lv_aload_n hx hb dX13_four_11 rfl (lv_at hl 1 rfl) ?_
  refine mz_getI hx hb htl hown hK hM 13 (Nat.le_of_ble_eq_true rfl) rfl (htl _ mw_431) (fun _ h9 => h9) dX13_four_12 (fun v9 e9 => ?_)
  refine fx_ti (v := v19) (e9.symm.trans hf21) ?_
  refine lv_iload_n hx hb dX13_four_15 rfl (lv_at hl 2 rfl) ?_
  refine lv_iload_n hx hb dX13_four_16 rfl (lv_at hl 0 rfl) ?_
  obtain ⟨v22, hm_v22⟩ : ∃ z : Int32, p1 >>> ((0 : Int32) &&& 31) = z := ⟨_, rfl⟩
  refine lv_ishr hx hb dX13_four_17 ?_
  refine fx_ti hm_v22 ?_
  have hq_v22 := tk_rng v22
  refine lv_sipush (v := 255) hx hb dX13_four_18 (by decide) ?_
  obtain ⟨v23, hm_v23⟩ : ∃ z : Int32, v22 &&& (255 : Int32) = z := ⟨_, rfl⟩
  refine lv_iand hx hb dX13_four_21 ?_
  refine fx_ti hm_v23 ?_
  have hq_v23 := tk_rng v23
  have h_v23 : 0 ≤ v23.toInt ∧ v23.toInt ≤ 255 := hm_v23 ▸ tk_and v22 8 (by decide) (by decide)
  refine mz_iast (x := v23) hx hb hK hD hM hS 12 (Nat.le_of_ble_eq_true rfl) rfl (nn := 400) rfl rfl (by omega) (by omega) dX13_four_22 (fun H locs R hM hS hw9 hj9 => ?_)
  have hIR := hIR.put hw9 hj9 trivial
  have hRR := mz_frp (K := [12]) (Fa := Ra) hj9 hRR (by decide)
  have hre_12 : R 12 = upd (upd (upd (upd (Ra 12) (g0 : Int32).toNatClampNeg v2) (v4 : Int32).toNatClampNeg v11) (v13 : Int32).toNatClampNeg v17) (v19 : Int32).toNatClampNeg v23 := hw9.trans (congrArg (fun f => upd f (v19 : Int32).toNatClampNeg v23) hre_12)
  refine lv_aload_n hx hb dX13_four_23 rfl (lv_at hl 1 rfl) ?_
  refine lv_dup hx hb dX13_four_24 rfl ?_
  refine mz_getI hx hb htl hown hK hM 13 (Nat.le_of_ble_eq_true rfl) rfl (htl _ mw_431) (fun _ h9 => h9) dX13_four_25 (fun v9 e9 => ?_)
  refine fx_ti (v := v19) (e9.symm.trans hf21) ?_
  refine lv_iconst (v := 1) hx hb dX13_four_28 (by decide) ?_
  refine lv_iadd hx hb dX13_four_29 ?_
  refine tk_add rfl (show (1 : Int32).toInt = 1 by decide) (by omega) (by omega) (fun v25 h_v25 => ?_)
  refine mz_putI (ty := .int) (x := v25) hx hb htl hown hK hD hM hS 13 (Nat.le_of_ble_eq_true rfl) rfl (htl _ mw_431) (fun _ h9 => h9) rfl (tyX13_ok 13 (by decide)) rfl rfl dX13_four_30 (fun H locs F hM hS hf9 hj9 => ?_)
  have hIF := hIF.put hf9 hj9 (show 0 ≤ (v25 : Int32).toInt by omega) (show (v25 : Int32).toInt ≤ 400 by omega) (by decide)
  have hFF := mz_frp (K := [13]) (Fa := Fa) hj9 hFF (by decide)
  have hf27 := hf9
  refine lv_iinc (v := (-8)) (lv' := [(2, .int (-8)), (0, .ref am), (1, .int p1)]) hx hb dX13_four_33 hl (k := 0) rfl (by decide) (by decide) rfl (fun ls hl => ?_)
  refine lv_goto (tgt := 3) hx hb dX13_four_36 (by decide) ?_
  refine lv_iload_n hx hb dX13_four_3 rfl (lv_at hl 0 rfl) ?_
  refine lv_if_lt (tgt := 39) hx hb dX13_four_4 (by decide) (fun _ => ?_) (fun c9 => absurd (by decide) c9)
  exact mz_vret hx hb hr hlocks ⟨hIF, hIG, hIR, hFF, hRR, (fun _ _ => rfl), (by rw [hf27]; omega), (hre_12.trans (by subst hm_v23; subst hm_v22; subst hm_v17; subst hm_v16; subst hm_v11; subst hm_v10; subst hm_v2; subst hm_v1; unfold jpr jbr; rw [show (g0 : Int32).toNatClampNeg = g0.toInt.toNat by show g0.toInt.toNat = _; omega, show (v4 : Int32).toNatClampNeg = g0.toInt.toNat + 1 by show v4.toInt.toNat = _; omega, show (v13 : Int32).toNatClampNeg = g0.toInt.toNat + 2 by show v13.toInt.toNat = _; omega, show (v19 : Int32).toNatClampNeg = g0.toInt.toNat + 3 by show v19.toInt.toNat = _; omega]))⟩ hM hS dX13_four_39
set_option maxHeartbeats 4000000 in
set_option maxRecDepth 100000 in
theorem k_X13_feed_x (l : Launch) (D : va_G) (cy : Nat → ClassId) (ld ad : Nat → Nat) (am : Nat) (hD : mz_D ad am) (Fa : Nat → Int32) (Ga : Nat → Int64) (Ra : Nat → Nat → Int32) (Sa : Nat → Nat → Int64) (p1 : Int32) (p2 : Int32) (p3 : Int32) (p4 : Int32) (p5 : Int32) (g13 : Int32) (hIF : mz_IF true Fa) (hIG : mz_IG Ga) (hIR : mz_IR [] true Ra) (hg_0 : Fa 13 = g13) : Met l yX13_feed (wl yX13_feed cX13_feed 6 (some .int)) ({ frames := 4, cells := 0, slots := 0, locals := 210 }) (mz_p D cy ld ad am Fa Ga Ra Sa [.ref am, .int p1, .int p2, .int p3, .int p4, .int p5]) (mz_i D cy ad am (fun r F G R S => mz_IF true F ∧ mz_IG G ∧ mz_IR [] true R ∧ (∀ k : Nat, k ∉ ([0, 13] : List Nat) → F k = Fa k) ∧ (∀ k : Nat, k ∉ ([12] : List Nat) → R k = Ra k) ∧ (∀ k : Nat, k ∉ ([] : List Nat) → G k = Ga k) ∧ (381 ≤ g13.toInt → r.toInt + 1 = 0 ∧ (-1) * g13.toInt + (F 13).toInt = 0) ∧ (g13.toInt ≤ 380 → (-1) * g13.toInt + r.toInt + (-20) = 0 ∧ (-1) * g13.toInt + (F 13).toInt + (-20) = 0) ∧ (g13.toInt ≤ 380 → R 12 = jpr (jpr (jpr (jpr (jpr (Ra 12) g13.toInt.toNat p1) (g13.toInt.toNat + 4) p2) (g13.toInt.toNat + 8) p3) (g13.toInt.toNat + 12) p4) (g13.toInt.toNat + 16) p5) ∧ (381 ≤ g13.toInt → R 12 = Ra 12))) 0 0 (mz_W ad am) := by
  refine mz_met (y := yX13_feed) (cc := cX13_feed) (maxL := 6) (ret := (some .int)) (av := [.ref am, .int p1, .int p2, .int p3, .int p4, .int p5]) _ (by decide) (Nat.le_of_ble_eq_true rfl) ?_
  intro p e s m args below meth c hx hb hr hml hts htl hown hlocks hK H locs hM hS ls hl
  have hown : s.vm.findClass RX13 = some m.cls := hown
  have hl : lv_has ls 6 [(0, .ref am), (1, .int p1), (2, .int p2), (3, .int p3), (4, .int p4), (5, .int p5)] := hl
  have hr_p1 := tk_rng p1
  have hr_p2 := tk_rng p2
  have hr_p3 := tk_rng p3
  have hr_p4 := tk_rng p4
  have hr_p5 := tk_rng p5
  have hq_g13 := tk_rng g13
  have hr_g13 : 0 ≤ g13.toInt ∧ g13.toInt ≤ 400 := hIF.at hg_0
  refine lv_aload_n hx hb dX13_feed_0 rfl (lv_at hl 0 rfl) ?_
  refine lv_iconst (v := 0) hx hb dX13_feed_1 (by decide) ?_
  have hk_0 : (0 : Int32).toInt = 0 := by decide
  refine mz_putI (ty := .int) (x := 0) hx hb htl hown hK hD hM hS 0 (Nat.le_of_ble_eq_true rfl) rfl (htl _ mw_286) (fun _ h9 => h9) rfl (tyX13_ok 0 (by decide)) rfl rfl dX13_feed_2 (fun H locs F hM hS hf9 hj9 => ?_)
  have hIF := hIF.put hf9 hj9 (tk_rng _).1 (tk_rng _).2 (by decide)
  have hFF := mz_frp (K := [0, 13]) (Fa := Fa) hj9 (fun _ _ => rfl) (by decide)
  have hg_0 := (hj9 13 (by decide)).trans hg_0
  have hf2 := hf9
  refine lv_aload_n hx hb dX13_feed_5 rfl (lv_at hl 0 rfl) ?_
  refine mz_getI hx hb htl hown hK hM 13 (Nat.le_of_ble_eq_true rfl) rfl (htl _ mw_431) (fun _ h9 => h9) dX13_feed_6 (fun v9 e9 => ?_)
  refine fx_ti (v := g13) (e9.symm.trans hg_0) ?_
  refine lv_bipush (v := 20) hx hb dX13_feed_9 (by decide) ?_
  refine lv_iadd hx hb dX13_feed_11 ?_
  refine tk_add rfl (show (20 : Int32).toInt = 20 by decide) (by omega) (by omega) (fun v3 h_v3 => ?_)
  refine lv_sipush (v := 400) hx hb dX13_feed_12 (by decide) ?_
  refine lv_icmp_le (tgt := 20) hx hb dX13_feed_15 (by decide) (fun c9 => ?_) (fun c9 => ?_)
  · have hc4 : v3.toInt ≤ 400 := (fi_le rfl (show (400 : Int32).toInt = 400 by decide)).mp c9
    refine lv_aload_n hx hb dX13_feed_20 rfl (lv_at hl 0 rfl) ?_
    refine lv_iload_n hx hb dX13_feed_21 rfl (lv_at hl 1 rfl) ?_
    have hb12 := (rfl : Ra 12 = Ra 12)
    refine mz_Vv (As := [.int p1]) (rest := []) ⟨hx, hb, hml, hown, hts⟩ hK hM hS (k_X13_four_x l D cy ld ad am hD _ _ _ _ p1 g13 hIF hIG hIR hg_0 (by omega) (by omega)) ⟨callB_of 1 hts (wl_in mw_435) rfl rfl rfl (htl _ mw_5) (htl _ mw_432) hd_yX13_four ⟨(Nat.le_of_ble_eq_true rfl), (Nat.le_of_ble_eq_true rfl)⟩, htl _ mw_433, htl _ mw_434⟩ rfl hl.1 rfl (Nat.le_of_ble_eq_true rfl) dX13_feed_22 ⟨(Nat.le_of_ble_eq_true rfl), (Nat.le_of_ble_eq_true rfl)⟩ (fun H locs F G R S hpo hM hS => ?_)
    obtain ⟨hIF, hIG, hIR, hfr9, hrr9, hgr9, hpo5, hx6⟩ := hpo
    have hFF := mz_fr (K := [0, 13]) (Fa := Fa) hfr9 hFF (by decide)
    have hRR := mz_fr (K := [12]) (Fa := Ra) hrr9 (fun _ _ => rfl) (by decide)
    have hGG := mz_fr (K := []) (Fa := Ga) hgr9 (fun _ _ => rfl) (by decide)
    have hf2 := (hfr9 0 (by decide)).trans hf2
    obtain ⟨v12, hf11⟩ : ∃ z : Int32, F 13 = z := ⟨_, rfl⟩
    have hq_v12 := tk_rng v12
    rw [hf11] at hpo5
    have hr_v12 : 0 ≤ v12.toInt ∧ v12.toInt ≤ 400 := hIF.at hf11
    have hre_12 : R 12 = jpr (Ra 12) g13.toInt.toNat p1 := hx6.trans (by rw [hb12])
    refine lv_aload_n hx hb dX13_feed_25 rfl (lv_at hl 0 rfl) ?_
    refine lv_iload_n hx hb dX13_feed_26 rfl (lv_at hl 2 rfl) ?_
    have hb12 := hre_12
    refine mz_Vv (As := [.int p2]) (rest := []) ⟨hx, hb, hml, hown, hts⟩ hK hM hS (k_X13_four_x l D cy ld ad am hD _ _ _ _ p2 v12 hIF hIG hIR hf11 (by omega) (by omega)) ⟨callB_of 1 hts (wl_in mw_435) rfl rfl rfl (htl _ mw_5) (htl _ mw_432) hd_yX13_four ⟨(Nat.le_of_ble_eq_true rfl), (Nat.le_of_ble_eq_true rfl)⟩, htl _ mw_433, htl _ mw_434⟩ rfl hl.1 rfl (Nat.le_of_ble_eq_true rfl) dX13_feed_27 ⟨(Nat.le_of_ble_eq_true rfl), (Nat.le_of_ble_eq_true rfl)⟩ (fun H locs F G R S hpo hM hS => ?_)
    obtain ⟨hIF, hIG, hIR, hfr9, hrr9, hgr9, hpo13, hx14⟩ := hpo
    have hFF := mz_fr (K := [0, 13]) (Fa := Fa) hfr9 hFF (by decide)
    have hRR := mz_fr (K := [12]) (Fa := Ra) hrr9 hRR (by decide)
    have hGG := mz_fr (K := []) (Fa := Ga) hgr9 hGG (by decide)
    have hf2 := (hfr9 0 (by decide)).trans hf2
    obtain ⟨v17, hf16⟩ : ∃ z : Int32, F 13 = z := ⟨_, rfl⟩
    have hq_v17 := tk_rng v17
    rw [hf16] at hpo13
    have hr_v17 : 0 ≤ v17.toInt ∧ v17.toInt ≤ 400 := hIF.at hf16
    have hre_12 : R 12 = jpr (jpr (Ra 12) g13.toInt.toNat p1) (g13.toInt.toNat + 4) p2 := hx14.trans (by rw [hb12, show v12.toInt.toNat = g13.toInt.toNat + 4 by omega])
    refine lv_aload_n hx hb dX13_feed_30 rfl (lv_at hl 0 rfl) ?_
    refine lv_iload_n hx hb dX13_feed_31 rfl (lv_at hl 3 rfl) ?_
    have hb12 := hre_12
    refine mz_Vv (As := [.int p3]) (rest := []) ⟨hx, hb, hml, hown, hts⟩ hK hM hS (k_X13_four_x l D cy ld ad am hD _ _ _ _ p3 v17 hIF hIG hIR hf16 (by omega) (by omega)) ⟨callB_of 1 hts (wl_in mw_435) rfl rfl rfl (htl _ mw_5) (htl _ mw_432) hd_yX13_four ⟨(Nat.le_of_ble_eq_true rfl), (Nat.le_of_ble_eq_true rfl)⟩, htl _ mw_433, htl _ mw_434⟩ rfl hl.1 rfl (Nat.le_of_ble_eq_true rfl) dX13_feed_32 ⟨(Nat.le_of_ble_eq_true rfl), (Nat.le_of_ble_eq_true rfl)⟩ (fun H locs F G R S hpo hM hS => ?_)
    obtain ⟨hIF, hIG, hIR, hfr9, hrr9, hgr9, hpo18, hx19⟩ := hpo
    have hFF := mz_fr (K := [0, 13]) (Fa := Fa) hfr9 hFF (by decide)
    have hRR := mz_fr (K := [12]) (Fa := Ra) hrr9 hRR (by decide)
    have hGG := mz_fr (K := []) (Fa := Ga) hgr9 hGG (by decide)
    have hf2 := (hfr9 0 (by decide)).trans hf2
    obtain ⟨v22, hf21⟩ : ∃ z : Int32, F 13 = z := ⟨_, rfl⟩
    have hq_v22 := tk_rng v22
    rw [hf21] at hpo18
    have hr_v22 : 0 ≤ v22.toInt ∧ v22.toInt ≤ 400 := hIF.at hf21
    have hre_12 : R 12 = jpr (jpr (jpr (Ra 12) g13.toInt.toNat p1) (g13.toInt.toNat + 4) p2) (g13.toInt.toNat + 8) p3 := hx19.trans (by rw [hb12, show v17.toInt.toNat = g13.toInt.toNat + 8 by omega])
    refine lv_aload_n hx hb dX13_feed_35 rfl (lv_at hl 0 rfl) ?_
    refine lv_iload hx hb dX13_feed_36 (lv_at hl 4 rfl) ?_
    have hb12 := hre_12
    refine mz_Vv (As := [.int p4]) (rest := []) ⟨hx, hb, hml, hown, hts⟩ hK hM hS (k_X13_four_x l D cy ld ad am hD _ _ _ _ p4 v22 hIF hIG hIR hf21 (by omega) (by omega)) ⟨callB_of 1 hts (wl_in mw_435) rfl rfl rfl (htl _ mw_5) (htl _ mw_432) hd_yX13_four ⟨(Nat.le_of_ble_eq_true rfl), (Nat.le_of_ble_eq_true rfl)⟩, htl _ mw_433, htl _ mw_434⟩ rfl hl.1 rfl (Nat.le_of_ble_eq_true rfl) dX13_feed_38 ⟨(Nat.le_of_ble_eq_true rfl), (Nat.le_of_ble_eq_true rfl)⟩ (fun H locs F G R S hpo hM hS => ?_)
    obtain ⟨hIF, hIG, hIR, hfr9, hrr9, hgr9, hpo23, hx24⟩ := hpo
    have hFF := mz_fr (K := [0, 13]) (Fa := Fa) hfr9 hFF (by decide)
    have hRR := mz_fr (K := [12]) (Fa := Ra) hrr9 hRR (by decide)
    have hGG := mz_fr (K := []) (Fa := Ga) hgr9 hGG (by decide)
    have hf2 := (hfr9 0 (by decide)).trans hf2
    obtain ⟨v27, hf26⟩ : ∃ z : Int32, F 13 = z := ⟨_, rfl⟩
    have hq_v27 := tk_rng v27
    rw [hf26] at hpo23
    have hr_v27 : 0 ≤ v27.toInt ∧ v27.toInt ≤ 400 := hIF.at hf26
    have hre_12 : R 12 = jpr (jpr (jpr (jpr (Ra 12) g13.toInt.toNat p1) (g13.toInt.toNat + 4) p2) (g13.toInt.toNat + 8) p3) (g13.toInt.toNat + 12) p4 := hx24.trans (by rw [hb12, show v22.toInt.toNat = g13.toInt.toNat + 12 by omega])
    refine lv_aload_n hx hb dX13_feed_41 rfl (lv_at hl 0 rfl) ?_
    refine lv_iload hx hb dX13_feed_42 (lv_at hl 5 rfl) ?_
    have hb12 := hre_12
    refine mz_Vv (As := [.int p5]) (rest := []) ⟨hx, hb, hml, hown, hts⟩ hK hM hS (k_X13_four_x l D cy ld ad am hD _ _ _ _ p5 v27 hIF hIG hIR hf26 (by omega) (by omega)) ⟨callB_of 1 hts (wl_in mw_435) rfl rfl rfl (htl _ mw_5) (htl _ mw_432) hd_yX13_four ⟨(Nat.le_of_ble_eq_true rfl), (Nat.le_of_ble_eq_true rfl)⟩, htl _ mw_433, htl _ mw_434⟩ rfl hl.1 rfl (Nat.le_of_ble_eq_true rfl) dX13_feed_44 ⟨(Nat.le_of_ble_eq_true rfl), (Nat.le_of_ble_eq_true rfl)⟩ (fun H locs F G R S hpo hM hS => ?_)
    obtain ⟨hIF, hIG, hIR, hfr9, hrr9, hgr9, hpo28, hx29⟩ := hpo
    have hFF := mz_fr (K := [0, 13]) (Fa := Fa) hfr9 hFF (by decide)
    have hRR := mz_fr (K := [12]) (Fa := Ra) hrr9 hRR (by decide)
    have hGG := mz_fr (K := []) (Fa := Ga) hgr9 hGG (by decide)
    have hf2 := (hfr9 0 (by decide)).trans hf2
    obtain ⟨v32, hf31⟩ : ∃ z : Int32, F 13 = z := ⟨_, rfl⟩
    have hq_v32 := tk_rng v32
    rw [hf31] at hpo28
    have hr_v32 : 0 ≤ v32.toInt ∧ v32.toInt ≤ 400 := hIF.at hf31
    have hre_12 : R 12 = jpr (jpr (jpr (jpr (jpr (Ra 12) g13.toInt.toNat p1) (g13.toInt.toNat + 4) p2) (g13.toInt.toNat + 8) p3) (g13.toInt.toNat + 12) p4) (g13.toInt.toNat + 16) p5 := hx29.trans (by rw [hb12, show v27.toInt.toNat = g13.toInt.toNat + 16 by omega])
    refine lv_aload_n hx hb dX13_feed_47 rfl (lv_at hl 0 rfl) ?_
    refine mz_getI hx hb htl hown hK hM 13 (Nat.le_of_ble_eq_true rfl) rfl (htl _ mw_431) (fun _ h9 => h9) dX13_feed_48 (fun v9 e9 => ?_)
    refine fx_ti (v := v32) (e9.symm.trans hf31) ?_
    exact mz_iret (v := v32) hx hb hr rfl hlocks ⟨hIF, hIG, hIR, hFF, hRR, hGG, (by rw [hf31]; omega), (by rw [hf31]; omega), ⟨(fun _ => hre_12), (fun h9 => (show False by omega).elim)⟩⟩ hM hS dX13_feed_51
  · have hc4 : ¬ (v3.toInt ≤ 400) := fun h9 => c9 ((fi_le rfl (show (400 : Int32).toInt = 400 by decide)).mpr h9)
    refine lv_iconst (v := (-1)) hx hb dX13_feed_18 (by decide) ?_
    have hk_m1 : ((-1) : Int32).toInt = (-1) := by decide
    have hk_m1 : ((-1) : Int32).toInt = (-1) := by decide
    exact mz_iret (v := (-1)) hx hb hr rfl hlocks ⟨hIF, hIG, hIR, hFF, (fun _ _ => rfl), (fun _ _ => rfl), (by rw [hg_0]; omega), (by rw [hg_0]; omega), ⟨(fun h9 => (show False by omega).elim), (fun _ => (rfl : Ra 12 = Ra 12))⟩⟩ hM hS dX13_feed_19
set_option maxHeartbeats 4000000 in
set_option maxRecDepth 100000 in
theorem k_X13_end_x (l : Launch) (D : va_G) (cy : Nat → ClassId) (ld ad : Nat → Nat) (am : Nat) (hD : mz_D ad am) (Fa : Nat → Int32) (Ga : Nat → Int64) (Ra : Nat → Nat → Int32) (Sa : Nat → Nat → Int64) (p1 : Int32) (g13 : Int32) (hIF : mz_IF true Fa) (hIG : mz_IG Ga) (hIR : mz_IR [] true Ra) (hg_0 : Fa 13 = g13) : Met l yX13_end (wl yX13_end cX13_end 2 (some .int)) ({ frames := 3, cells := 0, slots := 0, locals := 140 }) (mz_p D cy ld ad am Fa Ga Ra Sa [.ref am, .int p1]) (mz_i D cy ad am (fun r F G R S => mz_IF true F ∧ mz_IG G ∧ mz_IR [] true R ∧ (∀ k : Nat, k ∉ ([0, 13] : List Nat) → F k = Fa k) ∧ (∀ k : Nat, k ∉ ([] : List Nat) → R k = Ra k) ∧ (∀ k : Nat, k ∉ ([] : List Nat) → G k = Ga k) ∧ (0 ≤ p1.toInt → 0 ≤ g13.toInt + (-1) * p1.toInt → (-1) * p1.toInt + r.toInt = 0 ∧ (F 13).toInt + (-1) * p1.toInt = 0) ∧ (p1.toInt ≤ (-1) → r.toInt + 1 = 0 ∧ (-1) * g13.toInt + (F 13).toInt = 0) ∧ (0 ≤ (-1) * g13.toInt + p1.toInt + (-1) → r.toInt + 1 = 0 ∧ (-1) * g13.toInt + (F 13).toInt = 0))) 0 0 (mz_W ad am) := by
  refine mz_met (y := yX13_end) (cc := cX13_end) (maxL := 2) (ret := (some .int)) (av := [.ref am, .int p1]) _ (by decide) (Nat.le_of_ble_eq_true rfl) ?_
  intro p e s m args below meth c hx hb hr hml hts htl hown hlocks hK H locs hM hS ls hl
  have hown : s.vm.findClass RX13 = some m.cls := hown
  have hl : lv_has ls 2 [(0, .ref am), (1, .int p1)] := hl
  have hr_p1 := tk_rng p1
  have hq_g13 := tk_rng g13
  have hr_g13 : 0 ≤ g13.toInt ∧ g13.toInt ≤ 400 := hIF.at hg_0
  refine lv_aload_n hx hb dX13_end_0 rfl (lv_at hl 0 rfl) ?_
  refine lv_iconst (v := 0) hx hb dX13_end_1 (by decide) ?_
  have hk_0 : (0 : Int32).toInt = 0 := by decide
  refine mz_putI (ty := .int) (x := 0) hx hb htl hown hK hD hM hS 0 (Nat.le_of_ble_eq_true rfl) rfl (htl _ mw_286) (fun _ h9 => h9) rfl (tyX13_ok 0 (by decide)) rfl rfl dX13_end_2 (fun H locs F hM hS hf9 hj9 => ?_)
  have hIF := hIF.put hf9 hj9 (tk_rng _).1 (tk_rng _).2 (by decide)
  have hFF := mz_frp (K := [0, 13]) (Fa := Fa) hj9 (fun _ _ => rfl) (by decide)
  have hg_0 := (hj9 13 (by decide)).trans hg_0
  have hf2 := hf9
  refine lv_iload_n hx hb dX13_end_5 rfl (lv_at hl 1 rfl) ?_
  refine lv_if_lt (tgt := 17) hx hb dX13_end_6 (by decide) (fun c9 => ?_) (fun c9 => ?_)
  · have hc3 : p1.toInt < 0 := (fi_lt rfl (show (0 : Int32).toInt = 0 by decide)).mp c9
    refine lv_iconst (v := (-1)) hx hb dX13_end_17 (by decide) ?_
    have hk_m1 : ((-1) : Int32).toInt = (-1) := by decide
    exact mz_iret (v := (-1)) hx hb hr rfl hlocks ⟨hIF, hIG, hIR, hFF, (fun _ _ => rfl), (fun _ _ => rfl), (by rw [hg_0]; omega), (by rw [hg_0]; omega), (by rw [hg_0]; omega)⟩ hM hS dX13_end_18
  · have hc3 : ¬ (p1.toInt < 0) := fun h9 => c9 ((fi_lt rfl (show (0 : Int32).toInt = 0 by decide)).mpr h9)
    refine lv_iload_n hx hb dX13_end_9 rfl (lv_at hl 1 rfl) ?_
    refine lv_aload_n hx hb dX13_end_10 rfl (lv_at hl 0 rfl) ?_
    refine mz_getI hx hb htl hown hK hM 13 (Nat.le_of_ble_eq_true rfl) rfl (htl _ mw_431) (fun _ h9 => h9) dX13_end_11 (fun v9 e9 => ?_)
    refine fx_ti (v := g13) (e9.symm.trans hg_0) ?_
    refine lv_icmp_le (tgt := 19) hx hb dX13_end_14 (by decide) (fun c9 => ?_) (fun c9 => ?_)
    · have hc4 : p1.toInt ≤ g13.toInt := (fi_le rfl rfl).mp c9
      refine lv_aload_n hx hb dX13_end_19 rfl (lv_at hl 0 rfl) ?_
      refine lv_iload_n hx hb dX13_end_20 rfl (lv_at hl 1 rfl) ?_
      refine mz_putI (ty := .int) (x := p1) hx hb htl hown hK hD hM hS 13 (Nat.le_of_ble_eq_true rfl) rfl (htl _ mw_431) (fun _ h9 => h9) rfl (tyX13_ok 13 (by decide)) rfl rfl dX13_end_21 (fun H locs F hM hS hf9 hj9 => ?_)
      have hIF := hIF.put hf9 hj9 (show 0 ≤ (p1 : Int32).toInt by omega) (show (p1 : Int32).toInt ≤ 400 by omega) (by decide)
      have hFF := mz_frp (K := [0, 13]) (Fa := Fa) hj9 hFF (by decide)
      have hf2 := (hj9 0 (by decide)).trans hf2
      have hf6 := hf9
      refine lv_iload_n hx hb dX13_end_24 rfl (lv_at hl 1 rfl) ?_
      exact mz_iret (v := p1) hx hb hr rfl hlocks ⟨hIF, hIG, hIR, hFF, (fun _ _ => rfl), (fun _ _ => rfl), (by rw [hf6]; omega), (by rw [hf6]; omega), (by rw [hf6]; omega)⟩ hM hS dX13_end_25
    · have hc4 : ¬ (p1.toInt ≤ g13.toInt) := fun h9 => c9 ((fi_le rfl rfl).mpr h9)
      refine lv_iconst (v := (-1)) hx hb dX13_end_17 (by decide) ?_
      have hk_m1 : ((-1) : Int32).toInt = (-1) := by decide
      exact mz_iret (v := (-1)) hx hb hr rfl hlocks ⟨hIF, hIG, hIR, hFF, (fun _ _ => rfl), (fun _ _ => rfl), (by rw [hg_0]; omega), (by rw [hg_0]; omega), (by rw [hg_0]; omega)⟩ hM hS dX13_end_18
set_option maxHeartbeats 4000000 in
set_option maxRecDepth 100000 in
theorem k_X13_row_x (l : Launch) (D : va_G) (cy : Nat → ClassId) (ld ad : Nat → Nat) (am : Nat) (hD : mz_D ad am) (Fa : Nat → Int32) (Ga : Nat → Int64) (Ra : Nat → Nat → Int32) (Sa : Nat → Nat → Int64) (g13 : Int32) (g11 : Int32) (hIF : mz_IF true Fa) (hIG : mz_IG Ga) (hIR : mz_IR [] true Ra) (hg_0 : Fa 13 = g13) (hg_1 : Fa 11 = g11) : Met l yX13_row (wl yX13_row cX13_row 4 (some .int)) ({ frames := 5, cells := 0, slots := 0, locals := 280 }) (mz_p D cy ld ad am Fa Ga Ra Sa [.ref am]) (mz_i D cy ad am (fun r F G R S => mz_IF true F ∧ mz_IG G ∧ mz_IR [] true R ∧ (∀ k : Nat, k ∉ ([0, 1, 11, 13] : List Nat) → F k = Fa k) ∧ (∀ k : Nat, k ∉ ([2, 3] : List Nat) → R k = Ra k) ∧ (∀ k : Nat, k ∉ ([] : List Nat) → G k = Ga k) ∧ (F 13).toInt = 0 ∧ (g13.toInt ≤ 0 → r.toInt + 6 = 0) ∧ (1 ≤ g13.toInt → 0 ≤ r.toInt) ∧ (g13.toInt ≤ 0 → R 3 = Ra 3 ∧ F 11 = g11) ∧ (1 ≤ g13.toInt → jrow (Ra 12) g13.toInt (Ra 3) (2 * ((((g13.toInt.toNat + 1) / 2 : Nat)) : Int)) r.toInt (F 11).toInt (R 3)))) 0 0 (mz_W ad am) := by
  refine mz_met (y := yX13_row) (cc := cX13_row) (maxL := 4) (ret := (some .int)) (av := [.ref am]) _ (by decide) (Nat.le_of_ble_eq_true rfl) ?_
  intro p e s m args below meth c hx hb hr hml hts htl hown hlocks hK H locs hM hS ls hl
  have hown : s.vm.findClass RX13 = some m.cls := hown
  have hl : lv_has ls 4 [(0, .ref am)] := hl
  have hq_g13 := tk_rng g13
  have hq_g11 := tk_rng g11
  have hr_g13 : 0 ≤ g13.toInt ∧ g13.toInt ≤ 400 := hIF.at hg_0
  refine lv_aload_n hx hb dX13_row_0 rfl (lv_at hl 0 rfl) ?_
  refine lv_iconst (v := 0) hx hb dX13_row_1 (by decide) ?_
  have hk_0 : (0 : Int32).toInt = 0 := by decide
  refine mz_putI (ty := .int) (x := 0) hx hb htl hown hK hD hM hS 0 (Nat.le_of_ble_eq_true rfl) rfl (htl _ mw_286) (fun _ h9 => h9) rfl (tyX13_ok 0 (by decide)) rfl rfl dX13_row_2 (fun H locs F hM hS hf9 hj9 => ?_)
  have hIF := hIF.put hf9 hj9 (tk_rng _).1 (tk_rng _).2 (by decide)
  have hFF := mz_frp (K := [0, 1, 11, 13]) (Fa := Fa) hj9 (fun _ _ => rfl) (by decide)
  have hg_0 := (hj9 13 (by decide)).trans hg_0
  have hg_1 := (hj9 11 (by decide)).trans hg_1
  have hf2 := hf9
  refine lv_aload_n hx hb dX13_row_5 rfl (lv_at hl 0 rfl) ?_
  refine mz_getI hx hb htl hown hK hM 13 (Nat.le_of_ble_eq_true rfl) rfl (htl _ mw_431) (fun _ h9 => h9) dX13_row_6 (fun v9 e9 => ?_)
  refine fx_ti (v := g13) (e9.symm.trans hg_0) ?_
  refine lv_istore_n (lv' := [(1, .int g13), (0, .ref am)]) hx hb dX13_row_9 rfl hl (by decide) rfl (fun ls hl => ?_)
  refine lv_aload_n hx hb dX13_row_10 rfl (lv_at hl 1 rfl) ?_
  refine lv_iconst (v := 0) hx hb dX13_row_11 (by decide) ?_
  have hk_0 : (0 : Int32).toInt = 0 := by decide
  have hk_0 : (0 : Int32).toInt = 0 := by decide
  refine mz_putI (ty := .int) (x := 0) hx hb htl hown hK hD hM hS 13 (Nat.le_of_ble_eq_true rfl) rfl (htl _ mw_431) (fun _ h9 => h9) rfl (tyX13_ok 13 (by decide)) rfl rfl dX13_row_12 (fun H locs F hM hS hf9 hj9 => ?_)
  have hIF := hIF.put hf9 hj9 (show 0 ≤ (0 : Int32).toInt by omega) (show (0 : Int32).toInt ≤ 400 by omega) (by decide)
  have hFF := mz_frp (K := [0, 1, 11, 13]) (Fa := Fa) hj9 hFF (by decide)
  have hg_1 := (hj9 11 (by decide)).trans hg_1
  have hf2 := (hj9 0 (by decide)).trans hf2
  have hf4 := hf9
  refine lv_iload_n hx hb dX13_row_15 rfl (lv_at hl 0 rfl) ?_
  refine lv_if_ne (tgt := 26) hx hb dX13_row_16 (by decide) (fun c9 => ?_) (fun c9 => ?_)
  · have hc5 : ¬ (g13.toInt = 0) := fun h9 => c9 ((fi_eq rfl (show (0 : Int32).toInt = 0 by decide)).mpr h9)
    refine lv_aload_n hx hb dX13_row_26 rfl (lv_at hl 1 rfl) ?_
    refine lv_iconst (v := 0) hx hb dX13_row_27 (by decide) ?_
    have hk_0 : (0 : Int32).toInt = 0 := by decide
    refine mz_putI (ty := .int) (x := 0) hx hb htl hown hK hD hM hS 11 (Nat.le_of_ble_eq_true rfl) rfl (htl _ mw_453) (fun _ h9 => h9) rfl (tyX13_ok 11 (by decide)) rfl rfl dX13_row_28 (fun H locs F hM hS hf9 hj9 => ?_)
    have hIF := hIF.put hf9 hj9 (tk_rng _).1 (tk_rng _).2 (by decide)
    have hFF := mz_frp (K := [0, 1, 11, 13]) (Fa := Fa) hj9 hFF (by decide)
    have hf2 := (hj9 0 (by decide)).trans hf2
    have hf4 := (hj9 13 (by decide)).trans hf4
    have hf10 := hf9
    refine lv_iconst (v := 0) hx hb dX13_row_31 (by decide) ?_
    refine lv_istore_n (lv' := [(2, .int 0), (1, .int g13), (0, .ref am)]) hx hb dX13_row_32 rfl hl (by decide) rfl (fun ls hl => ?_)
    refine lv_iconst (v := 0) hx hb dX13_row_33 (by decide) ?_
    refine lv_istore_n (lv' := [(3, .int 0), (2, .int 0), (1, .int g13), (0, .ref am)]) hx hb dX13_row_34 rfl hl (by decide) rfl (fun ls hl => ?_)
    have hl409 : ∀ (N_l409 : Nat) (v79 : Int32) (v80 : Int32) (v81 : Int32) (H : Heap) (locs : List Loc) (F : Nat → Int32) (G : Nat → Int64) (R : Nat → Nat → Int32) (S : Nat → Nat → Int64), (0 ≤ g13.toInt + (-1) * v81.toInt) → (0 ≤ v79.toInt + (-1) * v80.toInt) → (0 ≤ g13.toInt + (-1) * v80.toInt + (-1)) → (0 ≤ g13.toInt + (-1) * v79.toInt + 1) → (0 ≤ v80.toInt) → (0 ≤ v81.toInt) → (0 ≤ v79.toInt + (-1) * v81.toInt) → (mz_S D cy ad am F G R S H) → (va_S (mz_W ad am) s.heap H locs) → (mz_IF true F) → (mz_IG G) → (mz_IR [] true R) → (∀ k : Nat, k ∉ ([0, 1, 11, 13] : List Nat) → F k = Fa k) → (∀ k : Nat, k ∉ ([] : List Nat) → G k = Ga k) → (∀ k : Nat, k ∉ ([2, 3] : List Nat) → R k = Ra k) → (F 0 = 0) → (F 13 = 0) → (F 11 = v81) → (jrow (Ra 12) g13.toInt (Ra 3) v79.toInt v80.toInt v81.toInt (R 3)) → ((-1) * v79.toInt + 401 < (N_l409 : Int)) → ∀ ls : Array Slot, lv_has ls 4 [(3, .int v79), (2, .int v80), (1, .int g13), (0, .ref am)] → W p l e ({ frames := 5, cells := 0, slots := 0, locals := 280 }) s m args below meth c H locs 0 0 (MQ below (mz_i D cy ad am (fun r F G R S => mz_IF true F ∧ mz_IG G ∧ mz_IR [] true R ∧ (∀ k : Nat, k ∉ ([0, 1, 11, 13] : List Nat) → F k = Fa k) ∧ (∀ k : Nat, k ∉ ([2, 3] : List Nat) → R k = Ra k) ∧ (∀ k : Nat, k ∉ ([] : List Nat) → G k = Ga k) ∧ (F 13).toInt = 0 ∧ (g13.toInt ≤ 0 → r.toInt + 6 = 0) ∧ (1 ≤ g13.toInt → 0 ≤ r.toInt) ∧ (g13.toInt ≤ 0 → R 3 = Ra 3 ∧ F 11 = g11) ∧ (1 ≤ g13.toInt → jrow (Ra 12) g13.toInt (Ra 3) (2 * ((((g13.toInt.toNat + 1) / 2 : Nat)) : Int)) r.toInt (F 11).toInt (R 3)))) args s 0 0 (mz_W ad am)) (F0 m 35 ls []) := by
      intro N_l409
      induction N_l409 with
      | zero => intro v79 v80 v81 H locs F G R S hq0_l409 hq1_l409 hq2_l409 hq3_l409 hq4_l409 hq5_l409 hq6_l409 hM hS hIF hIG hIR hFF hGG hRR hf2 hf4 hf10 hrw hm_l409 ls hl; exfalso; omega
      | succ N_l409 ih_l409 =>
        intro v79 v80 v81 H locs F G R S hq0_l409 hq1_l409 hq2_l409 hq3_l409 hq4_l409 hq5_l409 hq6_l409 hM hS hIF hIG hIR hFF hGG hRR hf2 hf4 hf10 hrw hm_l409 ls hl
        refine lv_iload_n hx hb dX13_row_35 rfl (lv_at hl 0 rfl) ?_
        refine lv_iload_n hx hb dX13_row_36 rfl (lv_at hl 2 rfl) ?_
        refine lv_icmp_ge (tgt := 90) hx hb dX13_row_37 (by decide) (fun c9 => ?_) (fun c9 => ?_)
        · have hc410 : g13.toInt ≤ v79.toInt := (fi_le rfl rfl).mp c9
          refine lv_aload_n hx hb dX13_row_90 rfl (lv_at hl 3 rfl) ?_
          refine lv_iload_n hx hb dX13_row_91 rfl (lv_at hl 1 rfl) ?_
          refine mz_Vi (As := [.int v80]) (rest := []) ⟨hx, hb, hml, hown, hts⟩ hK hM hS (k_X13_tell l D cy ld ad am hD _ _ _ _ v80 hIF hIG hIR (by omega) (by omega)) ⟨callB_of 1 hts (wl_in mw_296) rfl rfl rfl (htl _ mw_5) (htl _ mw_293) hd_yX13_tell ⟨(Nat.le_of_ble_eq_true rfl), (Nat.le_of_ble_eq_true rfl)⟩, htl _ mw_294, htl _ mw_295⟩ rfl hl.1 rfl (Nat.le_of_ble_eq_true rfl) dX13_row_92 ⟨(Nat.le_of_ble_eq_true rfl), (Nat.le_of_ble_eq_true rfl)⟩ (fun v411 H locs F G R S hpo hM hS => ?_)
          obtain ⟨hIF, hIG, hIR, hfr9, hrr9, hgr9, hpo412⟩ := hpo
          have hq_v411 := tk_rng v411
          have hFF := mz_fr (K := [0, 1, 11, 13]) (Fa := Fa) hfr9 hFF (by decide)
          have hRR := mz_fr (K := [2, 3]) (Fa := Ra) hrr9 hRR (by decide)
          have hGG := mz_fr (K := []) (Fa := Ga) hgr9 hGG (by decide)
          have hf2 := (hfr9 0 (by decide)).trans hf2
          have hf4 := (hfr9 13 (by decide)).trans hf4
          have hf10 := (hfr9 11 (by decide)).trans hf10
          have hrwR := (hrr9 3 (by decide))
          have hk_0 : (0 : Int32).toInt = 0 := by decide
          exact mz_iret (v := v411) hx hb hr rfl hlocks ⟨hIF, hIG, hIR, hFF, hRR, hGG, (by rw [hf4]; omega), (by omega), (by omega), ⟨(fun h9 => (show False by omega).elim), (fun _ => by obtain ⟨q9, hi9, -⟩ := id hrw; rw [hf10, hrwR, show v411.toInt = v80.toInt by omega, show 2 * ((((g13.toInt.toNat + 1) / 2 : Nat)) : Int) = v79.toInt by omega]; exact hrw)⟩⟩ hM hS dX13_row_95
        · have hc410 : ¬ (g13.toInt ≤ v79.toInt) := fun h9 => c9 ((fi_le rfl rfl).mpr h9)
          refine lv_iload_n hx hb dX13_row_40 rfl (lv_at hl 0 rfl) ?_
          refine lv_iconst (v := 1) hx hb dX13_row_41 (by decide) ?_
          refine lv_iadd hx hb dX13_row_42 ?_
          refine tk_add rfl (show (1 : Int32).toInt = 1 by decide) (by omega) (by omega) (fun v414 h_v414 => ?_)
          refine lv_iload_n hx hb dX13_row_43 rfl (lv_at hl 2 rfl) ?_
          refine lv_icmp_ge (tgt := 74) hx hb dX13_row_44 (by decide) (fun c9 => ?_) (fun c9 => ?_)
          · have hc415 : g13.toInt ≤ v414.toInt := (fi_le rfl rfl).mp c9
            refine lv_aload_n hx hb dX13_row_74 rfl (lv_at hl 3 rfl) ?_
            refine lv_dup hx hb dX13_row_75 rfl ?_
            refine mz_getI hx hb htl hown hK hM 11 (Nat.le_of_ble_eq_true rfl) rfl (htl _ mw_453) (fun _ h9 => h9) dX13_row_76 (fun v9 e9 => ?_)
            refine fx_ti (v := v81) (e9.symm.trans hf10) ?_
            refine lv_iconst (v := 1) hx hb dX13_row_79 (by decide) ?_
            refine lv_iadd hx hb dX13_row_80 ?_
            refine tk_add rfl (show (1 : Int32).toInt = 1 by decide) (by omega) (by omega) (fun v416 h_v416 => ?_)
            refine mz_putI (ty := .int) (x := v416) hx hb htl hown hK hD hM hS 11 (Nat.le_of_ble_eq_true rfl) rfl (htl _ mw_453) (fun _ h9 => h9) rfl (tyX13_ok 11 (by decide)) rfl rfl dX13_row_81 (fun H locs F hM hS hf9 hj9 => ?_)
            have hIF := hIF.put hf9 hj9 (tk_rng _).1 (tk_rng _).2 (by decide)
            have hFF := mz_frp (K := [0, 1, 11, 13]) (Fa := Fa) hj9 hFF (by decide)
            have hf2 := (hj9 0 (by decide)).trans hf2
            have hf4 := (hj9 13 (by decide)).trans hf4
            have hf418 := hf9
            obtain ⟨v419, h_v419, e_v419⟩ := tk_inc v79 2 (by decide) (by omega) (by omega)
            refine lv_iinc (v := v419) (lv' := [(3, .int v419), (2, .int v80), (1, .int g13), (0, .ref am)]) hx hb dX13_row_84 hl (k := 0) rfl e_v419 (by decide) rfl (fun ls hl => ?_)
            refine lv_goto (tgt := 35) hx hb dX13_row_87 (by decide) ?_
            exact ih_l409 v419 v80 v416 _ _ _ _ _ _ (by omega) (by omega) (by omega) (by omega) (by omega) (by omega) (by omega) hM hS hIF hIG hIR hFF hGG hRR hf2 hf4 hf418 (jrow.no hrw (by omega) (by omega) (by omega) (by omega)) (by omega) _ (lv_sub hl [0, 1, 2, 3] rfl)
          · have hc415 : ¬ (g13.toInt ≤ v414.toInt) := fun h9 => c9 ((fi_le rfl rfl).mpr h9)
            refine lv_aload_n hx hb dX13_row_47 rfl (lv_at hl 3 rfl) ?_
            refine lv_aload_n hx hb dX13_row_48 rfl (lv_at hl 3 rfl) ?_
            refine mz_getR hx hb htl hown hK hM 12 (Nat.le_of_ble_eq_true rfl) (Nat.le_of_ble_eq_true rfl) (htl _ mw_195) (fun _ h9 => h9) dX13_row_49 ?_
            refine lv_iload_n hx hb dX13_row_52 rfl (lv_at hl 0 rfl) ?_
            refine mz_iald hx hb hK hM 12 (Nat.le_of_ble_eq_true rfl) rfl (nn := 400) rfl rfl (by omega) (by omega) dX13_row_53 (fun v420 e_v420 => ?_)
            have hq_v420 := tk_rng v420
            refine lv_aload_n hx hb dX13_row_54 rfl (lv_at hl 3 rfl) ?_
            refine mz_getR hx hb htl hown hK hM 12 (Nat.le_of_ble_eq_true rfl) (Nat.le_of_ble_eq_true rfl) (htl _ mw_195) (fun _ h9 => h9) dX13_row_55 ?_
            refine lv_iload_n hx hb dX13_row_58 rfl (lv_at hl 0 rfl) ?_
            refine lv_iconst (v := 1) hx hb dX13_row_59 (by decide) ?_
            refine lv_iadd hx hb dX13_row_60 ?_
            refine tk_add rfl (show (1 : Int32).toInt = 1 by decide) (by omega) (by omega) (fun v421 h_v421 => ?_)
            refine mz_iald hx hb hK hM 12 (Nat.le_of_ble_eq_true rfl) rfl (nn := 400) rfl rfl (by omega) (by omega) dX13_row_61 (fun v422 e_v422 => ?_)
            have hq_v422 := tk_rng v422
            obtain ⟨v424, hf423⟩ : ∃ z : Int32, R 3 1 = z := ⟨_, rfl⟩
            have hq_v424 := tk_rng v424
            have hr_v424 : 0 ≤ v424.toInt ∧ v424.toInt ≤ 10 := by have h9 := mz_r3c 1 (hIR.at 3) hf423 (by decide); unfold mE at h9; omega
            have hg1o := hf423
            refine mz_Vi (As := [.int v420, .int v422]) (rest := []) ⟨hx, hb, hml, hown, hts⟩ hK hM hS (k_X13_verse1_x l D cy ld ad am hD _ _ _ _ v420 v422 v424 hIF hIG hIR hf423) ⟨callB_of 2 hts (wl_in mw_341) rfl rfl rfl (htl _ mw_5) (htl _ mw_338) hd_yX13_verse1 ⟨(Nat.le_of_ble_eq_true rfl), (Nat.le_of_ble_eq_true rfl)⟩, htl _ mw_339, htl _ mw_340⟩ rfl hl.1 rfl (Nat.le_of_ble_eq_true rfl) dX13_row_62 ⟨(Nat.le_of_ble_eq_true rfl), (Nat.le_of_ble_eq_true rfl)⟩ (fun v425 H locs F G R S hpo hM hS => ?_)
            obtain ⟨hIF, hIG, hIR, hfr9, hrr9, hgr9, hpo426, hpo427, hpo428, hpo429, hpo430, hpo431, hpo432, hpo433, hx434⟩ := hpo
            have hq_v425 := tk_rng v425
            have hFF := mz_fr (K := [0, 1, 11, 13]) (Fa := Fa) hfr9 hFF (by decide)
            have hRR := mz_fr (K := [2, 3]) (Fa := Ra) hrr9 hRR (by decide)
            have hGG := mz_fr (K := []) (Fa := Ga) hgr9 hGG (by decide)
            have e_v420 : R 12 (v79 : Int32).toNatClampNeg = _ := (congrFun (hrr9 12 (by decide)) _).trans e_v420
            have e_v422 : R 12 (v421 : Int32).toNatClampNeg = _ := (congrFun (hrr9 12 (by decide)) _).trans e_v422
            have hf2 := (hfr9 0 (by decide)).trans hf2
            have hf4 := (hfr9 13 (by decide)).trans hf4
            have hf10 := (hfr9 11 (by decide)).trans hf10
            refine lv_if_lt (tgt := 74) hx hb dX13_row_65 (by decide) (fun c9 => ?_) (fun c9 => ?_)
            · have hc436 : v425.toInt < 0 := (fi_lt rfl (show (0 : Int32).toInt = 0 by decide)).mp c9
              refine lv_aload_n hx hb dX13_row_74 rfl (lv_at hl 3 rfl) ?_
              refine lv_dup hx hb dX13_row_75 rfl ?_
              refine mz_getI hx hb htl hown hK hM 11 (Nat.le_of_ble_eq_true rfl) rfl (htl _ mw_453) (fun _ h9 => h9) dX13_row_76 (fun v9 e9 => ?_)
              refine fx_ti (v := v81) (e9.symm.trans hf10) ?_
              refine lv_iconst (v := 1) hx hb dX13_row_79 (by decide) ?_
              refine lv_iadd hx hb dX13_row_80 ?_
              refine tk_add rfl (show (1 : Int32).toInt = 1 by decide) (by omega) (by omega) (fun v437 h_v437 => ?_)
              refine mz_putI (ty := .int) (x := v437) hx hb htl hown hK hD hM hS 11 (Nat.le_of_ble_eq_true rfl) rfl (htl _ mw_453) (fun _ h9 => h9) rfl (tyX13_ok 11 (by decide)) rfl rfl dX13_row_81 (fun H locs F hM hS hf9 hj9 => ?_)
              have hIF := hIF.put hf9 hj9 (tk_rng _).1 (tk_rng _).2 (by decide)
              have hFF := mz_frp (K := [0, 1, 11, 13]) (Fa := Fa) hj9 hFF (by decide)
              have hf2 := (hj9 0 (by decide)).trans hf2
              have hf4 := (hj9 13 (by decide)).trans hf4
              have hf439 := hf9
              obtain ⟨v440, h_v440, e_v440⟩ := tk_inc v79 2 (by decide) (by omega) (by omega)
              refine lv_iinc (v := v440) (lv' := [(3, .int v440), (2, .int v80), (1, .int g13), (0, .ref am)]) hx hb dX13_row_84 hl (k := 0) rfl e_v440 (by decide) rfl (fun ls hl => ?_)
              refine lv_goto (tgt := 35) hx hb dX13_row_87 (by decide) ?_
              exact ih_l409 v440 v80 v437 _ _ _ _ _ _ (by omega) (by omega) (by omega) (by omega) (by omega) (by omega) (by omega) hM hS hIF hIG hIR hFF hGG hRR hf2 hf4 hf439 (jrow.call hrw (by omega) hg1o (by rw [← hRR 12 (by decide)]; exact (show R 12 (v79 : Int32).toInt.toNat = _ from e_v420).symm) (by omega) (by rw [← hRR 12 (by decide)]; exact (show R 12 (v421 : Int32).toInt.toNat = _ from e_v422).symm) (by omega) hx434 (by omega) (by omega) (fun h9 => by omega) (fun h9 => by omega) (fun h9 => by omega) (fun h9 => by omega)) (by omega) _ (lv_sub hl [0, 1, 2, 3] rfl)
            · have hc436 : ¬ (v425.toInt < 0) := fun h9 => c9 ((fi_lt rfl (show (0 : Int32).toInt = 0 by decide)).mpr h9)
              obtain ⟨v441, h_v441, e_v441⟩ := tk_inc v80 1 (by decide) (by omega) (by omega)
              refine lv_iinc (v := v441) (lv' := [(2, .int v441), (3, .int v79), (1, .int g13), (0, .ref am)]) hx hb dX13_row_68 hl (k := 1) rfl e_v441 (by decide) rfl (fun ls hl => ?_)
              refine lv_goto (tgt := 84) hx hb dX13_row_71 (by decide) ?_
              obtain ⟨v442, h_v442, e_v442⟩ := tk_inc v79 2 (by decide) (by omega) (by omega)
              refine lv_iinc (v := v442) (lv' := [(3, .int v442), (2, .int v441), (1, .int g13), (0, .ref am)]) hx hb dX13_row_84 hl (k := 1) rfl e_v442 (by decide) rfl (fun ls hl => ?_)
              refine lv_goto (tgt := 35) hx hb dX13_row_87 (by decide) ?_
              exact ih_l409 v442 v441 v81 _ _ _ _ _ _ (by omega) (by omega) (by omega) (by omega) (by omega) (by omega) (by omega) hM hS hIF hIG hIR hFF hGG hRR hf2 hf4 hf10 (jrow.call hrw (by omega) hg1o (by rw [← hRR 12 (by decide)]; exact (show R 12 (v79 : Int32).toInt.toNat = _ from e_v420).symm) (by omega) (by rw [← hRR 12 (by decide)]; exact (show R 12 (v421 : Int32).toInt.toNat = _ from e_v422).symm) (by omega) hx434 (by omega) (by omega) (fun h9 => by omega) (fun h9 => by omega) (fun h9 => by omega) (fun h9 => by omega)) (by omega) _ (lv_sub hl [0, 1, 2, 3] rfl)
    have hk_0 : (0 : Int32).toInt = 0 := by decide
    have hk_0 : (0 : Int32).toInt = 0 := by decide
    have hk_0 : (0 : Int32).toInt = 0 := by decide
    have hk_0 : (0 : Int32).toInt = 0 := by decide
    have hk_0 : (0 : Int32).toInt = 0 := by decide
    have hk_0 : (0 : Int32).toInt = 0 := by decide
    exact hl409 402 0 0 0 _ _ _ _ _ _ (by omega) (by omega) (by omega) (by omega) (by omega) (by omega) (by omega) hM hS hIF hIG hIR hFF (fun _ _ => rfl) (fun _ _ => rfl) hf2 hf4 hf10 (by rw [show (0 : Int32).toInt = 0 by decide]; exact jrow.zero _ _ _ _ ((rfl : Ra 3 = Ra 3))) (by omega) _ (lv_sub hl [0, 1, 2, 3] rfl)
  · have hc5 : g13.toInt = 0 := (fi_eq rfl (show (0 : Int32).toInt = 0 by decide)).mp c9
    refine lv_aload_n hx hb dX13_row_19 rfl (lv_at hl 1 rfl) ?_
    refine lv_bipush (v := (-6)) hx hb dX13_row_20 (by decide) ?_
    have hk_m6 : ((-6) : Int32).toInt = (-6) := by decide
    refine mz_Vi (As := [.int (-6)]) (rest := []) ⟨hx, hb, hml, hown, hts⟩ hK hM hS (k_X13_tell l D cy ld ad am hD _ _ _ _ (-6) hIF hIG hIR (by omega) (by omega)) ⟨callB_of 1 hts (wl_in mw_296) rfl rfl rfl (htl _ mw_5) (htl _ mw_293) hd_yX13_tell ⟨(Nat.le_of_ble_eq_true rfl), (Nat.le_of_ble_eq_true rfl)⟩, htl _ mw_294, htl _ mw_295⟩ rfl hl.1 rfl (Nat.le_of_ble_eq_true rfl) dX13_row_22 ⟨(Nat.le_of_ble_eq_true rfl), (Nat.le_of_ble_eq_true rfl)⟩ (fun v443 H locs F G R S hpo hM hS => ?_)
    obtain ⟨hIF, hIG, hIR, hfr9, hrr9, hgr9, hpo444⟩ := hpo
    have hq_v443 := tk_rng v443
    have hFF := mz_fr (K := [0, 1, 11, 13]) (Fa := Fa) hfr9 hFF (by decide)
    have hRR := mz_fr (K := [2, 3]) (Fa := Ra) hrr9 (fun _ _ => rfl) (by decide)
    have hGG := mz_fr (K := []) (Fa := Ga) hgr9 (fun _ _ => rfl) (by decide)
    have hre_3 : R 3 = Ra 3 := (hrr9 3 (by decide)).trans (rfl : Ra 3 = Ra 3)
    have hg_1 := (hfr9 11 (by decide)).trans hg_1
    have hf2 := (hfr9 0 (by decide)).trans hf2
    have hf4 := (hfr9 13 (by decide)).trans hf4
    have hk_0 : (0 : Int32).toInt = 0 := by decide
    exact mz_iret (v := v443) hx hb hr rfl hlocks ⟨hIF, hIG, hIR, hFF, hRR, hGG, (by rw [hf4]; omega), (by omega), (by omega), ⟨(fun _ => ⟨hre_3, hg_1⟩), (fun h9 => (show False by omega).elim)⟩⟩ hM hS dX13_row_25
set_option maxHeartbeats 4000000 in
set_option maxRecDepth 100000 in
theorem k_X13_image_x (l : Launch) (D : va_G) (cy : Nat → ClassId) (ld ad : Nat → Nat) (am : Nat) (hD : mz_D ad am) (Fa : Nat → Int32) (Ga : Nat → Int64) (Ra : Nat → Nat → Int32) (Sa : Nat → Nat → Int64) (p1 : Int32) (hIF : mz_IF true Fa) (hIG : mz_IG Ga) (hIR : mz_IR [] true Ra) : Met l yX13_image (wl yX13_image cX13_image 3 (some .int)) ({ frames := 4, cells := 0, slots := 0, locals := 210 }) (mz_p D cy ld ad am Fa Ga Ra Sa [.ref am, .int p1]) (mz_i D cy ad am (fun r F G R S => mz_IF true F ∧ mz_IG G ∧ mz_IR [] true R ∧ (∀ k : Nat, k ∉ ([0, 1] : List Nat) → F k = Fa k) ∧ (∀ k : Nat, k ∉ ([2, 4, 5] : List Nat) → R k = Ra k) ∧ (∀ k : Nat, k ∉ ([] : List Nat) → G k = Ga k) ∧ (0 ≤ p1.toInt → p1.toInt ≤ 1 → r.toInt = 0 ∧ R 4 = va_cpy (Ra 3) (Ra 4) 0 (5560 * p1.toInt.toNat) 5560 ∧ R 5 = upd (Ra 5) p1.toNatClampNeg 1) ∧ ((p1.toInt ≤ -1 ∨ 2 ≤ p1.toInt) → r.toInt = -1 ∧ R 4 = Ra 4 ∧ R 5 = Ra 5))) 0 0 (mz_W ad am) := by
  refine mz_met (y := yX13_image) (cc := cX13_image) (maxL := 3) (ret := (some .int)) (av := [.ref am, .int p1]) _ (by decide) (Nat.le_of_ble_eq_true rfl) ?_
  intro p e s m args below meth c hx hb hr hml hts htl hown hlocks hK H locs hM hS ls hl
  have hown : s.vm.findClass RX13 = some m.cls := hown
  have hl : lv_has ls 3 [(0, .ref am), (1, .int p1)] := hl
  have hr_p1 := tk_rng p1
  refine lv_aload_n hx hb dX13_image_0 rfl (lv_at hl 0 rfl) ?_
  refine lv_iconst (v := 0) hx hb dX13_image_1 (by decide) ?_
  have hk_0 : (0 : Int32).toInt = 0 := by decide
  refine mz_putI (ty := .int) (x := 0) hx hb htl hown hK hD hM hS 0 (Nat.le_of_ble_eq_true rfl) rfl (htl _ mw_286) (fun _ h9 => h9) rfl (tyX13_ok 0 (by decide)) rfl rfl dX13_image_2 (fun H locs F hM hS hf9 hj9 => ?_)
  have hIF := hIF.put hf9 hj9 (tk_rng _).1 (tk_rng _).2 (by decide)
  have hFF := mz_frp (K := [0, 1]) (Fa := Fa) hj9 (fun _ _ => rfl) (by decide)
  have hf2 := hf9
  refine lv_iload_n hx hb dX13_image_5 rfl (lv_at hl 1 rfl) ?_
  obtain ⟨w3, e_w3, h_w3⟩ : ∃ z : Int64, p1.toInt64 = z ∧ z.toInt = p1.toInt := ⟨_, rfl, fl_w _⟩
  refine lv_i2l (v := w3) hx hb dX13_image_6 e_w3 ?_
  refine lv_lconst (v := 0) hx hb dX13_image_7 (by decide) ?_
  refine lv_lconst (v := 1) hx hb dX13_image_8 (by decide) ?_
  have hk_0 : (0 : Int64).toInt = 0 := by decide
  have hk_1 : (1 : Int64).toInt = 1 := by decide
  refine mz_Sj (As := [.long w3, .long 0, .long 1]) (rest := []) ⟨hx, hb, hml, hown, hts⟩ hK hM hS (k_X13_in l D cy ld ad am hD _ _ _ _ w3 0 1) ⟨callB_of 3 hts (wl_in mw_292) rfl rfl rfl (htl _ mw_5) (htl _ mw_290) hd_yX13_in ⟨(Nat.le_of_ble_eq_true rfl), (Nat.le_of_ble_eq_true rfl)⟩, htl _ mw_291⟩ rfl hl.1 rfl (Nat.le_of_ble_eq_true rfl) dX13_image_9 ⟨(Nat.le_of_ble_eq_true rfl), (Nat.le_of_ble_eq_true rfl)⟩ (fun v4 H locs hpo hM hS => ?_)
  obtain ⟨hpo5, hpo6, hpo10, hpo11, hpo12, hpo13⟩ := hpo
  have hq_v4 := tk_rng v4
  refine lv_if_ne (tgt := 21) hx hb dX13_image_12 (by decide) (fun c9 => ?_) (fun c9 => ?_)
  · have hc15 : ¬ (v4.toInt = 0) := fun h9 => c9 ((fi_eq rfl (show (0 : Int32).toInt = 0 by decide)).mpr h9)
    have hwk_16 : 0 ≤ w3.toInt ∧ w3.toInt ≤ 1 := by omega
    refine lv_iconst (v := 0) hx hb dX13_image_21 (by decide) ?_
    refine lv_istore_n (lv' := [(2, .int 0), (0, .ref am), (1, .int p1)]) hx hb dX13_image_22 rfl hl (by decide) rfl (fun ls hl => ?_)
    have hI9 := hIR
    have hIR := hIR.hole (X := [4])
    obtain ⟨cf, ecf⟩ : ∃ z : Nat → Int32, Ra 3 = z := ⟨_, rfl⟩
    obtain ⟨cg, ecg⟩ : ∃ z : Nat → Int32, Ra 4 = z := ⟨_, rfl⟩
    have hl101 : ∀ (N_l101 : Nat) (v29 : Int32) (H : Heap) (locs : List Loc) (R : Nat → Nat → Int32), (0 ≤ v29.toInt) → (v29.toInt ≤ 5560) → (mz_S D cy ad am F Ga R Sa H) → (va_S (mz_W ad am) s.heap H locs) → (mz_IR [4] true R) → (∀ k : Nat, k ∉ ([2, 4, 5] : List Nat) → R k = Ra k) → (R 5 = Ra 5) → (R 4 = va_cpy cf cg 0 (5560 * p1.toInt.toNat) v29.toInt.toNat) → (R 3 = cf) → ((-1) * v29.toInt + 5560 < (N_l101 : Int)) → ∀ ls : Array Slot, lv_has ls 3 [(2, .int v29), (0, .ref am), (1, .int p1)] → W p l e ({ frames := 4, cells := 0, slots := 0, locals := 210 }) s m args below meth c H locs 0 0 (MQ below (mz_i D cy ad am (fun r F G R S => mz_IF true F ∧ mz_IG G ∧ mz_IR [] true R ∧ (∀ k : Nat, k ∉ ([0, 1] : List Nat) → F k = Fa k) ∧ (∀ k : Nat, k ∉ ([2, 4, 5] : List Nat) → R k = Ra k) ∧ (∀ k : Nat, k ∉ ([] : List Nat) → G k = Ga k) ∧ (0 ≤ p1.toInt → p1.toInt ≤ 1 → r.toInt = 0 ∧ R 4 = va_cpy (Ra 3) (Ra 4) 0 (5560 * p1.toInt.toNat) 5560 ∧ R 5 = upd (Ra 5) p1.toNatClampNeg 1) ∧ ((p1.toInt ≤ -1 ∨ 2 ≤ p1.toInt) → r.toInt = -1 ∧ R 4 = Ra 4 ∧ R 5 = Ra 5))) args s 0 0 (mz_W ad am)) (F0 m 23 ls []) := by
      intro N_l101
      induction N_l101 with
      | zero => intro v29 H locs R hq0_l101 hq1_l101 hM hS hIR hRR hre_5 hcp hcs hm_l101 ls hl; exfalso; omega
      | succ N_l101 ih_l101 =>
        intro v29 H locs R hq0_l101 hq1_l101 hM hS hIR hRR hre_5 hcp hcs hm_l101 ls hl
        refine lv_iload_n hx hb dX13_image_23 rfl (lv_at hl 0 rfl) ?_
        refine lv_sipush (v := 5560) hx hb dX13_image_24 (by decide) ?_
        refine lv_icmp_ge (tgt := 54) hx hb dX13_image_27 (by decide) (fun c9 => ?_) (fun c9 => ?_)
        · have hc102 : 5560 ≤ v29.toInt := (fi_le (show (5560 : Int32).toInt = 5560 by decide) rfl).mp c9
          have e9 : v29.toInt.toNat = 5560 := by omega
          rw [e9] at hcp
          have hIR := hIR.close (by rw [hcp]; exact mz_img (by rw [← ecf]; exact hI9.at 3) (by rw [← ecg]; exact hI9.at 4))
          have hcpK : R 4 = va_cpy (Ra 3) (Ra 4) 0 (5560 * p1.toInt.toNat) 5560 := by rw [hcp, ecf, ecg]
          have hre_4 := hcpK
          refine lv_aload_n hx hb dX13_image_54 rfl (lv_at hl 1 rfl) ?_
          refine mz_getR hx hb htl hown hK hM 5 (Nat.le_of_ble_eq_true rfl) (Nat.le_of_ble_eq_true rfl) (htl _ mw_190) (fun _ h9 => h9) dX13_image_55 ?_
          refine lv_iload_n hx hb dX13_image_58 rfl (lv_at hl 2 rfl) ?_
          refine lv_iconst (v := 1) hx hb dX13_image_59 (by decide) ?_
          have hk_1 : (1 : Int32).toInt = 1 := by decide
          refine mz_zast (x := 1) hx hb hK hD hM hS 5 (Nat.le_of_ble_eq_true rfl) rfl (nn := 2) rfl rfl (by omega) (by omega) dX13_image_60 (fun H locs R hM hS hw9 hj9 => ?_)
          have hIR := hIR.put hw9 hj9 trivial
          have hRR := mz_frp (K := [2, 4, 5]) (Fa := Ra) hj9 hRR (by decide)
          have hre_5 : R 5 = upd (Ra 5) (p1 : Int32).toNatClampNeg 1 := hw9.trans (congrArg (fun f => upd f (p1 : Int32).toNatClampNeg 1) hre_5)
          have hre_4 : R 4 = va_cpy (Ra 3) (Ra 4) 0 (5560 * p1.toInt.toNat) 5560 := (hj9 4 (by decide)).trans hre_4
          refine lv_aload_n hx hb dX13_image_61 rfl (lv_at hl 1 rfl) ?_
          refine lv_iconst (v := 0) hx hb dX13_image_62 (by decide) ?_
          have hk_0 : (0 : Int32).toInt = 0 := by decide
          refine mz_Vi (As := [.int 0]) (rest := []) ⟨hx, hb, hml, hown, hts⟩ hK hM hS (k_X13_tell l D cy ld ad am hD _ _ _ _ 0 hIF hIG hIR (by omega) (by omega)) ⟨callB_of 1 hts (wl_in mw_296) rfl rfl rfl (htl _ mw_5) (htl _ mw_293) hd_yX13_tell ⟨(Nat.le_of_ble_eq_true rfl), (Nat.le_of_ble_eq_true rfl)⟩, htl _ mw_294, htl _ mw_295⟩ rfl hl.1 rfl (Nat.le_of_ble_eq_true rfl) dX13_image_63 ⟨(Nat.le_of_ble_eq_true rfl), (Nat.le_of_ble_eq_true rfl)⟩ (fun v104 H locs F G R S hpo hM hS => ?_)
          obtain ⟨hIF, hIG, hIR, hfr9, hrr9, hgr9, hpo105⟩ := hpo
          have hq_v104 := tk_rng v104
          have hFF := mz_fr (K := [0, 1]) (Fa := Fa) hfr9 hFF (by decide)
          have hRR := mz_fr (K := [2, 4, 5]) (Fa := Ra) hrr9 hRR (by decide)
          have hGG := mz_fr (K := []) (Fa := Ga) hgr9 (fun _ _ => rfl) (by decide)
          have hre_5 : R 5 = upd (Ra 5) (p1 : Int32).toNatClampNeg 1 := (hrr9 5 (by decide)).trans hre_5
          have hre_4 : R 4 = va_cpy (Ra 3) (Ra 4) 0 (5560 * p1.toInt.toNat) 5560 := (hrr9 4 (by decide)).trans hre_4
          have hf2 := (hfr9 0 (by decide)).trans hf2
          exact mz_iret (v := v104) hx hb hr rfl hlocks ⟨hIF, hIG, hIR, hFF, hRR, hGG, ⟨(fun _ _ => ⟨by omega, hre_4, hre_5⟩), (fun h9 => (show False by omega).elim)⟩⟩ hM hS dX13_image_66
        · have hc102 : ¬ (5560 ≤ v29.toInt) := fun h9 => c9 ((fi_le (show (5560 : Int32).toInt = 5560 by decide) rfl).mpr h9)
          refine lv_aload_n hx hb dX13_image_30 rfl (lv_at hl 1 rfl) ?_
          refine mz_getR hx hb htl hown hK hM 4 (Nat.le_of_ble_eq_true rfl) (Nat.le_of_ble_eq_true rfl) (htl _ mw_189) (fun _ h9 => h9) dX13_image_31 ?_
          refine lv_sipush (v := 5560) hx hb dX13_image_34 (by decide) ?_
          refine lv_iload_n hx hb dX13_image_37 rfl (lv_at hl 2 rfl) ?_
          refine lv_imul hx hb dX13_image_38 ?_
          refine tk_mul (show (5560 : Int32).toInt = 5560 by decide) rfl (by omega) (by omega) (fun v107 h_v107 => ?_)
          refine lv_iload_n hx hb dX13_image_39 rfl (lv_at hl 0 rfl) ?_
          refine lv_iadd hx hb dX13_image_40 ?_
          refine tk_add rfl rfl (by omega) (by omega) (fun v108 h_v108 => ?_)
          refine lv_aload_n hx hb dX13_image_41 rfl (lv_at hl 1 rfl) ?_
          refine mz_getR hx hb htl hown hK hM 3 (Nat.le_of_ble_eq_true rfl) (Nat.le_of_ble_eq_true rfl) (htl _ mw_188) (fun _ h9 => h9) dX13_image_42 ?_
          refine lv_iload_n hx hb dX13_image_45 rfl (lv_at hl 0 rfl) ?_
          refine mz_iald hx hb hK hM 3 (Nat.le_of_ble_eq_true rfl) rfl (nn := 5560) rfl rfl (by omega) (by omega) dX13_image_46 (fun v109 e_v109 => ?_)
          have hq_v109 := tk_rng v109
          refine mz_iast (x := v109) hx hb hK hD hM hS 4 (Nat.le_of_ble_eq_true rfl) rfl (nn := 11120) rfl rfl (by omega) (by omega) dX13_image_47 (fun H locs R hM hS hw9 hj9 => ?_)
          have hIR := hIR.putX hj9 (by decide)
          have hcp := mz_cps (sp := 0) (dp := (5560 * p1.toInt.toNat)) (n := v29.toInt.toNat) hw9 hcp (by omega) (by rw [← e_v109, hcs]; congr 1; have h9 := tk_nat (i := v29) rfl (by omega); omega)
          have hcs := (hj9 3 (by decide)).trans hcs
          have hRR := mz_frp (K := [2, 4, 5]) (Fa := Ra) hj9 hRR (by decide)
          have hre_5 : R 5 = Ra 5 := (hj9 5 (by decide)).trans hre_5
          have e_v109 : R 3 (v29 : Int32).toNatClampNeg = _ := (congrFun (hj9 3 (by decide)) _).trans e_v109
          obtain ⟨v111, h_v111, e_v111⟩ := tk_inc v29 1 (by decide) (by omega) (by omega)
          refine lv_iinc (v := v111) (lv' := [(2, .int v111), (0, .ref am), (1, .int p1)]) hx hb dX13_image_48 hl (k := 0) rfl e_v111 (by decide) rfl (fun ls hl => ?_)
          refine lv_goto (tgt := 23) hx hb dX13_image_51 (by decide) ?_
          exact ih_l101 v111 _ _ _ (by omega) (by omega) hM hS hIR hRR hre_5 (by rw [show v111.toInt.toNat = v29.toInt.toNat + 1 by omega]; exact hcp) hcs (by omega) _ (lv_sub hl [0, 1, 2] rfl)
    have hk_0 : (0 : Int32).toInt = 0 := by decide
    exact hl101 5561 0 _ _ _ (by omega) (by omega) hM hS hIR (fun _ _ => rfl) (rfl : Ra 5 = Ra 5) (by rw [show (0 : Int32).toInt.toNat = 0 by decide, mz_cp0]; exact ecg) ecf (by omega) _ (lv_sub hl [0, 1, 2] rfl)
  · have hc15 : v4.toInt = 0 := (fi_eq rfl (show (0 : Int32).toInt = 0 by decide)).mp c9
    refine lv_aload_n hx hb dX13_image_15 rfl (lv_at hl 0 rfl) ?_
    refine lv_iconst (v := (-1)) hx hb dX13_image_16 (by decide) ?_
    have hk_m1 : ((-1) : Int32).toInt = (-1) := by decide
    refine mz_Vi (As := [.int (-1)]) (rest := []) ⟨hx, hb, hml, hown, hts⟩ hK hM hS (k_X13_tell l D cy ld ad am hD _ _ _ _ (-1) hIF hIG hIR (by omega) (by omega)) ⟨callB_of 1 hts (wl_in mw_296) rfl rfl rfl (htl _ mw_5) (htl _ mw_293) hd_yX13_tell ⟨(Nat.le_of_ble_eq_true rfl), (Nat.le_of_ble_eq_true rfl)⟩, htl _ mw_294, htl _ mw_295⟩ rfl hl.1 rfl (Nat.le_of_ble_eq_true rfl) dX13_image_17 ⟨(Nat.le_of_ble_eq_true rfl), (Nat.le_of_ble_eq_true rfl)⟩ (fun v112 H locs F G R S hpo hM hS => ?_)
    obtain ⟨hIF, hIG, hIR, hfr9, hrr9, hgr9, hpo113⟩ := hpo
    have hq_v112 := tk_rng v112
    have hFF := mz_fr (K := [0, 1]) (Fa := Fa) hfr9 hFF (by decide)
    have hRR := mz_fr (K := [2, 4, 5]) (Fa := Ra) hrr9 (fun _ _ => rfl) (by decide)
    have hGG := mz_fr (K := []) (Fa := Ga) hgr9 (fun _ _ => rfl) (by decide)
    have hre_4 : R 4 = Ra 4 := (hrr9 4 (by decide)).trans (rfl : Ra 4 = Ra 4)
    have hre_5 : R 5 = Ra 5 := (hrr9 5 (by decide)).trans (rfl : Ra 5 = Ra 5)
    have hf2 := (hfr9 0 (by decide)).trans hf2
    exact mz_iret (v := v112) hx hb hr rfl hlocks ⟨hIF, hIG, hIR, hFF, hRR, hGG, ⟨(fun h8 h9 => (show False by omega).elim), (fun _ => ⟨by omega, hre_4, hre_5⟩)⟩⟩ hM hS dX13_image_20
set_option maxHeartbeats 4000000 in
set_option maxRecDepth 100000 in
theorem k_X13_back_x (l : Launch) (D : va_G) (cy : Nat → ClassId) (ld ad : Nat → Nat) (am : Nat) (hD : mz_D ad am) (Fa : Nat → Int32) (Ga : Nat → Int64) (Ra : Nat → Nat → Int32) (Sa : Nat → Nat → Int64) (p1 : Int32) (hIF : mz_IF true Fa) (hIG : mz_IG Ga) (hIR : mz_IR [] true Ra) : Met l yX13_back (wl yX13_back cX13_back 3 (some .int)) ({ frames := 4, cells := 0, slots := 0, locals := 210 }) (mz_p D cy ld ad am Fa Ga Ra Sa [.ref am, .int p1]) (mz_i D cy ad am (fun r F G R S => mz_IF true F ∧ mz_IG G ∧ mz_IR [] true R ∧ (∀ k : Nat, k ∉ ([0, 1, 8] : List Nat) → F k = Fa k) ∧ (∀ k : Nat, k ∉ ([2, 3] : List Nat) → R k = Ra k) ∧ (∀ k : Nat, k ∉ ([] : List Nat) → G k = Ga k) ∧ (0 ≤ p1.toInt → p1.toInt ≤ 1 → (Ra 5 p1.toNatClampNeg).toInt ≠ 0 → r.toInt = 0 ∧ R 3 = va_cpy (Ra 4) (Ra 3) (5560 * p1.toInt.toNat) 0 5560) ∧ (0 ≤ p1.toInt → p1.toInt ≤ 1 → (Ra 5 p1.toNatClampNeg).toInt = 0 → r.toInt = -2 ∧ R 3 = Ra 3) ∧ ((p1.toInt ≤ -1 ∨ 2 ≤ p1.toInt) → r.toInt = -1 ∧ R 3 = Ra 3))) 0 0 (mz_W ad am) := by
  refine mz_met (y := yX13_back) (cc := cX13_back) (maxL := 3) (ret := (some .int)) (av := [.ref am, .int p1]) _ (by decide) (Nat.le_of_ble_eq_true rfl) ?_
  intro p e s m args below meth c hx hb hr hml hts htl hown hlocks hK H locs hM hS ls hl
  have hown : s.vm.findClass RX13 = some m.cls := hown
  have hl : lv_has ls 3 [(0, .ref am), (1, .int p1)] := hl
  have hr_p1 := tk_rng p1
  refine lv_aload_n hx hb dX13_back_0 rfl (lv_at hl 0 rfl) ?_
  refine lv_iconst (v := 0) hx hb dX13_back_1 (by decide) ?_
  have hk_0 : (0 : Int32).toInt = 0 := by decide
  refine mz_putI (ty := .int) (x := 0) hx hb htl hown hK hD hM hS 0 (Nat.le_of_ble_eq_true rfl) rfl (htl _ mw_286) (fun _ h9 => h9) rfl (tyX13_ok 0 (by decide)) rfl rfl dX13_back_2 (fun H locs F hM hS hf9 hj9 => ?_)
  have hIF := hIF.put hf9 hj9 (tk_rng _).1 (tk_rng _).2 (by decide)
  have hFF := mz_frp (K := [0, 1, 8]) (Fa := Fa) hj9 (fun _ _ => rfl) (by decide)
  have hf2 := hf9
  refine lv_iload_n hx hb dX13_back_5 rfl (lv_at hl 1 rfl) ?_
  obtain ⟨w3, e_w3, h_w3⟩ : ∃ z : Int64, p1.toInt64 = z ∧ z.toInt = p1.toInt := ⟨_, rfl, fl_w _⟩
  refine lv_i2l (v := w3) hx hb dX13_back_6 e_w3 ?_
  refine lv_lconst (v := 0) hx hb dX13_back_7 (by decide) ?_
  refine lv_lconst (v := 1) hx hb dX13_back_8 (by decide) ?_
  have hk_0 : (0 : Int64).toInt = 0 := by decide
  have hk_1 : (1 : Int64).toInt = 1 := by decide
  refine mz_Sj (As := [.long w3, .long 0, .long 1]) (rest := []) ⟨hx, hb, hml, hown, hts⟩ hK hM hS (k_X13_in l D cy ld ad am hD _ _ _ _ w3 0 1) ⟨callB_of 3 hts (wl_in mw_292) rfl rfl rfl (htl _ mw_5) (htl _ mw_290) hd_yX13_in ⟨(Nat.le_of_ble_eq_true rfl), (Nat.le_of_ble_eq_true rfl)⟩, htl _ mw_291⟩ rfl hl.1 rfl (Nat.le_of_ble_eq_true rfl) dX13_back_9 ⟨(Nat.le_of_ble_eq_true rfl), (Nat.le_of_ble_eq_true rfl)⟩ (fun v4 H locs hpo hM hS => ?_)
  obtain ⟨hpo5, hpo6, hpo10, hpo11, hpo12, hpo13⟩ := hpo
  have hq_v4 := tk_rng v4
  refine lv_if_ne (tgt := 21) hx hb dX13_back_12 (by decide) (fun c9 => ?_) (fun c9 => ?_)
  · have hc15 : ¬ (v4.toInt = 0) := fun h9 => c9 ((fi_eq rfl (show (0 : Int32).toInt = 0 by decide)).mpr h9)
    have hwk_16 : 0 ≤ w3.toInt ∧ w3.toInt ≤ 1 := by omega
    refine lv_aload_n hx hb dX13_back_21 rfl (lv_at hl 0 rfl) ?_
    refine mz_getR hx hb htl hown hK hM 5 (Nat.le_of_ble_eq_true rfl) (Nat.le_of_ble_eq_true rfl) (htl _ mw_190) (fun _ h9 => h9) dX13_back_22 ?_
    refine lv_iload_n hx hb dX13_back_25 rfl (lv_at hl 1 rfl) ?_
    refine mz_zald hx hb hK hM 5 (Nat.le_of_ble_eq_true rfl) rfl (nn := 2) rfl rfl (by omega) (by omega) dX13_back_26 (fun v17 e_v17 => ?_)
    have hq_v17 := tk_rng v17
    have ez_v17 : (Ra 5 (p1 : Int32).toNatClampNeg).toInt = v17.toInt := congrArg Int32.toInt e_v17
    refine lv_if_ne (tgt := 37) hx hb dX13_back_27 (by decide) (fun c9 => ?_) (fun c9 => ?_)
    · have hc18 : ¬ (v17.toInt = 0) := fun h9 => c9 ((fi_eq rfl (show (0 : Int32).toInt = 0 by decide)).mpr h9)
      refine lv_iconst (v := 0) hx hb dX13_back_37 (by decide) ?_
      refine lv_istore_n (lv' := [(2, .int 0), (0, .ref am), (1, .int p1)]) hx hb dX13_back_38 rfl hl (by decide) rfl (fun ls hl => ?_)
      have hI9 := hIR
      have hIR := hIR.hole (X := [3])
      obtain ⟨cf, ecf⟩ : ∃ z : Nat → Int32, Ra 4 = z := ⟨_, rfl⟩
      obtain ⟨cg, ecg⟩ : ∃ z : Nat → Int32, Ra 3 = z := ⟨_, rfl⟩
      have hl109 : ∀ (N_l109 : Nat) (v32 : Int32) (H : Heap) (locs : List Loc) (R : Nat → Nat → Int32), (0 ≤ v32.toInt) → (v32.toInt ≤ 5560) → (mz_S D cy ad am F Ga R Sa H) → (va_S (mz_W ad am) s.heap H locs) → (mz_IR [3] true R) → (∀ k : Nat, k ∉ ([2, 3] : List Nat) → R k = Ra k) → (R 3 = va_cpy cf cg (5560 * p1.toInt.toNat) 0 v32.toInt.toNat) → (R 4 = cf) → ((-1) * v32.toInt + 5560 < (N_l109 : Int)) → ∀ ls : Array Slot, lv_has ls 3 [(2, .int v32), (0, .ref am), (1, .int p1)] → W p l e ({ frames := 4, cells := 0, slots := 0, locals := 210 }) s m args below meth c H locs 0 0 (MQ below (mz_i D cy ad am (fun r F G R S => mz_IF true F ∧ mz_IG G ∧ mz_IR [] true R ∧ (∀ k : Nat, k ∉ ([0, 1, 8] : List Nat) → F k = Fa k) ∧ (∀ k : Nat, k ∉ ([2, 3] : List Nat) → R k = Ra k) ∧ (∀ k : Nat, k ∉ ([] : List Nat) → G k = Ga k) ∧ (0 ≤ p1.toInt → p1.toInt ≤ 1 → (Ra 5 p1.toNatClampNeg).toInt ≠ 0 → r.toInt = 0 ∧ R 3 = va_cpy (Ra 4) (Ra 3) (5560 * p1.toInt.toNat) 0 5560) ∧ (0 ≤ p1.toInt → p1.toInt ≤ 1 → (Ra 5 p1.toNatClampNeg).toInt = 0 → r.toInt = -2 ∧ R 3 = Ra 3) ∧ ((p1.toInt ≤ -1 ∨ 2 ≤ p1.toInt) → r.toInt = -1 ∧ R 3 = Ra 3))) args s 0 0 (mz_W ad am)) (F0 m 39 ls []) := by
        intro N_l109
        induction N_l109 with
        | zero => intro v32 H locs R hq0_l109 hq1_l109 hM hS hIR hRR hcp hcs hm_l109 ls hl; exfalso; omega
        | succ N_l109 ih_l109 =>
          intro v32 H locs R hq0_l109 hq1_l109 hM hS hIR hRR hcp hcs hm_l109 ls hl
          refine lv_iload_n hx hb dX13_back_39 rfl (lv_at hl 0 rfl) ?_
          refine lv_sipush (v := 5560) hx hb dX13_back_40 (by decide) ?_
          refine lv_icmp_ge (tgt := 70) hx hb dX13_back_43 (by decide) (fun c9 => ?_) (fun c9 => ?_)
          · have hc110 : 5560 ≤ v32.toInt := (fi_le (show (5560 : Int32).toInt = 5560 by decide) rfl).mp c9
            have e9 : v32.toInt.toNat = 5560 := by omega
            rw [e9] at hcp
            have hIR := hIR.close (by rw [hcp]; exact mz_unimg ((show ∀ s : Nat, s < 2 → rO cf (5560 * s) by rw [← ecf]; exact hI9.at 4) p1.toInt.toNat (by omega)))
            have hcpK : R 3 = va_cpy (Ra 4) (Ra 3) (5560 * p1.toInt.toNat) 0 5560 := by rw [hcp, ecf, ecg]
            have hre_3 := hcpK
            refine lv_aload_n hx hb dX13_back_70 rfl (lv_at hl 1 rfl) ?_
            refine lv_iconst (v := 0) hx hb dX13_back_71 (by decide) ?_
            have hk_0 : (0 : Int32).toInt = 0 := by decide
            have hk_0 : (0 : Int32).toInt = 0 := by decide
            refine mz_putI (ty := .int) (x := 0) hx hb htl hown hK hD hM hS 8 (Nat.le_of_ble_eq_true rfl) rfl (htl _ mw_289) (fun _ h9 => h9) rfl (tyX13_ok 8 (by decide)) rfl rfl dX13_back_72 (fun H locs F hM hS hf9 hj9 => ?_)
            have hIF := hIF.put hf9 hj9 (show 0 ≤ (0 : Int32).toInt by omega) (show (0 : Int32).toInt ≤ 16 by omega) (by decide)
            have hFF := mz_frp (K := [0, 1, 8]) (Fa := Fa) hj9 hFF (by decide)
            have hf2 := (hj9 0 (by decide)).trans hf2
            have hf112 := hf9
            refine lv_aload_n hx hb dX13_back_75 rfl (lv_at hl 1 rfl) ?_
            refine lv_iconst (v := 0) hx hb dX13_back_76 (by decide) ?_
            have hk_0 : (0 : Int32).toInt = 0 := by decide
            refine mz_Vi (As := [.int 0]) (rest := []) ⟨hx, hb, hml, hown, hts⟩ hK hM hS (k_X13_tell l D cy ld ad am hD _ _ _ _ 0 hIF hIG hIR (by omega) (by omega)) ⟨callB_of 1 hts (wl_in mw_296) rfl rfl rfl (htl _ mw_5) (htl _ mw_293) hd_yX13_tell ⟨(Nat.le_of_ble_eq_true rfl), (Nat.le_of_ble_eq_true rfl)⟩, htl _ mw_294, htl _ mw_295⟩ rfl hl.1 rfl (Nat.le_of_ble_eq_true rfl) dX13_back_77 ⟨(Nat.le_of_ble_eq_true rfl), (Nat.le_of_ble_eq_true rfl)⟩ (fun v113 H locs F G R S hpo hM hS => ?_)
            obtain ⟨hIF, hIG, hIR, hfr9, hrr9, hgr9, hpo114⟩ := hpo
            have hq_v113 := tk_rng v113
            have hFF := mz_fr (K := [0, 1, 8]) (Fa := Fa) hfr9 hFF (by decide)
            have hRR := mz_fr (K := [2, 3]) (Fa := Ra) hrr9 hRR (by decide)
            have hGG := mz_fr (K := []) (Fa := Ga) hgr9 (fun _ _ => rfl) (by decide)
            have hre_3 : R 3 = va_cpy (Ra 4) (Ra 3) (5560 * p1.toInt.toNat) 0 5560 := (hrr9 3 (by decide)).trans hre_3
            have hf2 := (hfr9 0 (by decide)).trans hf2
            have hf112 := (hfr9 8 (by decide)).trans hf112
            exact mz_iret (v := v113) hx hb hr rfl hlocks ⟨hIF, hIG, hIR, hFF, hRR, hGG, ⟨(fun h6 h7 h8 => ⟨by omega, hre_3⟩), (fun h6 h7 h8 => (show False by omega).elim), (fun h9 => (show False by omega).elim)⟩⟩ hM hS dX13_back_80
          · have hc110 : ¬ (5560 ≤ v32.toInt) := fun h9 => c9 ((fi_le (show (5560 : Int32).toInt = 5560 by decide) rfl).mpr h9)
            refine lv_aload_n hx hb dX13_back_46 rfl (lv_at hl 1 rfl) ?_
            refine mz_getR hx hb htl hown hK hM 3 (Nat.le_of_ble_eq_true rfl) (Nat.le_of_ble_eq_true rfl) (htl _ mw_188) (fun _ h9 => h9) dX13_back_47 ?_
            refine lv_iload_n hx hb dX13_back_50 rfl (lv_at hl 0 rfl) ?_
            refine lv_aload_n hx hb dX13_back_51 rfl (lv_at hl 1 rfl) ?_
            refine mz_getR hx hb htl hown hK hM 4 (Nat.le_of_ble_eq_true rfl) (Nat.le_of_ble_eq_true rfl) (htl _ mw_189) (fun _ h9 => h9) dX13_back_52 ?_
            refine lv_sipush (v := 5560) hx hb dX13_back_55 (by decide) ?_
            refine lv_iload_n hx hb dX13_back_58 rfl (lv_at hl 2 rfl) ?_
            refine lv_imul hx hb dX13_back_59 ?_
            refine tk_mul (show (5560 : Int32).toInt = 5560 by decide) rfl (by omega) (by omega) (fun v116 h_v116 => ?_)
            refine lv_iload_n hx hb dX13_back_60 rfl (lv_at hl 0 rfl) ?_
            refine lv_iadd hx hb dX13_back_61 ?_
            refine tk_add rfl rfl (by omega) (by omega) (fun v117 h_v117 => ?_)
            refine mz_iald hx hb hK hM 4 (Nat.le_of_ble_eq_true rfl) rfl (nn := 11120) rfl rfl (by omega) (by omega) dX13_back_62 (fun v118 e_v118 => ?_)
            have hq_v118 := tk_rng v118
            refine mz_iast (x := v118) hx hb hK hD hM hS 3 (Nat.le_of_ble_eq_true rfl) rfl (nn := 5560) rfl rfl (by omega) (by omega) dX13_back_63 (fun H locs R hM hS hw9 hj9 => ?_)
            have hIR := hIR.putX hj9 (by decide)
            have hcp := mz_cps (sp := (5560 * p1.toInt.toNat)) (dp := 0) (n := v32.toInt.toNat) hw9 hcp (by omega) (by rw [← e_v118, hcs]; congr 1; have h9 := tk_nat (i := v117) rfl (by omega); omega)
            have hcs := (hj9 4 (by decide)).trans hcs
            have hRR := mz_frp (K := [2, 3]) (Fa := Ra) hj9 hRR (by decide)
            have e_v118 : R 4 (v117 : Int32).toNatClampNeg = _ := (congrFun (hj9 4 (by decide)) _).trans e_v118
            obtain ⟨v120, h_v120, e_v120⟩ := tk_inc v32 1 (by decide) (by omega) (by omega)
            refine lv_iinc (v := v120) (lv' := [(2, .int v120), (0, .ref am), (1, .int p1)]) hx hb dX13_back_64 hl (k := 0) rfl e_v120 (by decide) rfl (fun ls hl => ?_)
            refine lv_goto (tgt := 39) hx hb dX13_back_67 (by decide) ?_
            exact ih_l109 v120 _ _ _ (by omega) (by omega) hM hS hIR hRR (by rw [show v120.toInt.toNat = v32.toInt.toNat + 1 by omega]; exact hcp) hcs (by omega) _ (lv_sub hl [0, 1, 2] rfl)
      have hk_0 : (0 : Int32).toInt = 0 := by decide
      exact hl109 5561 0 _ _ _ (by omega) (by omega) hM hS hIR (fun _ _ => rfl) (by rw [show (0 : Int32).toInt.toNat = 0 by decide, mz_cp0]; exact ecg) ecf (by omega) _ (lv_sub hl [0, 1, 2] rfl)
    · have hc18 : v17.toInt = 0 := (fi_eq rfl (show (0 : Int32).toInt = 0 by decide)).mp c9
      refine lv_aload_n hx hb dX13_back_30 rfl (lv_at hl 0 rfl) ?_
      refine lv_bipush (v := (-2)) hx hb dX13_back_31 (by decide) ?_
      have hk_m2 : ((-2) : Int32).toInt = (-2) := by decide
      refine mz_Vi (As := [.int (-2)]) (rest := []) ⟨hx, hb, hml, hown, hts⟩ hK hM hS (k_X13_tell l D cy ld ad am hD _ _ _ _ (-2) hIF hIG hIR (by omega) (by omega)) ⟨callB_of 1 hts (wl_in mw_296) rfl rfl rfl (htl _ mw_5) (htl _ mw_293) hd_yX13_tell ⟨(Nat.le_of_ble_eq_true rfl), (Nat.le_of_ble_eq_true rfl)⟩, htl _ mw_294, htl _ mw_295⟩ rfl hl.1 rfl (Nat.le_of_ble_eq_true rfl) dX13_back_33 ⟨(Nat.le_of_ble_eq_true rfl), (Nat.le_of_ble_eq_true rfl)⟩ (fun v121 H locs F G R S hpo hM hS => ?_)
      obtain ⟨hIF, hIG, hIR, hfr9, hrr9, hgr9, hpo122⟩ := hpo
      have hq_v121 := tk_rng v121
      have hFF := mz_fr (K := [0, 1, 8]) (Fa := Fa) hfr9 hFF (by decide)
      have hRR := mz_fr (K := [2, 3]) (Fa := Ra) hrr9 (fun _ _ => rfl) (by decide)
      have hGG := mz_fr (K := []) (Fa := Ga) hgr9 (fun _ _ => rfl) (by decide)
      have hre_3 : R 3 = Ra 3 := (hrr9 3 (by decide)).trans (rfl : Ra 3 = Ra 3)
      have hf2 := (hfr9 0 (by decide)).trans hf2
      exact mz_iret (v := v121) hx hb hr rfl hlocks ⟨hIF, hIG, hIR, hFF, hRR, hGG, ⟨(fun h6 h7 h8 => (show False by omega).elim), (fun h6 h7 h8 => (by first | exact ⟨by omega, hre_3⟩ | exact (show False by omega).elim)), (fun h9 => (by first | exact ⟨by omega, hre_3⟩ | exact (show False by omega).elim))⟩⟩ hM hS dX13_back_36
  · have hc15 : v4.toInt = 0 := (fi_eq rfl (show (0 : Int32).toInt = 0 by decide)).mp c9
    refine lv_aload_n hx hb dX13_back_15 rfl (lv_at hl 0 rfl) ?_
    refine lv_iconst (v := (-1)) hx hb dX13_back_16 (by decide) ?_
    have hk_m1 : ((-1) : Int32).toInt = (-1) := by decide
    refine mz_Vi (As := [.int (-1)]) (rest := []) ⟨hx, hb, hml, hown, hts⟩ hK hM hS (k_X13_tell l D cy ld ad am hD _ _ _ _ (-1) hIF hIG hIR (by omega) (by omega)) ⟨callB_of 1 hts (wl_in mw_296) rfl rfl rfl (htl _ mw_5) (htl _ mw_293) hd_yX13_tell ⟨(Nat.le_of_ble_eq_true rfl), (Nat.le_of_ble_eq_true rfl)⟩, htl _ mw_294, htl _ mw_295⟩ rfl hl.1 rfl (Nat.le_of_ble_eq_true rfl) dX13_back_17 ⟨(Nat.le_of_ble_eq_true rfl), (Nat.le_of_ble_eq_true rfl)⟩ (fun v124 H locs F G R S hpo hM hS => ?_)
    obtain ⟨hIF, hIG, hIR, hfr9, hrr9, hgr9, hpo125⟩ := hpo
    have hq_v124 := tk_rng v124
    have hFF := mz_fr (K := [0, 1, 8]) (Fa := Fa) hfr9 hFF (by decide)
    have hRR := mz_fr (K := [2, 3]) (Fa := Ra) hrr9 (fun _ _ => rfl) (by decide)
    have hGG := mz_fr (K := []) (Fa := Ga) hgr9 (fun _ _ => rfl) (by decide)
    have hre_3 : R 3 = Ra 3 := (hrr9 3 (by decide)).trans (rfl : Ra 3 = Ra 3)
    have hf2 := (hfr9 0 (by decide)).trans hf2
    exact mz_iret (v := v124) hx hb hr rfl hlocks ⟨hIF, hIG, hIR, hFF, hRR, hGG, ⟨(fun h6 h7 h8 => (show False by omega).elim), (fun h6 h7 h8 => (by first | exact ⟨by omega, hre_3⟩ | exact (show False by omega).elim)), (fun h9 => (by first | exact ⟨by omega, hre_3⟩ | exact (show False by omega).elim))⟩⟩ hM hS dX13_back_20
