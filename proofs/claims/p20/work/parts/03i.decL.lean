theorem dL_isSo_367 : decode cL_isSo 367 = .ok (.iinc 2 1, 3) := by decide +kernel
theorem dL_isSo_370 : decode cL_isSo 370 = .ok (.goto (-41), 3) := by decide +kernel
theorem dL_isSo_373 : decode cL_isSo 373 = .ok (.iload_n 1, 1) := by decide +kernel
theorem dL_isSo_374 : decode cL_isSo 374 = .ok (.ifCond .eq 46, 3) := by decide +kernel
theorem dL_isSo_377 : decode cL_isSo 377 = .ok (.aload_n 0, 1) := by decide +kernel
theorem dL_isSo_378 : decode cL_isSo 378 = .ok (.iconst (-1), 1) := by decide +kernel
theorem dL_isSo_379 : decode cL_isSo 379 = .ok (.invokestatic 106, 3) := by decide +kernel
theorem dL_isSo_382 : decode cL_isSo 382 = .ok (.ldc2_w 16, 3) := by decide +kernel
theorem dL_isSo_385 : decode cL_isSo 385 = .ok (.lcmp, 1) := by decide +kernel
theorem dL_isSo_386 : decode cL_isSo 386 = .ok (.ifCond .ne 34, 3) := by decide +kernel
theorem dL_isSo_389 : decode cL_isSo 389 = .ok (.aload_n 0, 1) := by decide +kernel
theorem dL_isSo_390 : decode cL_isSo 390 = .ok (.bipush 12, 2) := by decide +kernel
theorem dL_isSo_392 : decode cL_isSo 392 = .ok (.iconst 0, 1) := by decide +kernel
theorem dL_isSo_393 : decode cL_isSo 393 = .ok (.invokestatic 112, 3) := by decide +kernel
theorem dL_isSo_396 : decode cL_isSo 396 = .ok (.ldc2_w 16, 3) := by decide +kernel
theorem dL_isSo_399 : decode cL_isSo 399 = .ok (.lcmp, 1) := by decide +kernel
theorem dL_isSo_400 : decode cL_isSo 400 = .ok (.ifCond .ne 20, 3) := by decide +kernel
theorem dL_isSo_403 : decode cL_isSo 403 = .ok (.aload_n 0, 1) := by decide +kernel
theorem dL_isSo_404 : decode cL_isSo 404 = .ok (.bipush 16, 2) := by decide +kernel
theorem dL_isSo_406 : decode cL_isSo 406 = .ok (.invokestatic 104, 3) := by decide +kernel
theorem dL_isSo_409 : decode cL_isSo 409 = .ok (.ldc2_w 16, 3) := by decide +kernel
theorem dL_isSo_412 : decode cL_isSo 412 = .ok (.lcmp, 1) := by decide +kernel
theorem dL_isSo_413 : decode cL_isSo 413 = .ok (.ifCond .ne 7, 3) := by decide +kernel
theorem dL_isSo_416 : decode cL_isSo 416 = .ok (.iconst 1, 1) := by decide +kernel
theorem dL_isSo_417 : decode cL_isSo 417 = .ok (.goto 4, 3) := by decide +kernel
theorem dL_isSo_420 : decode cL_isSo 420 = .ok (.iconst 0, 1) := by decide +kernel
theorem dL_isSo_421 : decode cL_isSo 421 = .ok (.ireturn, 1) := by decide +kernel
