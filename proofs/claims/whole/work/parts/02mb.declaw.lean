theorem dL_law_3332 : decode cL_law 3332 = .ok (.iadd, 1) := by decide +kernel
theorem dL_law_3333 : decode cL_law 3333 = .ok (.iaload, 1) := by decide +kernel
theorem dL_law_3334 : decode cL_law 3334 = .ok (.aload_n 3, 1) := by decide +kernel
theorem dL_law_3335 : decode cL_law 3335 = .ok (.invokestatic 343, 3) := by decide +kernel
theorem dL_law_3338 : decode cL_law 3338 = .ok (.istore 6, 2) := by decide +kernel
theorem dL_law_3340 : decode cL_law 3340 = .ok (.aload_n 2, 1) := by decide +kernel
theorem dL_law_3341 : decode cL_law 3341 = .ok (.aload_n 0, 1) := by decide +kernel
theorem dL_law_3342 : decode cL_law 3342 = .ok (.iload 5, 2) := by decide +kernel
theorem dL_law_3344 : decode cL_law 3344 = .ok (.iconst 1, 1) := by decide +kernel
theorem dL_law_3345 : decode cL_law 3345 = .ok (.iadd, 1) := by decide +kernel
theorem dL_law_3346 : decode cL_law 3346 = .ok (.iaload, 1) := by decide +kernel
theorem dL_law_3347 : decode cL_law 3347 = .ok (.aload_n 0, 1) := by decide +kernel
theorem dL_law_3348 : decode cL_law 3348 = .ok (.iload 5, 2) := by decide +kernel
theorem dL_law_3350 : decode cL_law 3350 = .ok (.iconst 2, 1) := by decide +kernel
theorem dL_law_3351 : decode cL_law 3351 = .ok (.iadd, 1) := by decide +kernel
theorem dL_law_3352 : decode cL_law 3352 = .ok (.iaload, 1) := by decide +kernel
theorem dL_law_3353 : decode cL_law 3353 = .ok (.invokevirtual 345, 3) := by decide +kernel
theorem dL_law_3356 : decode cL_law 3356 = .ok (.istore 7, 2) := by decide +kernel
theorem dL_law_3358 : decode cL_law 3358 = .ok (.aload_n 2, 1) := by decide +kernel
theorem dL_law_3359 : decode cL_law 3359 = .ok (.invokevirtual 188, 3) := by decide +kernel
theorem dL_law_3362 : decode cL_law 3362 = .ok (.iload 6, 2) := by decide +kernel
theorem dL_law_3364 : decode cL_law 3364 = .ok (.if_icmp .eq 5, 3) := by decide +kernel
theorem dL_law_3367 : decode cL_law 3367 = .ok (.iconst 0, 1) := by decide +kernel
theorem dL_law_3368 : decode cL_law 3368 = .ok (.ireturn, 1) := by decide +kernel
theorem dL_law_3369 : decode cL_law 3369 = .ok (.iload 6, 2) := by decide +kernel
theorem dL_law_3371 : decode cL_law 3371 = .ok (.ifCond .ne 15, 3) := by decide +kernel
theorem dL_law_3374 : decode cL_law 3374 = .ok (.aload_n 3, 1) := by decide +kernel
theorem dL_law_3375 : decode cL_law 3375 = .ok (.iconst 0, 1) := by decide +kernel
theorem dL_law_3376 : decode cL_law 3376 = .ok (.laload, 1) := by decide +kernel
theorem dL_law_3377 : decode cL_law 3377 = .ok (.iload 7, 2) := by decide +kernel
theorem dL_law_3379 : decode cL_law 3379 = .ok (.i2l, 1) := by decide +kernel
theorem dL_law_3380 : decode cL_law 3380 = .ok (.lcmp, 1) := by decide +kernel
theorem dL_law_3381 : decode cL_law 3381 = .ok (.ifCond .eq 5, 3) := by decide +kernel
theorem dL_law_3384 : decode cL_law 3384 = .ok (.iconst 0, 1) := by decide +kernel
theorem dL_law_3385 : decode cL_law 3385 = .ok (.ireturn, 1) := by decide +kernel
theorem dL_law_3386 : decode cL_law 3386 = .ok (.goto 147, 3) := by decide +kernel
theorem dL_law_3389 : decode cL_law 3389 = .ok (.aload_n 1, 1) := by decide +kernel
theorem dL_law_3390 : decode cL_law 3390 = .ok (.aload_n 0, 1) := by decide +kernel
theorem dL_law_3391 : decode cL_law 3391 = .ok (.iload 5, 2) := by decide +kernel
theorem dL_law_3393 : decode cL_law 3393 = .ok (.iconst 1, 1) := by decide +kernel
theorem dL_law_3394 : decode cL_law 3394 = .ok (.iadd, 1) := by decide +kernel
theorem dL_law_3395 : decode cL_law 3395 = .ok (.iaload, 1) := by decide +kernel
theorem dL_law_3396 : decode cL_law 3396 = .ok (.aload_n 0, 1) := by decide +kernel
theorem dL_law_3397 : decode cL_law 3397 = .ok (.iload 5, 2) := by decide +kernel
theorem dL_law_3399 : decode cL_law 3399 = .ok (.iconst 2, 1) := by decide +kernel
theorem dL_law_3400 : decode cL_law 3400 = .ok (.iadd, 1) := by decide +kernel
theorem dL_law_3401 : decode cL_law 3401 = .ok (.iaload, 1) := by decide +kernel
theorem dL_law_3402 : decode cL_law 3402 = .ok (.aload_n 3, 1) := by decide +kernel
theorem dL_law_3403 : decode cL_law 3403 = .ok (.invokestatic 346, 3) := by decide +kernel
theorem dL_law_3406 : decode cL_law 3406 = .ok (.istore 6, 2) := by decide +kernel
theorem dL_law_3408 : decode cL_law 3408 = .ok (.aload_n 2, 1) := by decide +kernel
theorem dL_law_3409 : decode cL_law 3409 = .ok (.aload_n 0, 1) := by decide +kernel
theorem dL_law_3410 : decode cL_law 3410 = .ok (.iload 5, 2) := by decide +kernel
theorem dL_law_3412 : decode cL_law 3412 = .ok (.iconst 1, 1) := by decide +kernel
theorem dL_law_3413 : decode cL_law 3413 = .ok (.iadd, 1) := by decide +kernel
theorem dL_law_3414 : decode cL_law 3414 = .ok (.iaload, 1) := by decide +kernel
theorem dL_law_3415 : decode cL_law 3415 = .ok (.aload_n 0, 1) := by decide +kernel
theorem dL_law_3416 : decode cL_law 3416 = .ok (.iload 5, 2) := by decide +kernel
theorem dL_law_3418 : decode cL_law 3418 = .ok (.iconst 2, 1) := by decide +kernel
theorem dL_law_3419 : decode cL_law 3419 = .ok (.iadd, 1) := by decide +kernel
theorem dL_law_3420 : decode cL_law 3420 = .ok (.iaload, 1) := by decide +kernel
theorem dL_law_3421 : decode cL_law 3421 = .ok (.invokevirtual 348, 3) := by decide +kernel
theorem dL_law_3424 : decode cL_law 3424 = .ok (.istore 7, 2) := by decide +kernel
theorem dL_law_3426 : decode cL_law 3426 = .ok (.aload_n 2, 1) := by decide +kernel
theorem dL_law_3427 : decode cL_law 3427 = .ok (.invokevirtual 188, 3) := by decide +kernel
theorem dL_law_3430 : decode cL_law 3430 = .ok (.iload 6, 2) := by decide +kernel
theorem dL_law_3432 : decode cL_law 3432 = .ok (.if_icmp .eq 5, 3) := by decide +kernel
theorem dL_law_3435 : decode cL_law 3435 = .ok (.iconst 0, 1) := by decide +kernel
theorem dL_law_3436 : decode cL_law 3436 = .ok (.ireturn, 1) := by decide +kernel
theorem dL_law_3437 : decode cL_law 3437 = .ok (.iload 6, 2) := by decide +kernel
theorem dL_law_3439 : decode cL_law 3439 = .ok (.ifCond .ne 15, 3) := by decide +kernel
theorem dL_law_3442 : decode cL_law 3442 = .ok (.aload_n 3, 1) := by decide +kernel
theorem dL_law_3443 : decode cL_law 3443 = .ok (.iconst 0, 1) := by decide +kernel
theorem dL_law_3444 : decode cL_law 3444 = .ok (.laload, 1) := by decide +kernel
theorem dL_law_3445 : decode cL_law 3445 = .ok (.iload 7, 2) := by decide +kernel
theorem dL_law_3447 : decode cL_law 3447 = .ok (.i2l, 1) := by decide +kernel
theorem dL_law_3448 : decode cL_law 3448 = .ok (.lcmp, 1) := by decide +kernel
theorem dL_law_3449 : decode cL_law 3449 = .ok (.ifCond .eq 5, 3) := by decide +kernel
theorem dL_law_3452 : decode cL_law 3452 = .ok (.iconst 0, 1) := by decide +kernel
theorem dL_law_3453 : decode cL_law 3453 = .ok (.ireturn, 1) := by decide +kernel
theorem dL_law_3454 : decode cL_law 3454 = .ok (.goto 79, 3) := by decide +kernel
theorem dL_law_3457 : decode cL_law 3457 = .ok (.aload_n 1, 1) := by decide +kernel
theorem dL_law_3458 : decode cL_law 3458 = .ok (.aload_n 0, 1) := by decide +kernel
theorem dL_law_3459 : decode cL_law 3459 = .ok (.iload 5, 2) := by decide +kernel
theorem dL_law_3461 : decode cL_law 3461 = .ok (.iconst 1, 1) := by decide +kernel
theorem dL_law_3462 : decode cL_law 3462 = .ok (.iadd, 1) := by decide +kernel
theorem dL_law_3463 : decode cL_law 3463 = .ok (.iaload, 1) := by decide +kernel
theorem dL_law_3464 : decode cL_law 3464 = .ok (.aload_n 3, 1) := by decide +kernel
theorem dL_law_3465 : decode cL_law 3465 = .ok (.invokestatic 349, 3) := by decide +kernel
theorem dL_law_3468 : decode cL_law 3468 = .ok (.istore 6, 2) := by decide +kernel
theorem dL_law_3470 : decode cL_law 3470 = .ok (.aload_n 2, 1) := by decide +kernel
theorem dL_law_3471 : decode cL_law 3471 = .ok (.aload_n 0, 1) := by decide +kernel
theorem dL_law_3472 : decode cL_law 3472 = .ok (.iload 5, 2) := by decide +kernel
theorem dL_law_3474 : decode cL_law 3474 = .ok (.iconst 1, 1) := by decide +kernel
theorem dL_law_3475 : decode cL_law 3475 = .ok (.iadd, 1) := by decide +kernel
theorem dL_law_3476 : decode cL_law 3476 = .ok (.iaload, 1) := by decide +kernel
theorem dL_law_3477 : decode cL_law 3477 = .ok (.invokevirtual 351, 3) := by decide +kernel
theorem dL_law_3480 : decode cL_law 3480 = .ok (.istore 7, 2) := by decide +kernel
theorem dL_law_3482 : decode cL_law 3482 = .ok (.aload_n 2, 1) := by decide +kernel
theorem dL_law_3483 : decode cL_law 3483 = .ok (.invokevirtual 188, 3) := by decide +kernel
theorem dL_law_3486 : decode cL_law 3486 = .ok (.iload 6, 2) := by decide +kernel
theorem dL_law_3488 : decode cL_law 3488 = .ok (.if_icmp .eq 5, 3) := by decide +kernel
theorem dL_law_3491 : decode cL_law 3491 = .ok (.iconst 0, 1) := by decide +kernel
theorem dL_law_3492 : decode cL_law 3492 = .ok (.ireturn, 1) := by decide +kernel
theorem dL_law_3493 : decode cL_law 3493 = .ok (.iload 6, 2) := by decide +kernel
theorem dL_law_3495 : decode cL_law 3495 = .ok (.ifCond .ne 22, 3) := by decide +kernel
theorem dL_law_3498 : decode cL_law 3498 = .ok (.aload_n 3, 1) := by decide +kernel
theorem dL_law_3499 : decode cL_law 3499 = .ok (.iconst 0, 1) := by decide +kernel
theorem dL_law_3500 : decode cL_law 3500 = .ok (.laload, 1) := by decide +kernel
theorem dL_law_3501 : decode cL_law 3501 = .ok (.iload 7, 2) := by decide +kernel
theorem dL_law_3503 : decode cL_law 3503 = .ok (.ifCond .eq 7, 3) := by decide +kernel
theorem dL_law_3506 : decode cL_law 3506 = .ok (.lconst 1, 1) := by decide +kernel
theorem dL_law_3507 : decode cL_law 3507 = .ok (.goto 4, 3) := by decide +kernel
theorem dL_law_3510 : decode cL_law 3510 = .ok (.lconst 0, 1) := by decide +kernel
theorem dL_law_3511 : decode cL_law 3511 = .ok (.lcmp, 1) := by decide +kernel
theorem dL_law_3512 : decode cL_law 3512 = .ok (.ifCond .eq 5, 3) := by decide +kernel
theorem dL_law_3515 : decode cL_law 3515 = .ok (.iconst 0, 1) := by decide +kernel
theorem dL_law_3516 : decode cL_law 3516 = .ok (.ireturn, 1) := by decide +kernel
theorem dL_law_3517 : decode cL_law 3517 = .ok (.goto 16, 3) := by decide +kernel
theorem dL_law_3520 : decode cL_law 3520 = .ok (.aload_n 1, 1) := by decide +kernel
theorem dL_law_3521 : decode cL_law 3521 = .ok (.invokevirtual 352, 3) := by decide +kernel
theorem dL_law_3524 : decode cL_law 3524 = .ok (.aload_n 2, 1) := by decide +kernel
theorem dL_law_3525 : decode cL_law 3525 = .ok (.invokevirtual 356, 3) := by decide +kernel
theorem dL_law_3528 : decode cL_law 3528 = .ok (.if_icmp .eq 5, 3) := by decide +kernel
theorem dL_law_3531 : decode cL_law 3531 = .ok (.iconst 0, 1) := by decide +kernel
theorem dL_law_3532 : decode cL_law 3532 = .ok (.ireturn, 1) := by decide +kernel
theorem dL_law_3533 : decode cL_law 3533 = .ok (.iinc 5 4, 3) := by decide +kernel
theorem dL_law_3536 : decode cL_law 3536 = .ok (.goto (-3508), 3) := by decide +kernel
theorem dL_law_3539 : decode cL_law 3539 = .ok (.iconst 1, 1) := by decide +kernel
theorem dL_law_3540 : decode cL_law 3540 = .ok (.ireturn, 1) := by decide +kernel
