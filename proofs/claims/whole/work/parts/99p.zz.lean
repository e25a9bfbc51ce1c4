theorem zz99p : True := trivial
